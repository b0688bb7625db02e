section
-- ===== PART A: goes FIRST, ahead of the names: the tables' words, and 'selects' of the private methods out of them =====
/-- a private method of a class that the tables say can be made, by its rows of tables_1 -/
def lw_okq (q : MethodName × Nat) : Prop := (q.1.cls ≠ "java/lang/invoke/MethodHandle" ∧ q.1.cls ≠ "java/lang/invoke/VarHandle") ∧ Cond.instantiable q.1.cls q.2 ∈ tables_1 ∧ Cond.privateMethod q.1 ∈ tables_1 ∧ Cond.instanceMethod q.1 ∈ tables_1
theorem lw_p0 : lw_okq (⟨"KindGuesser$NameSide", "isAhead", "(II)Z"⟩, 10) := ⟨⟨by decide +kernel, by decide +kernel⟩, List.mem_of_getElem? (i := 38) (by decide +kernel), List.mem_of_getElem? (i := 176) (by decide +kernel), List.mem_of_getElem? (i := 177) (by decide +kernel)⟩
theorem lw_p1 : lw_okq (⟨"KindGuesser$NameSide", "isOf", "(LKindGuesser$KindTree;II)Z"⟩, 10) := ⟨⟨by decide +kernel, by decide +kernel⟩, List.mem_of_getElem? (i := 38) (by decide +kernel), List.mem_of_getElem? (i := 180) (by decide +kernel), List.mem_of_getElem? (i := 181) (by decide +kernel)⟩
theorem lw_p2 : lw_okq (⟨"KindGuesser$NameSide", "reachedAfter", "(II)I"⟩, 10) := ⟨⟨by decide +kernel, by decide +kernel⟩, List.mem_of_getElem? (i := 38) (by decide +kernel), List.mem_of_getElem? (i := 200) (by decide +kernel), List.mem_of_getElem? (i := 201) (by decide +kernel)⟩
theorem lw_p3 : lw_okq (⟨"KindGuesser$NameSide", "standsFor", "(II)Z"⟩, 10) := ⟨⟨by decide +kernel, by decide +kernel⟩, List.mem_of_getElem? (i := 38) (by decide +kernel), List.mem_of_getElem? (i := 207) (by decide +kernel), List.mem_of_getElem? (i := 208) (by decide +kernel)⟩
theorem lw_p4 : lw_okq (⟨"KindGuesser$ByteSide", "holds", "(I)Z"⟩, 12) := ⟨⟨by decide +kernel, by decide +kernel⟩, List.mem_of_getElem? (i := 76) (by decide +kernel), List.mem_of_getElem? (i := 231) (by decide +kernel), List.mem_of_getElem? (i := 232) (by decide +kernel)⟩
theorem lw_p5 : lw_okq (⟨"KindGuesser$ByteSide", "leadsBelow", "(II)Z"⟩, 12) := ⟨⟨by decide +kernel, by decide +kernel⟩, List.mem_of_getElem? (i := 76) (by decide +kernel), List.mem_of_getElem? (i := 235) (by decide +kernel), List.mem_of_getElem? (i := 236) (by decide +kernel)⟩
theorem lw_p6 : lw_okq (⟨"KindGuesser", "guessWithBytes", "(II)I"⟩, 4) := ⟨⟨by decide +kernel, by decide +kernel⟩, List.mem_of_getElem? (i := 16) (by decide +kernel), List.mem_of_getElem? (i := 251) (by decide +kernel), List.mem_of_getElem? (i := 252) (by decide +kernel)⟩
theorem lw_p7 : lw_okq (⟨"java/lang/Throwable", "fillInStackTrace", "(I)Ljava/lang/Throwable;"⟩, 6) := ⟨⟨by decide +kernel, by decide +kernel⟩, List.mem_of_getElem? (i := 314) (by decide +kernel), List.mem_of_getElem? (i := 312) (by decide +kernel), List.mem_of_getElem? (i := 313) (by decide +kernel)⟩
theorem lw_p8 : lw_okq (⟨"KindGuesser", "requireKind", "(I)V"⟩, 4) := ⟨⟨by decide +kernel, by decide +kernel⟩, List.mem_of_getElem? (i := 16) (by decide +kernel), List.mem_of_getElem? (i := 376) (by decide +kernel), List.mem_of_getElem? (i := 377) (by decide +kernel)⟩
theorem lw_p9 : lw_okq (⟨"KindGuesser", "requirePattern", "(I)V"⟩, 4) := ⟨⟨by decide +kernel, by decide +kernel⟩, List.mem_of_getElem? (i := 16) (by decide +kernel), List.mem_of_getElem? (i := 426) (by decide +kernel), List.mem_of_getElem? (i := 427) (by decide +kernel)⟩
theorem lw_p10 : lw_okq (⟨"KindGuesser", "requireRule", "(I)V"⟩, 4) := ⟨⟨by decide +kernel, by decide +kernel⟩, List.mem_of_getElem? (i := 16) (by decide +kernel), List.mem_of_getElem? (i := 459) (by decide +kernel), List.mem_of_getElem? (i := 460) (by decide +kernel)⟩
theorem lw_p11 : lw_okq (⟨"KindGuesser$NameSide", "fillLine", "(II)V"⟩, 10) := ⟨⟨by decide +kernel, by decide +kernel⟩, List.mem_of_getElem? (i := 38) (by decide +kernel), List.mem_of_getElem? (i := 537) (by decide +kernel), List.mem_of_getElem? (i := 538) (by decide +kernel)⟩
theorem lw_p12 : lw_okq (⟨"KindGuesser$ProgramLists", "openersOf", "(I)I"⟩, 2) := ⟨⟨by decide +kernel, by decide +kernel⟩, List.mem_of_getElem? (i := 119) (by decide +kernel), List.mem_of_getElem? (i := 585) (by decide +kernel), List.mem_of_getElem? (i := 586) (by decide +kernel)⟩
theorem lw_p13 : lw_okq (⟨"KindGuesser$ProgramLists", "opens", "(II)Z"⟩, 2) := ⟨⟨by decide +kernel, by decide +kernel⟩, List.mem_of_getElem? (i := 119) (by decide +kernel), List.mem_of_getElem? (i := 589) (by decide +kernel), List.mem_of_getElem? (i := 590) (by decide +kernel)⟩
theorem lw_p14 : lw_okq (⟨"KindGuesser$ProgramLists", "defaultOf", "(I)I"⟩, 2) := ⟨⟨by decide +kernel, by decide +kernel⟩, List.mem_of_getElem? (i := 119) (by decide +kernel), List.mem_of_getElem? (i := 626) (by decide +kernel), List.mem_of_getElem? (i := 627) (by decide +kernel)⟩
theorem lw_p15 : lw_okq (⟨"KindGuesserModel", "isKind", "(I)Z"⟩, 24) := ⟨⟨by decide +kernel, by decide +kernel⟩, List.mem_of_getElem? (i := 630) (by decide +kernel), List.mem_of_getElem? (i := 717) (by decide +kernel), List.mem_of_getElem? (i := 718) (by decide +kernel)⟩
def lw_privs_1 : List (MethodName × Nat) := [(⟨"KindGuesser$NameSide", "isAhead", "(II)Z"⟩, 10), (⟨"KindGuesser$NameSide", "isOf", "(LKindGuesser$KindTree;II)Z"⟩, 10), (⟨"KindGuesser$NameSide", "reachedAfter", "(II)I"⟩, 10), (⟨"KindGuesser$NameSide", "standsFor", "(II)Z"⟩, 10), (⟨"KindGuesser$ByteSide", "holds", "(I)Z"⟩, 12), (⟨"KindGuesser$ByteSide", "leadsBelow", "(II)Z"⟩, 12), (⟨"KindGuesser", "guessWithBytes", "(II)I"⟩, 4), (⟨"java/lang/Throwable", "fillInStackTrace", "(I)Ljava/lang/Throwable;"⟩, 6), (⟨"KindGuesser", "requireKind", "(I)V"⟩, 4), (⟨"KindGuesser", "requirePattern", "(I)V"⟩, 4), (⟨"KindGuesser", "requireRule", "(I)V"⟩, 4), (⟨"KindGuesser$NameSide", "fillLine", "(II)V"⟩, 10), (⟨"KindGuesser$ProgramLists", "openersOf", "(I)I"⟩, 2), (⟨"KindGuesser$ProgramLists", "opens", "(II)Z"⟩, 2), (⟨"KindGuesser$ProgramLists", "defaultOf", "(I)I"⟩, 2), (⟨"KindGuesserModel", "isKind", "(I)Z"⟩, 24)]
theorem lw_r1 : ∀ q ∈ lw_privs_1, lw_okq q := List.forall_mem_cons.mpr ⟨lw_p0, List.forall_mem_cons.mpr ⟨lw_p1, List.forall_mem_cons.mpr ⟨lw_p2, List.forall_mem_cons.mpr ⟨lw_p3, List.forall_mem_cons.mpr ⟨lw_p4, List.forall_mem_cons.mpr ⟨lw_p5, List.forall_mem_cons.mpr ⟨lw_p6, List.forall_mem_cons.mpr ⟨lw_p7, List.forall_mem_cons.mpr ⟨lw_p8, List.forall_mem_cons.mpr ⟨lw_p9, List.forall_mem_cons.mpr ⟨lw_p10, List.forall_mem_cons.mpr ⟨lw_p11, List.forall_mem_cons.mpr ⟨lw_p12, List.forall_mem_cons.mpr ⟨lw_p13, List.forall_mem_cons.mpr ⟨lw_p14, List.forall_mem_cons.mpr ⟨lw_p15, fun _ h => absurd h List.not_mem_nil⟩⟩⟩⟩⟩⟩⟩⟩⟩⟩⟩⟩⟩⟩⟩⟩
theorem lw_p16 : lw_okq (⟨"KindGuesserModel", "asked", "(ZZ)Z"⟩, 24) := ⟨⟨by decide +kernel, by decide +kernel⟩, List.mem_of_getElem? (i := 630) (by decide +kernel), List.mem_of_getElem? (i := 724) (by decide +kernel), List.mem_of_getElem? (i := 725) (by decide +kernel)⟩
theorem lw_p17 : lw_okq (⟨"KindGuesserModel", "asked", "(ZZZ)Z"⟩, 24) := ⟨⟨by decide +kernel, by decide +kernel⟩, List.mem_of_getElem? (i := 630) (by decide +kernel), List.mem_of_getElem? (i := 735) (by decide +kernel), List.mem_of_getElem? (i := 736) (by decide +kernel)⟩
theorem lw_p18 : lw_okq (⟨"KindGuesserModel", "isThere", "(I)Z"⟩, 24) := ⟨⟨by decide +kernel, by decide +kernel⟩, List.mem_of_getElem? (i := 630) (by decide +kernel), List.mem_of_getElem? (i := 743) (by decide +kernel), List.mem_of_getElem? (i := 744) (by decide +kernel)⟩
theorem lw_p19 : lw_okq (⟨"KindGuesserModel", "asked", "(Z)Z"⟩, 24) := ⟨⟨by decide +kernel, by decide +kernel⟩, List.mem_of_getElem? (i := 630) (by decide +kernel), List.mem_of_getElem? (i := 747) (by decide +kernel), List.mem_of_getElem? (i := 748) (by decide +kernel)⟩
theorem lw_p20 : lw_okq (⟨"KindGuesserModel", "isRule", "(I)Z"⟩, 24) := ⟨⟨by decide +kernel, by decide +kernel⟩, List.mem_of_getElem? (i := 630) (by decide +kernel), List.mem_of_getElem? (i := 759) (by decide +kernel), List.mem_of_getElem? (i := 760) (by decide +kernel)⟩
theorem lw_p21 : lw_okq (⟨"KindGuesserModel", "told", "(I)I"⟩, 24) := ⟨⟨by decide +kernel, by decide +kernel⟩, List.mem_of_getElem? (i := 630) (by decide +kernel), List.mem_of_getElem? (i := 767) (by decide +kernel), List.mem_of_getElem? (i := 768) (by decide +kernel)⟩
theorem lw_p22 : lw_okq (⟨"KindGuesserModel", "special", "(II)Z"⟩, 24) := ⟨⟨by decide +kernel, by decide +kernel⟩, List.mem_of_getElem? (i := 630) (by decide +kernel), List.mem_of_getElem? (i := 775) (by decide +kernel), List.mem_of_getElem? (i := 776) (by decide +kernel)⟩
theorem lw_p23 : lw_okq (⟨"KindGuesserModel", "fit", "(I)Z"⟩, 24) := ⟨⟨by decide +kernel, by decide +kernel⟩, List.mem_of_getElem? (i := 630) (by decide +kernel), List.mem_of_getElem? (i := 795) (by decide +kernel), List.mem_of_getElem? (i := 796) (by decide +kernel)⟩
theorem lw_p24 : lw_okq (⟨"KindGuesserModel", "proof", "(I)Z"⟩, 24) := ⟨⟨by decide +kernel, by decide +kernel⟩, List.mem_of_getElem? (i := 630) (by decide +kernel), List.mem_of_getElem? (i := 808) (by decide +kernel), List.mem_of_getElem? (i := 809) (by decide +kernel)⟩
theorem lw_p25 : lw_okq (⟨"KindGuesserModel", "holds", "(I)Z"⟩, 24) := ⟨⟨by decide +kernel, by decide +kernel⟩, List.mem_of_getElem? (i := 630) (by decide +kernel), List.mem_of_getElem? (i := 812) (by decide +kernel), List.mem_of_getElem? (i := 813) (by decide +kernel)⟩
theorem lw_p26 : lw_okq (⟨"KindGuesserModel", "named", "()I"⟩, 24) := ⟨⟨by decide +kernel, by decide +kernel⟩, List.mem_of_getElem? (i := 630) (by decide +kernel), List.mem_of_getElem? (i := 820) (by decide +kernel), List.mem_of_getElem? (i := 821) (by decide +kernel)⟩
theorem lw_p27 : lw_okq (⟨"KindGuesserModel", "first", "(I)I"⟩, 24) := ⟨⟨by decide +kernel, by decide +kernel⟩, List.mem_of_getElem? (i := 630) (by decide +kernel), List.mem_of_getElem? (i := 824) (by decide +kernel), List.mem_of_getElem? (i := 825) (by decide +kernel)⟩
theorem lw_p28 : lw_okq (⟨"KindGuesserModel", "proven", "()I"⟩, 24) := ⟨⟨by decide +kernel, by decide +kernel⟩, List.mem_of_getElem? (i := 630) (by decide +kernel), List.mem_of_getElem? (i := 832) (by decide +kernel), List.mem_of_getElem? (i := 833) (by decide +kernel)⟩
theorem lw_p29 : lw_okq (⟨"KindGuesserModel", "listed", "(II)I"⟩, 24) := ⟨⟨by decide +kernel, by decide +kernel⟩, List.mem_of_getElem? (i := 630) (by decide +kernel), List.mem_of_getElem? (i := 855) (by decide +kernel), List.mem_of_getElem? (i := 856) (by decide +kernel)⟩
theorem lw_p30 : lw_okq (⟨"KindGuesserModel", "opens", "(II)Z"⟩, 24) := ⟨⟨by decide +kernel, by decide +kernel⟩, List.mem_of_getElem? (i := 630) (by decide +kernel), List.mem_of_getElem? (i := 859) (by decide +kernel), List.mem_of_getElem? (i := 860) (by decide +kernel)⟩
def lw_privs_2 : List (MethodName × Nat) := [(⟨"KindGuesserModel", "asked", "(ZZ)Z"⟩, 24), (⟨"KindGuesserModel", "asked", "(ZZZ)Z"⟩, 24), (⟨"KindGuesserModel", "isThere", "(I)Z"⟩, 24), (⟨"KindGuesserModel", "asked", "(Z)Z"⟩, 24), (⟨"KindGuesserModel", "isRule", "(I)Z"⟩, 24), (⟨"KindGuesserModel", "told", "(I)I"⟩, 24), (⟨"KindGuesserModel", "special", "(II)Z"⟩, 24), (⟨"KindGuesserModel", "fit", "(I)Z"⟩, 24), (⟨"KindGuesserModel", "proof", "(I)Z"⟩, 24), (⟨"KindGuesserModel", "holds", "(I)Z"⟩, 24), (⟨"KindGuesserModel", "named", "()I"⟩, 24), (⟨"KindGuesserModel", "first", "(I)I"⟩, 24), (⟨"KindGuesserModel", "proven", "()I"⟩, 24), (⟨"KindGuesserModel", "listed", "(II)I"⟩, 24), (⟨"KindGuesserModel", "opens", "(II)Z"⟩, 24)]
theorem lw_r2 : ∀ q ∈ lw_privs_2, lw_okq q := List.forall_mem_cons.mpr ⟨lw_p16, List.forall_mem_cons.mpr ⟨lw_p17, List.forall_mem_cons.mpr ⟨lw_p18, List.forall_mem_cons.mpr ⟨lw_p19, List.forall_mem_cons.mpr ⟨lw_p20, List.forall_mem_cons.mpr ⟨lw_p21, List.forall_mem_cons.mpr ⟨lw_p22, List.forall_mem_cons.mpr ⟨lw_p23, List.forall_mem_cons.mpr ⟨lw_p24, List.forall_mem_cons.mpr ⟨lw_p25, List.forall_mem_cons.mpr ⟨lw_p26, List.forall_mem_cons.mpr ⟨lw_p27, List.forall_mem_cons.mpr ⟨lw_p28, List.forall_mem_cons.mpr ⟨lw_p29, List.forall_mem_cons.mpr ⟨lw_p30, fun _ h => absurd h List.not_mem_nil⟩⟩⟩⟩⟩⟩⟩⟩⟩⟩⟩⟩⟩⟩⟩
def lw_privs : List (MethodName × Nat) := lw_privs_1 ++ (lw_privs_2)
def lw_tbl : List Cond := k2_sels lw_privs ++ tables_1
theorem lw_privs_ok : ∀ q ∈ lw_privs, lw_okq q := by
  show ∀ q ∈ lw_privs_1 ++ (lw_privs_2), lw_okq q
  exact List.forall_mem_append.mpr ⟨lw_r1, lw_r2⟩
end
section
/-! ===== BEGIN words of one list among another's, by their places ===== -/
theorem goodIn_r {big : List Cond} (ws : List Cond) (ps : List Nat) (hp : ws = ps.filterMap (fun i => big[i]?)) (h : ws.all goodWord = true) : GoodIn big ws := by
  intro w hw
  have h1 := List.all_eq_true.mp h w hw
  rw [hp] at hw
  obtain ⟨i, -, hi⟩ := List.mem_filterMap.mp hw
  have hm : w ∈ big := by first | exact List.mem_of_getElem? hi | exact List.getElem?_mem hi
  exact ⟨hm, good_of_word h1⟩
theorem goodIn_app {big a b : List Cond} (ha : GoodIn big a) (hb : GoodIn big b) : GoodIn big (a ++ b) := fun w h => (List.mem_append.mp h).elim (ha w) (hb w)
theorem goodIn_ca {big a b : List Cond} {c : Cond} (ha : GoodIn big (c :: a)) (hb : GoodIn big b) : GoodIn big (c :: (a ++ b)) := fun w h => (List.mem_cons.mp h).elim (fun e => ha w (List.mem_cons.mpr (Or.inl e))) (fun h => (List.mem_append.mp h).elim (fun h => ha w (List.mem_cons.mpr (Or.inr h))) (hb w))
theorem goodIn_sub {big ws : List Cond} (hm : ∀ w ∈ ws, w ∈ big) (h : ws.all goodWord = true) : GoodIn big ws := fun w hw => ⟨hm w hw, good_of_word (List.all_eq_true.mp h w hw)⟩
/-! ===== END ===== -/

/-! ===== BEGIN exceptions that leave a method, and their catching by the caller (launches without stack traces) ===== -/
section VXA
/-! The laws vx_back, vx_callV, vx_callS, vx_callSW, vx_throw0, vx_throwS follow proofs of the library, with one case more: JvmDerived/Free/Laws.lean (Back.of_free), Shelf42/LK1.lean (callV, callS), Shelf/KitTraced.lean (throwNew0V, throwNewS). -/
/-- where a method has thrown q: the class by its name, the cell, what was written, the world -/
def vx_T (XC : String → State → State → Prop) (st : State) (q : Addr) (t : State) (mc ms : Nat) (free : Addr → Prop) : Prop :=
  ∃ (E : String) (ce : Cell) (L : List Loc), XC E st t ∧ t.heap[q]? = some ce ∧ ce.vm = .none ∧ st.vm.findClass E = some ce.cls ∧ st.WarmedH t.vm ∧ st.sameButNew ({ t with vm := st.vm } : State) L mc ms ∧ ∀ z ∈ L, free z.base
def vx_Q (Qc : Array Value → State → Outcome → State → Prop) (XC : String → State → State → Prop) (mc ms : Nat) (free : Addr → Prop) : Array Value → State → Outcome → State → Prop := fun a st o t =>
  (Qc a st o t ∧ ∃ L, FrameEnd st o t L mc ms ∧ ∀ q ∈ L, free q.base) ∨ ∃ q, o = .threw q ∧ vx_T XC st q t mc ms free
/-- a callee that returns or throws -/
def vx_Met (l : Launch) (y : MethodName) (ws : List Cond) (rm : Room) (Pc : Array Value → State → Prop) (Qc : Array Value → State → Outcome → State → Prop) (XC : String → State → State → Prop) (mc ms : Nat) (free : Addr → Prop) : Prop :=
  MetFree l y (headSpec ws rm) Pc (fun _ _ _ _ _ => True) (vx_Q Qc XC mc ms free)
def vx_Post (XC : String → State → State → Prop) (mc ms : Nat) (free : Addr → Prop) : Pt → Array Value → Addr → Pt → Prop := fun A a q B =>
  ∃ (g : JFrame) (mk : MethodId) (t : State) (L : List Loc) (E : String) (ce : Cell), B.U.heap = t.heap ∧ B.U.vm = t.vm ∧ XC E (A.U.calling g mk a) t ∧ t.heap[q]? = some ce ∧ ce.vm = .none ∧ A.U.vm.findClass E = some ce.cls ∧ B.locs = A.locs ++ L ∧ (∀ z ∈ L, free z.base) ∧ B.cells = A.cells + mc ∧ B.slots = A.slots + ms
def vx_Back (l : Launch) (R : Room) (p : Program) (e : Env) (below : List Frame) (s : State) (sargs : Array Value) (y : MethodName) (len W9 : Nat)
    (Pre : Pt → Array Value → Prop) (Post : Pt → Array Value → Option Value → Pt → Prop) (PostX : Pt → Array Value → Addr → Pt → Prop) : Prop :=
  ∀ (m : MethodId) (meth : Method) (c : Code) (A : Pt) (g : JFrame) (ig : Instr) (mk : MethodId) (a : Array Value),
    Stand p l e R s m sargs below meth c A.U A.locs A.cells A.slots → g.method = m → g.locals.size = c.maxLocals → decode c.code g.pc = .ok (ig, len) →
    2 * g.monitorRoom + (g.stack.map fun v => v.category).sum ≤ W9 → A.U.methodNamed? y = some mk → Pre A a →
    (∃ (v : Option Value) (B : Pt), Stand p l e R s m sargs below meth c B.U B.locs B.cells B.slots ∧ Post A a v B ∧
      Steps p.tables e below (doInvoke e (A.U.setTop g) [] mk a).1 (B.U.setTop { g with pc := g.pc + len, stack := v.toList ++ g.stack })) ∨
    (∃ (q : Addr) (B : Pt), Stand p l e R s m sargs below meth c B.U B.locs B.cells B.slots ∧ PostX A a q B ∧
      Steps p.tables e below (doInvoke e (A.U.setTop g) [] mk a).1 ((B.U.setTop g).pushFrame (.throwing q)))
section Payer
variable {l : Launch} {R : Room} {p : Program} {e : Env} {below : List Frame} {s : State} {sargs : Array Value} {y : MethodName} {len W9 : Nat}
theorem vx_back {ws : List Cond} {rm : Room} {Pc : Array Value → State → Prop} {Qc : Array Value → State → Outcome → State → Prop} {XC : String → State → State → Prop} {mc ms : Nat} {free : Addr → Prop} {bytes : ByteArray} {maxL : Nat} {ret : Option FieldType}
    (hM : vx_Met l y ws rm Pc Qc XC mc ms free) (hblind : FrameBlind Pc) (hrc : rm.cells = mc) (hrs : rm.slots = ms)
    (hframes : rm.frames + 1 ≤ R.frames) (hlocals : W9 + (maxL + 11) + rm.locals ≤ R.locals)
    (hws : ∀ w ∈ ws, ∀ a' U, s.WarmedH U.vm → w.before a' U = true) (hcode : Cond.code y bytes maxL ret ∈ ws) (hinit : ∀ a' U, s.WarmedH U.vm → (Cond.initialized y.cls).before a' U = true) :
    vx_Back l R p e below s sargs y len W9 (PreOf R mc ms Pc) (PostOf Qc mc ms free) (vx_Post XC mc ms free) := by
  intro m meth c A g ig mk a X hg hsize hdg hW hn hp
  have h1 : (headSpec ws rm).pre.before a A.U = true := atoms_intro fun w hw => hws w hw _ _ X.warmed
  have h2 : (Cond.code y bytes maxL ret).before a A.U = true := hws _ hcode _ _ X.warmed
  have h3 : (Cond.initialized y.cls).before a A.U = true := hinit _ _ X.warmed
  have h4 : A.cells + (headSpec ws rm).room.cells ≤ R.cells := by rw [show (headSpec ws rm).room.cells = mc from hrc]; exact hp.1
  have h5 : A.slots + (headSpec ws rm).room.slots ≤ R.slots := by rw [show (headSpec ws rm).room.slots = ms from hrs]; exact hp.2.1
  have hPc : Pc a (A.U.calling g mk a) := hblind _ _ _ _ hp.2.2
  obtain ⟨U, Ls, c0, s0⟩ := A
  dsimp only [Pt.U, Pt.locs, Pt.cells, Pt.slots] at h1 h2 h3 h4 h5 X hn hPc ⊢
  obtain ⟨methY, cY, hmY, hcY, -, hlY, -, -, -, -⟩ := Cond.code_spec hn h2
  obtain ⟨kY, hkY, -⟩ := className_of_methodNamed hn
  have hinitY : kY.init = .initialized := Cond.initialized_spec (findClass_of_methodNamed hn) hkY h3
  have h : At U g.method c below := by rw [hg]; exact X.here
  have hlocals9 : W9 + (maxL + 11) + (headSpec ws rm).room.locals ≤ R.locals := hlocals
  have happ : (headSpec ws rm).appliesLoose y e.platform (U.calling g mk a) = true :=
    Spec.appliesLoose_calling (g := g) h hdg hn hkY hinitY
      (X.room_calling (g := g) (R' := (headSpec ws rm).room) hsize hmY hcY hframes (by rw [hlY]; omega) h4 h5) h1
  obtain ⟨mid, hmid⟩ := h.above
  have hfr : (U.setTop g).frames = (.java g :: mid) ++ below := by rw [State.frames_setTop' g h.top, hmid]; rfl
  obtain ⟨o, s₂, hsteps, -, hend, hq⟩ := Steps.callFree hM p X.admits X.cas X.clock (acts := []) hfr happ hPc trivial
  have hq' : vx_Q Qc XC mc ms free a (U.calling g mk a) o s₂ := hq
  rw [State.frames_setTop' g h.top] at hend
  obtain ⟨g₀, hg0⟩ := Option.isSome_iff_exists.mp h.top
  obtain ⟨r, hr⟩ := State.topJava?_eq_some.mp hg0
  have hr' : (({ U with heap := s₂.heap, slotsUsed := s₂.slotsUsed } : State).setVm s₂.vm).frames = .java g₀ :: r := hr
  rcases hq' with ⟨hqc, L, hfe, hL⟩ | ⟨q, rfl, E, ce, L, hx, hce, hcv, hcl, hW₂, hsm, hL⟩
  · obtain ⟨⟨v, rfl⟩, hW₂, e2, q2, q3, q4, q5, q6⟩ := id hfe
    have e3 : s₂ = ({ (U.calling g mk a).setFrames s₂.frames with heap := s₂.heap, slotsUsed := s₂.slotsUsed } : State).setVm s₂.vm := by
      have : s₂ = ({ s₂ with vm := (U.calling g mk a).vm } : State).setVm s₂.vm := rfl
      rw [e2] at this
      exact this
    obtain ⟨c₂, i₂, len₂, hc₂, hd₂, hf₂⟩ := hend
    have hW' : U.WarmedH s₂.vm := hW₂
    have hcc : c₂ = c := by
      have h1 : s₂.code? g.method = U.code? g.method := by
        rw [State.code?_eq, State.code?_eq, hW'.alike.method?]
      exact Option.some.inj (hc₂.symm.trans (h1.trans h.code))
    subst hcc
    have hlen : len₂ = len := by rw [hdg] at hd₂; cases hd₂; rfl
    subst hlen
    have hs₂ : s₂ = (({ U with heap := s₂.heap, slotsUsed := s₂.slotsUsed } : State).setVm s₂.vm).setTop { g with pc := g.pc + len₂, stack := v.toList ++ g.stack } := by
      refine e3.trans ?_
      rw [hf₂, State.calling_eq h.top, State.setFrames_setFrames, State.setTop_of_frames _ hr', hr]
      rfl
    have hsame : U.sameButNew ({ U with heap := s₂.heap, slotsUsed := s₂.slotsUsed } : State) L mc ms := by
      refine ⟨?_, q2, q3, q4, q5, q6⟩
      obtain ⟨t, ht, -⟩ := State.frames_cons hr
      show ({ U with heap := s₂.heap, slotsUsed := s₂.slotsUsed } : State) = { U.setFrames U.frames with heap := s₂.heap, slotsUsed := s₂.slotsUsed }
      rw [State.setFrames_self ht]
    subst hg
    refine Or.inl ⟨v, ⟨(({ U with heap := s₂.heap, slotsUsed := s₂.slotsUsed } : State).setVm s₂.vm), Ls ++ L, c0 + mc, s0 + ms⟩,
      ⟨X.admits, X.cas, X.clock, X.frames, X.room, X.hears, X.method, X.code, (X.here.setHeapUsed s₂.heap s₂.slotsUsed).setVm hW'.alike, X.tail, State.WarmedH.trans X.warmed hW', X.limits, X.bytes, X.same.trans (hsame.setVm s.vm)⟩,
      ⟨g, mk, s₂, L, rfl, rfl, hqc, rfl, hL, rfl, rfl⟩, ?_⟩
    show Steps p.tables e below _ ((({ U with heap := s₂.heap, slotsUsed := s₂.slotsUsed } : State).setVm s₂.vm).setTop { g with pc := g.pc + len₂, stack := v.toList ++ g.stack })
    rw [← hs₂]
    exact hsteps
  · obtain ⟨e2, q2, q3, q4, q5, q6⟩ := id hsm
    have e3 : s₂ = ({ (U.calling g mk a).setFrames s₂.frames with heap := s₂.heap, slotsUsed := s₂.slotsUsed } : State).setVm s₂.vm := by
      have : s₂ = ({ s₂ with vm := (U.calling g mk a).vm } : State).setVm s₂.vm := rfl
      rw [e2] at this
      exact this
    have hf₂ : s₂.frames = .throwing q :: .java g :: U.frames.tail := hend
    have hW' : U.WarmedH s₂.vm := hW₂
    have hs₂ : s₂ = ((({ U with heap := s₂.heap, slotsUsed := s₂.slotsUsed } : State).setVm s₂.vm).setTop g).pushFrame (.throwing q) := by
      refine e3.trans ?_
      rw [hf₂, State.calling_eq h.top, State.setFrames_setFrames, State.pushFrame, State.frames_setTop _ hr', State.setTop_of_frames _ hr', State.setFrames_setFrames, hr]
      rfl
    have hsame : U.sameButNew ({ U with heap := s₂.heap, slotsUsed := s₂.slotsUsed } : State) L mc ms := by
      refine ⟨?_, q2, q3, q4, q5, q6⟩
      obtain ⟨t, ht, -⟩ := State.frames_cons hr
      show ({ U with heap := s₂.heap, slotsUsed := s₂.slotsUsed } : State) = { U.setFrames U.frames with heap := s₂.heap, slotsUsed := s₂.slotsUsed }
      rw [State.setFrames_self ht]
    subst hg
    refine Or.inr ⟨q, ⟨(({ U with heap := s₂.heap, slotsUsed := s₂.slotsUsed } : State).setVm s₂.vm), Ls ++ L, c0 + mc, s0 + ms⟩,
      ⟨X.admits, X.cas, X.clock, X.frames, X.room, X.hears, X.method, X.code, (X.here.setHeapUsed s₂.heap s₂.slotsUsed).setVm hW'.alike, X.tail, State.WarmedH.trans X.warmed hW', X.limits, X.bytes, X.same.trans (hsame.setVm s.vm)⟩,
      ⟨g, mk, s₂, L, E, ce, rfl, rfl, hx, hce, hcv, hcl, rfl, hL, rfl, rfl⟩, ?_⟩
    show Steps p.tables e below _ (((({ U with heap := s₂.heap, slotsUsed := s₂.slotsUsed } : State).setVm s₂.vm).setTop g).pushFrame (.throwing q))
    rw [← hs₂]
    exact hsteps
end Payer
section Calls
variable {p : Program} {l : Launch} {e : Env} {R : Room} {s : State} {m : MethodId} {args : Array Value} {below : List Frame} {meth : Method} {c : Code} {T : State} {locs : List Loc} {cells slots : Nat}
theorem vx_callV (X : Stand p l e R s m args below meth c T locs cells slots) (hexec : p.tables.exec = Jvm.exec) {own C : String} {index : Nat} {y : MethodName} {bytes : ByteArray} {maxL : Nat} {ret : Option FieldType}
    (hown : s.vm.findClass own = some m.cls) (hlink : (Cond.methodLink own index y).before args s = true) (hinst : (Cond.instanceMethod y).before args s = true) (hsel : (Cond.selects C y y).before args s = true)
    (hcode : (Cond.code y bytes maxL ret).before args s = true) (hy : y.cls ≠ "java/lang/invoke/MethodHandle" ∧ y.cls ≠ "java/lang/invoke/VarHandle")
    {W9 : Nat} {Pre : Pt → Array Value → Prop} {Post : Pt → Array Value → Option Value → Pt → Prop} {PostX : Pt → Array Value → Addr → Pt → Prop} (hK : vx_Back l R p e below s args y 3 W9 Pre Post PostX)
    {b : Addr} {cellB : Cell} (hcell : T.heap[b]? = some cellB) (hobj : cellB.vm.isStatics = false) (hcls : s.vm.findClass C = some cellB.cls)
    {g : JFrame} (hg : g.method = m) (hsize : g.locals.size = c.maxLocals) {argsL rest : List Value} (hlen : ∀ sig, parseMethodDescriptor y.desc = some sig → argsL.length = sig.parameters.length)
    (hstack : g.stack = argsL.reverse ++ .ref b :: rest) (hW : 2 * g.monitorRoom + (rest.map fun v => v.category).sum ≤ W9) (hdg : decode c.code g.pc = .ok (.invokevirtual index, 3))
    (hpre : ∀ vm₁, s.WarmedH vm₁ → Pre ⟨T.setVm vm₁, locs, cells, slots⟩ (Value.ref b :: argsL).toArray) :
    (∃ (v : Option Value) (vm₁ : Vm) (B : Pt), s.WarmedH vm₁ ∧ Stand p l e R s m args below meth c B.U B.locs B.cells B.slots ∧ Post ⟨T.setVm vm₁, locs, cells, slots⟩ (Value.ref b :: argsL).toArray v B ∧
      ∀ target, Steps p.tables e below (B.U.setTop { g with pc := g.pc + 3, stack := v.toList ++ rest }) target → Steps p.tables e below (T.setTop g) target) ∨
    (∃ (q : Addr) (vm₁ : Vm) (B : Pt), s.WarmedH vm₁ ∧ Stand p l e R s m args below meth c B.U B.locs B.cells B.slots ∧ PostX ⟨T.setVm vm₁, locs, cells, slots⟩ (Value.ref b :: argsL).toArray q B ∧
      Steps p.tables e below (T.setTop g) ((B.U.setTop { g with stack := rest }).pushFrame (.throwing q))) := by
  obtain ⟨mk, methM, hnamed, hmethM, hstM, habM⟩ := Cond.instanceMethod_spec hinst
  obtain ⟨methM', cM, hmethM', -, -, -, -, -, -, hsigM⟩ := Cond.code_spec hnamed hcode
  cases hmethM.symm.trans hmethM'
  obtain ⟨c2, r2, m2, q1, q2, q3, q4, kP, hkP, hkPi⟩ := Cond.selects_spec hsel
  cases hcls.symm.trans q1
  cases (State.methodFound?_of_named hnamed hy).symm.trans q2
  cases hnamed.symm.trans q3
  have hselP : selectMethod e.platform s.vm cellB.cls mk = .method mk := by rw [Launch.admits_selectMethod X.admits]; exact q4
  obtain ⟨vm₁, X₁, hstep₁⟩ := X.invokevirtual hexec hown hlink hnamed hmethM hstM hkP hkPi hy (a := b) (cell := cellB) hcell
    (fun z h => by rw [h] at hobj; cases hobj) hselP hmethM habM hkP hkPi (g := g) hg (argsL := argsL) (rest := rest) (hlen _ hsigM) hstack hdg
  rcases hK m meth c ⟨T.setVm vm₁, locs, cells, slots⟩ { g with stack := rest } (.invokevirtual index) mk (Value.ref b :: argsL).toArray X₁ hg hsize hdg hW (X₁.named hnamed) (hpre vm₁ X₁.warmed) with ⟨v, B, X', hpost, hsteps⟩ | ⟨q, B, X', hpost, hsteps⟩
  · exact Or.inl ⟨v, vm₁, B, X₁.warmed, X', hpost, fun target h => hstep₁ _ fun acts => by rw [doInvoke_state]; exact hsteps.trans h⟩
  · exact Or.inr ⟨q, vm₁, B, X₁.warmed, X', hpost, hstep₁ _ fun acts => by rw [doInvoke_state]; exact hsteps⟩
theorem vx_callS (X : Stand p l e R s m args below meth c T locs cells slots) (hexec : p.tables.exec = Jvm.exec) {own : String} {index : Nat} {y : MethodName} {bytes : ByteArray} {maxL : Nat} {ret : Option FieldType}
    (hown : s.vm.findClass own = some m.cls) (hlink : (Cond.methodLink own index y).before args s = true) (hstat : (Cond.static y).before args s = true) (hinit : (Cond.initialized y.cls).before args s = true)
    (hcode : (Cond.code y bytes maxL ret).before args s = true) (hy : y.cls ≠ "java/lang/invoke/MethodHandle" ∧ y.cls ≠ "java/lang/invoke/VarHandle")
    {W9 : Nat} {Pre : Pt → Array Value → Prop} {Post : Pt → Array Value → Option Value → Pt → Prop} {PostX : Pt → Array Value → Addr → Pt → Prop} (hK : vx_Back l R p e below s args y 3 W9 Pre Post PostX)
    {g : JFrame} (hg : g.method = m) (hsize : g.locals.size = c.maxLocals) {argsL rest : List Value} (hlen : ∀ sig, parseMethodDescriptor y.desc = some sig → argsL.length = sig.parameters.length)
    (hstack : g.stack = argsL.reverse ++ rest) (hW : 2 * g.monitorRoom + (rest.map fun v => v.category).sum ≤ W9) (hdg : decode c.code g.pc = .ok (.invokestatic index, 3))
    (hpre : ∀ vm₁, s.WarmedH vm₁ → Pre ⟨T.setVm vm₁, locs, cells, slots⟩ argsL.toArray) :
    (∃ (v : Option Value) (vm₁ : Vm) (B : Pt), s.WarmedH vm₁ ∧ Stand p l e R s m args below meth c B.U B.locs B.cells B.slots ∧ Post ⟨T.setVm vm₁, locs, cells, slots⟩ argsL.toArray v B ∧
      ∀ target, Steps p.tables e below (B.U.setTop { g with pc := g.pc + 3, stack := v.toList ++ rest }) target → Steps p.tables e below (T.setTop g) target) ∨
    (∃ (q : Addr) (vm₁ : Vm) (B : Pt), s.WarmedH vm₁ ∧ Stand p l e R s m args below meth c B.U B.locs B.cells B.slots ∧ PostX ⟨T.setVm vm₁, locs, cells, slots⟩ argsL.toArray q B ∧
      Steps p.tables e below (T.setTop g) ((B.U.setTop { g with stack := rest }).pushFrame (.throwing q))) := by
  obtain ⟨mk, hnamed⟩ := Cond.code_named hcode
  obtain ⟨methM, cM, hmethM, -, -, -, -, -, -, hsigM⟩ := Cond.code_spec hnamed hcode
  have hstatic : methM.isStatic = true := Cond.static_spec hnamed hmethM hstat
  obtain ⟨kP, hkP, -⟩ := className_of_methodNamed hnamed
  have hinitP : kP.init = .initialized := Cond.initialized_spec (findClass_of_methodNamed hnamed) hkP hinit
  obtain ⟨vm₁, X₁, hstep₁⟩ := X.invokestatic hexec hown hlink hnamed hmethM hstatic hkP hinitP hy (g := g) hg (argsL := argsL) (rest := rest) (hlen _ hsigM) hstack hdg
  rcases hK m meth c ⟨T.setVm vm₁, locs, cells, slots⟩ { g with stack := rest } (.invokestatic index) mk argsL.toArray X₁ hg hsize hdg hW (X₁.named hnamed) (hpre vm₁ X₁.warmed) with ⟨v, B, X', hpost, hsteps⟩ | ⟨q, B, X', hpost, hsteps⟩
  · exact Or.inl ⟨v, vm₁, B, X₁.warmed, X', hpost, fun target h => hstep₁ _ fun acts => by rw [doInvoke_state]; exact hsteps.trans h⟩
  · exact Or.inr ⟨q, vm₁, B, X₁.warmed, X', hpost, hstep₁ _ fun acts => by rw [doInvoke_state]; exact hsteps⟩
end Calls
theorem vx_cls {s : State} {T : State} {vm₁ : Vm} {E : String} {k : ClassId} (hW : s.WarmedH vm₁) (h : (T.setVm vm₁).vm.findClass E = some k) : s.vm.findClass E = some k := by
  have h1 : vm₁.findClass E = some k := h
  rw [hW.alike.findClass] at h1
  exact h1
/-- the method's frame g, with q thrown over it -/
def vx_W (p : Program) (l : Launch) (e : Env) (R : Room) (s : State) (m : MethodId) (args : Array Value) (below : List Frame) (meth : Method) (c : Code) (H : Heap) (locs : List Loc) (cells slots : Nat) (Q : State → Prop) (g : JFrame) (q : Addr) : Prop :=
  ∀ T : State, T.heap = H → Stand p l e R s m args below meth c T locs cells slots → ∃ t, Steps p.tables e below ((T.setTop g).pushFrame (.throwing q)) t ∧ Q t
def vx_Run (p : Program) (l : Launch) (e : Env) (R : Room) (s : State) (m : MethodId) (args : Array Value) (below : List Frame) (meth : Method) (c : Code) (H : Heap) (locs : List Loc) (cells slots mc ms : Nat) (g : JFrame) (rest : List Value) (Qa : State → Outcome → State → Prop) (XC : String → State → State → Prop) (free : Addr → Prop) : Prop :=
  ∀ T : State, T.heap = H → Stand p l e R s m args below meth c T locs cells slots →
    (∃ (v : Option Value) (st₀ t T' : State) (L : List Loc), st₀.heap = H ∧ Stand p l e R s m args below meth c T' (locs ++ L) (cells + mc) (slots + ms) ∧ (∀ q ∈ L, free q.base) ∧ T'.heap = t.heap ∧ T'.vm = t.vm ∧ Qa st₀ (.returned v) t ∧
      Goes p e below T g T' { g with pc := g.pc + 3, stack := v.toList ++ rest }) ∨
    (∃ (q : Addr) (st₀ t T' : State) (L : List Loc) (E : String) (ce : Cell), st₀.heap = H ∧ Stand p l e R s m args below meth c T' (locs ++ L) (cells + mc) (slots + ms) ∧ (∀ z ∈ L, free z.base) ∧ T'.heap = t.heap ∧ T'.vm = t.vm ∧ XC E st₀ t ∧ t.heap[q]? = some ce ∧ ce.vm = .none ∧ s.vm.findClass E = some ce.cls ∧
      Steps p.tables e below (T.setTop g) ((T'.setTop { g with stack := rest }).pushFrame (.throwing q)))
def vx_X {S : Type} (px : S → Prop) (B : String → S → State → Prop) (A : Nat → Prop) : String → State → State → Prop := fun E st t => ∃ u : S, px u ∧ B E u t ∧ va_F A st t
section Runs
variable {p : Program} {l : Launch} {e : Env} {R : Room} {s : State} {m : MethodId} {args : Array Value} {below : List Frame} {meth : Method} {c : Code} {H : Heap} {locs : List Loc} {cells slots : Nat}
variable {y : MethodName} {bytes cc : ByteArray} {maxL nL mc ms n index : Nat} {ret : Option FieldType} {ws : List Cond} {rm : Room} {Pc : Array Value → State → Prop} {Qc : Array Value → State → Outcome → State → Prop} {XC : String → State → State → Prop} {free : Addr → Prop} {Ts : List Cond} {own C : String} {b : Addr} {As rest : List Value} {g : JFrame}
theorem vx_callBack (cb : CallB R s args own index y bytes maxL ret ws rm mc ms n) (hM : vx_Met l y ws rm Pc Qc XC mc ms free) (hbl : FrameBlind Pc) : vx_Back l R p e below s args y 3 8 (PreOf R mc ms Pc) (PostOf Qc mc ms free) (vx_Post XC mc ms free) := by
  obtain ⟨hrc, hrs, hfr, hlo, hws, hcw, -, hini, -⟩ := cb
  exact vx_back (bytes := bytes) (maxL := maxL) (ret := ret) hM hbl hrc hrs hfr hlo hws hcw (fun a' U hW => word_at hW (Or.inl (by first | rfl | simp [Cond.onTables, Cond.keeps, Cond.steady])) hini)
theorem vx_runV (S : CallFix p m c cc nL s args Ts own) (hM : vx_Met l y ws rm Pc Qc XC mc ms free) (cw : CallW R s args own C index y bytes maxL ret ws rm mc ms n) (hp : PreV s H C b Pc As)
    (hg : g.method = m) (hn : As.length = n) (hsize : g.locals.size = nL) (hstack : g.stack = As.reverse ++ .ref b :: rest) (hW : 2 * g.monitorRoom + (rest.map fun v => v.category).sum ≤ 8) (hdg : decode cc g.pc = .ok (.invokevirtual index, 3)) (hf : cells + mc ≤ R.cells ∧ slots + ms ≤ R.slots) :
    vx_Run p l e R s m args below meth c H locs cells slots mc ms g rest (Qc (Value.ref b :: As).toArray) XC free := by
  have hK : vx_Back l R p e below s args y 3 8 (PreOf R mc ms Pc) (PostOf Qc mc ms free) (vx_Post XC mc ms free) := vx_callBack cw.1 hM hp.1
  obtain ⟨⟨-, -, -, -, -, -, hcode, -, hy, hlen, hl⟩, hin, hse⟩ := cw
  obtain ⟨hx, hb, hml, ho, -⟩ := S
  obtain ⟨-, ⟨cellB, hcB, hoB, hclB⟩, hPc⟩ := hp
  intro T hT X
  rcases vx_callV X hx (C := C) (bytes := bytes) (maxL := maxL) (ret := ret) ho hl hin hse hcode hy hK (by rw [hT]; exact hcB) hoB hclB hg (hsize.trans hml.symm) (argsL := As) (rest := rest) (fun sig h => hn.trans (hlen sig h)) hstack hW (by rw [hb]; exact hdg)
    (fun vm₁ hW₁ => ⟨hf.1, hf.2, hPc (T.setVm vm₁) hT hW₁⟩) with ⟨v, vm₁, ⟨U', l2, c2, s2⟩, hW₁, X', ⟨g', mk, t, L, e1, e2, hq, h1, hL, h2, h3⟩, st⟩ | ⟨q, vm₁, ⟨U', l2, c2, s2⟩, hW₁, X', ⟨g', mk, t, L, E, ce, e1, e2, hq, hce, hcv, hcl, h1, hL, h2, h3⟩, st⟩
  · dsimp only [Pt.U, Pt.locs, Pt.cells, Pt.slots] at X' e1 e2 h1 h2 h3 st
    subst h1; subst h2; subst h3
    exact Or.inl ⟨v, (T.setVm vm₁).calling g' mk (Value.ref b :: As).toArray, t, U', L, hT, X', hL, e1, e2, hq, st⟩
  · dsimp only [Pt.U, Pt.locs, Pt.cells, Pt.slots] at X' e1 e2 h1 h2 h3 st hcl
    subst h1; subst h2; subst h3
    exact Or.inr ⟨q, (T.setVm vm₁).calling g' mk (Value.ref b :: As).toArray, t, U', L, E, ce, hT, X', hL, e1, e2, hq, hce, hcv, vx_cls hW₁ hcl, st⟩
theorem vx_runS (S : CallFix p m c cc nL s args Ts own) (hM : vx_Met l y ws rm Pc Qc XC mc ms free) (cw : CallB R s args own index y bytes maxL ret ws rm mc ms n ∧ (Cond.static y).before args s = true) (hp : PreS s H Pc As)
    (hg : g.method = m) (hn : As.length = n) (hsize : g.locals.size = nL) (hstack : g.stack = As.reverse ++ rest) (hW : 2 * g.monitorRoom + (rest.map fun v => v.category).sum ≤ 8) (hdg : decode cc g.pc = .ok (.invokestatic index, 3)) (hf : cells + mc ≤ R.cells ∧ slots + ms ≤ R.slots) :
    vx_Run p l e R s m args below meth c H locs cells slots mc ms g rest (Qc As.toArray) XC free := by
  have hK : vx_Back l R p e below s args y 3 8 (PreOf R mc ms Pc) (PostOf Qc mc ms free) (vx_Post XC mc ms free) := vx_callBack cw.1 hM hp.1
  obtain ⟨⟨-, -, -, -, -, -, hcode, hini, hy, hlen, hl⟩, hstt⟩ := cw
  obtain ⟨hx, hb, hml, ho, -⟩ := S
  intro T hT X
  rcases vx_callS X hx (bytes := bytes) (maxL := maxL) (ret := ret) ho hl hstt hini hcode hy hK hg (hsize.trans hml.symm) (argsL := As) (rest := rest) (fun sig h => hn.trans (hlen sig h)) hstack hW (by rw [hb]; exact hdg)
    (fun vm₁ hW₁ => ⟨hf.1, hf.2, hp.2 (T.setVm vm₁) hT hW₁⟩) with ⟨v, vm₁, ⟨U', l2, c2, s2⟩, hW₁, X', ⟨g', mk, t, L, e1, e2, hq, h1, hL, h2, h3⟩, st⟩ | ⟨q, vm₁, ⟨U', l2, c2, s2⟩, hW₁, X', ⟨g', mk, t, L, E, ce, e1, e2, hq, hce, hcv, hcl, h1, hL, h2, h3⟩, st⟩
  · dsimp only [Pt.U, Pt.locs, Pt.cells, Pt.slots] at X' e1 e2 h1 h2 h3 st
    subst h1; subst h2; subst h3
    exact Or.inl ⟨v, (T.setVm vm₁).calling g' mk As.toArray, t, U', L, hT, X', hL, e1, e2, hq, st⟩
  · dsimp only [Pt.U, Pt.locs, Pt.cells, Pt.slots] at X' e1 e2 h1 h2 h3 st hcl
    subst h1; subst h2; subst h3
    exact Or.inr ⟨q, (T.setVm vm₁).calling g' mk As.toArray, t, U', L, E, ce, hT, X', hL, e1, e2, hq, hce, hcv, vx_cls hW₁ hcl, st⟩
end Runs
section Rows
variable {p : Program} {l : Launch} {e : Env} {R : Room} {s : State} {m : MethodId} {args : Array Value} {below : List Frame} {meth : Method} {c : Code} {H : Heap} {locs : List Loc} {cells slots : Nat} {Q : State → Prop}
variable {mc ms : Nat} {free : Addr → Prop} {A0 A1 : Nat → Prop} {H0 : Heap} {a : Array Value} {pc : Nat} {ls : Array Slot} {st0 rest : List Value}
theorem vx_keep {st₀ t T' : State} {L : List Loc} (h0 : st₀.heap = H) (e1 : T'.heap = t.heap) (hS : va_S A0 H0 H locs) (hA : ∀ q, q < H.size → A1 q → A0 q) (hf : ∀ q, free q → A0 q) (hL : ∀ q ∈ L, free q.base) (hF : va_F A1 st₀ t) :
    H.size ≤ T'.heap.size ∧ (∀ q : Nat, q < H.size → ¬ A1 q → T'.heap[q]? = H[q]?) ∧ va_S A0 H0 T'.heap (locs ++ L) := by
  obtain ⟨hz, hk⟩ := hF
  rw [h0] at hz hk
  exact ⟨by rw [e1]; exact hz, fun q h1 h2 => by rw [e1]; exact hk q h1 h2,
    ⟨Nat.le_trans hS.1 (by rw [e1]; exact hz), fun q h1 h2 => by rw [e1, hk q (Nat.lt_of_lt_of_le h1 hS.1) (fun z => h2 (hA q (Nat.lt_of_lt_of_le h1 hS.1) z))]; exact hS.2.1 q h1 h2, fun q hq => by
      rcases List.mem_append.mp hq with h | h
      · exact hS.2.2 q h
      · exact hf _ (hL q h)⟩⟩
theorem vx_calli {S SX : Type} {post : Int32 → S → Prop} {px : SX → Prop} {B : S → State → Prop} {BX : String → SX → State → Prop} {AX : Nat → Prop} (hr : vx_Run p l e R s m args below meth c H locs cells slots mc ms (F0 m pc ls st0) rest (va_Qi post B A1 a) (vx_X px BX AX) free) (hS : va_S A0 H0 H locs) (hA : ∀ q, q < H.size → A1 q → A0 q) (hf : ∀ q, free q → A0 q) (hAX : ∀ q, q < H.size → AX q → A0 q)
    (kx : ∀ (E : String) (ce : Cell) (q9 : Addr) (u : SX) (t : State) (H1 : Heap) (locs1 : List Loc), t.heap = H1 → s.vm.Alike t.vm → px u → BX E u t → H.size ≤ H1.size → (∀ q : Nat, q < H.size → ¬ AX q → H1[q]? = H[q]?) → va_S A0 H0 H1 locs1 → H1[q9]? = some ce → ce.vm = .none → s.vm.findClass E = some ce.cls → vx_W p l e R s m args below meth c H1 locs1 (cells + mc) (slots + ms) Q (F0 m pc ls rest) q9)
    (kk : ∀ (r : Int32) (u : S) (t : State) (H1 : Heap) (locs1 : List Loc), t.heap = H1 → s.vm.Alike t.vm → post r u → B u t → H.size ≤ H1.size → (∀ q : Nat, q < H.size → ¬ A1 q → H1[q]? = H[q]?) → va_S A0 H0 H1 locs1 → W p l e R s m args below meth c H1 locs1 (cells + mc) (slots + ms) Q (F0 m (pc + 3) ls (.int r :: rest))) : W p l e R s m args below meth c H locs cells slots Q (F0 m pc ls st0) := by
  intro T hT X
  rcases hr T hT X with ⟨v, st₀, t, T', L, h0, X', hL, e1, e2, ⟨⟨r, u, hv, hp, hb⟩, hF⟩, st⟩ | ⟨q, st₀, t, T', L, E, ce, h0, X', hL, e1, e2, ⟨u, hp, hb, hF⟩, hce, hcv, hcl, st⟩
  · cases hv
    obtain ⟨k1, k2, k3⟩ := vx_keep h0 e1 hS hA hf hL hF
    obtain ⟨t2, a1, b1⟩ := kk r u t T'.heap (locs ++ L) e1.symm (by rw [← e2]; exact X'.warmed.alike) hp hb k1 k2 k3 T' rfl X'
    exact ⟨t2, st t2 a1, b1⟩
  · obtain ⟨k1, k2, k3⟩ := vx_keep h0 e1 hS hAX hf hL hF
    obtain ⟨t2, a1, b1⟩ := kx E ce q u t T'.heap (locs ++ L) e1.symm (by rw [← e2]; exact X'.warmed.alike) hp hb k1 k2 k3 (by rw [e1]; exact hce) hcv hcl T' rfl X'
    exact ⟨t2, st.trans a1, b1⟩
theorem vx_calll {S SX : Type} {post : Int64 → S → Prop} {px : SX → Prop} {B : S → State → Prop} {BX : String → SX → State → Prop} {AX : Nat → Prop} (hr : vx_Run p l e R s m args below meth c H locs cells slots mc ms (F0 m pc ls st0) rest (va_Ql post B A1 a) (vx_X px BX AX) free) (hS : va_S A0 H0 H locs) (hA : ∀ q, q < H.size → A1 q → A0 q) (hf : ∀ q, free q → A0 q) (hAX : ∀ q, q < H.size → AX q → A0 q)
    (kx : ∀ (E : String) (ce : Cell) (q9 : Addr) (u : SX) (t : State) (H1 : Heap) (locs1 : List Loc), t.heap = H1 → s.vm.Alike t.vm → px u → BX E u t → H.size ≤ H1.size → (∀ q : Nat, q < H.size → ¬ AX q → H1[q]? = H[q]?) → va_S A0 H0 H1 locs1 → H1[q9]? = some ce → ce.vm = .none → s.vm.findClass E = some ce.cls → vx_W p l e R s m args below meth c H1 locs1 (cells + mc) (slots + ms) Q (F0 m pc ls rest) q9)
    (kk : ∀ (r : Int64) (u : S) (t : State) (H1 : Heap) (locs1 : List Loc), t.heap = H1 → s.vm.Alike t.vm → post r u → B u t → H.size ≤ H1.size → (∀ q : Nat, q < H.size → ¬ A1 q → H1[q]? = H[q]?) → va_S A0 H0 H1 locs1 → W p l e R s m args below meth c H1 locs1 (cells + mc) (slots + ms) Q (F0 m (pc + 3) ls (.long r :: rest))) : W p l e R s m args below meth c H locs cells slots Q (F0 m pc ls st0) := by
  intro T hT X
  rcases hr T hT X with ⟨v, st₀, t, T', L, h0, X', hL, e1, e2, ⟨⟨r, u, hv, hp, hb⟩, hF⟩, st⟩ | ⟨q, st₀, t, T', L, E, ce, h0, X', hL, e1, e2, ⟨u, hp, hb, hF⟩, hce, hcv, hcl, st⟩
  · cases hv
    obtain ⟨k1, k2, k3⟩ := vx_keep h0 e1 hS hA hf hL hF
    obtain ⟨t2, a1, b1⟩ := kk r u t T'.heap (locs ++ L) e1.symm (by rw [← e2]; exact X'.warmed.alike) hp hb k1 k2 k3 T' rfl X'
    exact ⟨t2, st t2 a1, b1⟩
  · obtain ⟨k1, k2, k3⟩ := vx_keep h0 e1 hS hAX hf hL hF
    obtain ⟨t2, a1, b1⟩ := kx E ce q u t T'.heap (locs ++ L) e1.symm (by rw [← e2]; exact X'.warmed.alike) hp hb k1 k2 k3 (by rw [e1]; exact hce) hcv hcl T' rfl X'
    exact ⟨t2, st.trans a1, b1⟩
theorem vx_callf {S SX : Type} {post : UInt32 → S → Prop} {px : SX → Prop} {B : S → State → Prop} {BX : String → SX → State → Prop} {AX : Nat → Prop} (hr : vx_Run p l e R s m args below meth c H locs cells slots mc ms (F0 m pc ls st0) rest (va_Qf post B A1 a) (vx_X px BX AX) free) (hS : va_S A0 H0 H locs) (hA : ∀ q, q < H.size → A1 q → A0 q) (hf : ∀ q, free q → A0 q) (hAX : ∀ q, q < H.size → AX q → A0 q)
    (kx : ∀ (E : String) (ce : Cell) (q9 : Addr) (u : SX) (t : State) (H1 : Heap) (locs1 : List Loc), t.heap = H1 → s.vm.Alike t.vm → px u → BX E u t → H.size ≤ H1.size → (∀ q : Nat, q < H.size → ¬ AX q → H1[q]? = H[q]?) → va_S A0 H0 H1 locs1 → H1[q9]? = some ce → ce.vm = .none → s.vm.findClass E = some ce.cls → vx_W p l e R s m args below meth c H1 locs1 (cells + mc) (slots + ms) Q (F0 m pc ls rest) q9)
    (kk : ∀ (r : UInt32) (u : S) (t : State) (H1 : Heap) (locs1 : List Loc), t.heap = H1 → s.vm.Alike t.vm → post r u → B u t → H.size ≤ H1.size → (∀ q : Nat, q < H.size → ¬ A1 q → H1[q]? = H[q]?) → va_S A0 H0 H1 locs1 → W p l e R s m args below meth c H1 locs1 (cells + mc) (slots + ms) Q (F0 m (pc + 3) ls (.float r :: rest))) : W p l e R s m args below meth c H locs cells slots Q (F0 m pc ls st0) := by
  intro T hT X
  rcases hr T hT X with ⟨v, st₀, t, T', L, h0, X', hL, e1, e2, ⟨⟨r, u, hv, hp, hb⟩, hF⟩, st⟩ | ⟨q, st₀, t, T', L, E, ce, h0, X', hL, e1, e2, ⟨u, hp, hb, hF⟩, hce, hcv, hcl, st⟩
  · cases hv
    obtain ⟨k1, k2, k3⟩ := vx_keep h0 e1 hS hA hf hL hF
    obtain ⟨t2, a1, b1⟩ := kk r u t T'.heap (locs ++ L) e1.symm (by rw [← e2]; exact X'.warmed.alike) hp hb k1 k2 k3 T' rfl X'
    exact ⟨t2, st t2 a1, b1⟩
  · obtain ⟨k1, k2, k3⟩ := vx_keep h0 e1 hS hAX hf hL hF
    obtain ⟨t2, a1, b1⟩ := kx E ce q u t T'.heap (locs ++ L) e1.symm (by rw [← e2]; exact X'.warmed.alike) hp hb k1 k2 k3 (by rw [e1]; exact hce) hcv hcl T' rfl X'
    exact ⟨t2, st.trans a1, b1⟩
theorem vx_calld {S SX : Type} {post : UInt64 → S → Prop} {px : SX → Prop} {B : S → State → Prop} {BX : String → SX → State → Prop} {AX : Nat → Prop} (hr : vx_Run p l e R s m args below meth c H locs cells slots mc ms (F0 m pc ls st0) rest (va_Qd post B A1 a) (vx_X px BX AX) free) (hS : va_S A0 H0 H locs) (hA : ∀ q, q < H.size → A1 q → A0 q) (hf : ∀ q, free q → A0 q) (hAX : ∀ q, q < H.size → AX q → A0 q)
    (kx : ∀ (E : String) (ce : Cell) (q9 : Addr) (u : SX) (t : State) (H1 : Heap) (locs1 : List Loc), t.heap = H1 → s.vm.Alike t.vm → px u → BX E u t → H.size ≤ H1.size → (∀ q : Nat, q < H.size → ¬ AX q → H1[q]? = H[q]?) → va_S A0 H0 H1 locs1 → H1[q9]? = some ce → ce.vm = .none → s.vm.findClass E = some ce.cls → vx_W p l e R s m args below meth c H1 locs1 (cells + mc) (slots + ms) Q (F0 m pc ls rest) q9)
    (kk : ∀ (r : UInt64) (u : S) (t : State) (H1 : Heap) (locs1 : List Loc), t.heap = H1 → s.vm.Alike t.vm → post r u → B u t → H.size ≤ H1.size → (∀ q : Nat, q < H.size → ¬ A1 q → H1[q]? = H[q]?) → va_S A0 H0 H1 locs1 → W p l e R s m args below meth c H1 locs1 (cells + mc) (slots + ms) Q (F0 m (pc + 3) ls (.double r :: rest))) : W p l e R s m args below meth c H locs cells slots Q (F0 m pc ls st0) := by
  intro T hT X
  rcases hr T hT X with ⟨v, st₀, t, T', L, h0, X', hL, e1, e2, ⟨⟨r, u, hv, hp, hb⟩, hF⟩, st⟩ | ⟨q, st₀, t, T', L, E, ce, h0, X', hL, e1, e2, ⟨u, hp, hb, hF⟩, hce, hcv, hcl, st⟩
  · cases hv
    obtain ⟨k1, k2, k3⟩ := vx_keep h0 e1 hS hA hf hL hF
    obtain ⟨t2, a1, b1⟩ := kk r u t T'.heap (locs ++ L) e1.symm (by rw [← e2]; exact X'.warmed.alike) hp hb k1 k2 k3 T' rfl X'
    exact ⟨t2, st t2 a1, b1⟩
  · obtain ⟨k1, k2, k3⟩ := vx_keep h0 e1 hS hAX hf hL hF
    obtain ⟨t2, a1, b1⟩ := kx E ce q u t T'.heap (locs ++ L) e1.symm (by rw [← e2]; exact X'.warmed.alike) hp hb k1 k2 k3 (by rw [e1]; exact hce) hcv hcl T' rfl X'
    exact ⟨t2, st.trans a1, b1⟩
theorem vx_callv {S SX : Type} {post : S → Prop} {px : SX → Prop} {B : S → State → Prop} {BX : String → SX → State → Prop} {AX : Nat → Prop} (hr : vx_Run p l e R s m args below meth c H locs cells slots mc ms (F0 m pc ls st0) rest (va_Qv post B A1 a) (vx_X px BX AX) free) (hS : va_S A0 H0 H locs) (hA : ∀ q, q < H.size → A1 q → A0 q) (hf : ∀ q, free q → A0 q) (hAX : ∀ q, q < H.size → AX q → A0 q)
    (kx : ∀ (E : String) (ce : Cell) (q9 : Addr) (u : SX) (t : State) (H1 : Heap) (locs1 : List Loc), t.heap = H1 → s.vm.Alike t.vm → px u → BX E u t → H.size ≤ H1.size → (∀ q : Nat, q < H.size → ¬ AX q → H1[q]? = H[q]?) → va_S A0 H0 H1 locs1 → H1[q9]? = some ce → ce.vm = .none → s.vm.findClass E = some ce.cls → vx_W p l e R s m args below meth c H1 locs1 (cells + mc) (slots + ms) Q (F0 m pc ls rest) q9)
    (kk : ∀ (u : S) (t : State) (H1 : Heap) (locs1 : List Loc), t.heap = H1 → s.vm.Alike t.vm → post u → B u t → H.size ≤ H1.size → (∀ q : Nat, q < H.size → ¬ A1 q → H1[q]? = H[q]?) → va_S A0 H0 H1 locs1 → W p l e R s m args below meth c H1 locs1 (cells + mc) (slots + ms) Q (F0 m (pc + 3) ls (rest))) : W p l e R s m args below meth c H locs cells slots Q (F0 m pc ls st0) := by
  intro T hT X
  rcases hr T hT X with ⟨v, st₀, t, T', L, h0, X', hL, e1, e2, ⟨⟨u, hv, hp, hb⟩, hF⟩, st⟩ | ⟨q, st₀, t, T', L, E, ce, h0, X', hL, e1, e2, ⟨u, hp, hb, hF⟩, hce, hcv, hcl, st⟩
  · cases hv
    obtain ⟨k1, k2, k3⟩ := vx_keep h0 e1 hS hA hf hL hF
    obtain ⟨t2, a1, b1⟩ := kk u t T'.heap (locs ++ L) e1.symm (by rw [← e2]; exact X'.warmed.alike) hp hb k1 k2 k3 T' rfl X'
    exact ⟨t2, st t2 a1, b1⟩
  · obtain ⟨k1, k2, k3⟩ := vx_keep h0 e1 hS hAX hf hL hF
    obtain ⟨t2, a1, b1⟩ := kx E ce q u t T'.heap (locs ++ L) e1.symm (by rw [← e2]; exact X'.warmed.alike) hp hb k1 k2 k3 (by rw [e1]; exact hce) hcv hcl T' rfl X'
    exact ⟨t2, st.trans a1, b1⟩
/-- caught by the row x of this method's table; the rows ahead don't take it -/
theorem vx_catch {own name : String} {E : String} {ce : Cell} {q : Addr} (hown : s.vm.findClass own = some m.cls) (pre : List ExceptionTableEntry) (x : ExceptionTableEntry) (suf : List ExceptionTableEntry) (hsplit : c.exceptionTable.toList = pre ++ x :: suf)
    (hpass : ∀ z ∈ pre, covers z pc = false ∨ (z.catchType ≠ 0 ∧ ∃ nm : String, (Cond.classLink own z.catchType nm).before args s = true ∧ va_Nc E nm s)) (hx : covers x pc = true) (h0 : x.catchType ≠ 0)
    (hlink : (Cond.classLink own x.catchType name).before args s = true) (hcast : (Cond.castable E name).before args s = true) (hcell : H[q]? = some ce) (hv : ce.vm = .none) (hcl : s.vm.findClass E = some ce.cls)
    (kk : W p l e R s m args below meth c H locs cells slots Q (F0 m x.handlerPc ls [.ref q])) : vx_W p l e R s m args below meth c H locs cells slots Q (F0 m pc ls rest) q := by
  intro T hT X
  have hpl : e.platform.magicAccessors = ({} : Platform).magicAccessors := by rw [X.admits.platform]
  obtain ⟨c3, c4, hc3, hc4, hasg⟩ := Cond.castable_spec hcast
  cases Option.some.inj (hc3.symm.trans hcl)
  obtain ⟨c5, hc5, hcl5⟩ := Cond.classLink_spec hown hlink e.platform hpl
  cases Option.some.inj (hc4.symm.trans hc5)
  obtain ⟨vm', X', st⟩ := X.thenCaughtThrough q (g := F0 m pc ls rest) rfl (Steps.refl _) (by rw [hT]; exact hcell) (by rw [hv]; rfl) (by obtain ⟨k9, h9, -⟩ := Vm.findClass_spec hcl; exact ⟨k9, h9⟩) pre x suf hsplit
    (fun z hz => by
      rcases hpass z hz with h | ⟨hz0, nm, hl1, hn1⟩
      · exact Or.inl h
      · obtain ⟨c6, hc6, hcl6⟩ := Cond.classLink_spec hown hl1 e.platform hpl
        obtain ⟨a8, b8, h1, h2, h3⟩ := hn1
        cases Option.some.inj (h1.symm.trans hcl)
        cases Option.some.inj (h2.symm.trans hc6)
        exact Or.inr ⟨hz0, _, hcl6, h3⟩) hx (Or.inr ⟨h0, c4, hcl5, hasg⟩)
  obtain ⟨t, a1, b1⟩ := kk (T.setVm vm') hT X'
  exact ⟨t, st.trans a1, b1⟩
end Rows
section Ends
variable {p : Program} {l : Launch} {e : Env} {R : Room} {s : State} {m : MethodId} {args : Array Value} {below : List Frame} {meth : Method} {c : Code} {H : Heap} {locs : List Loc} {cells slots : Nat} {Q : State → Prop}
variable {mc ms : Nat} {free : Addr → Prop} {A0 A1 : Nat → Prop} {H0 : Heap} {a : Array Value} {ls : Array Slot} {st0 rest : List Value}
variable {Qc : Array Value → State → Outcome → State → Prop} {XC : String → State → State → Prop}
/-- what a body that may throw owes at its end -/
def vx_MQ (below : List Frame) (Qc : Array Value → State → Outcome → State → Prop) (XC : String → State → State → Prop) (a : Array Value) (s : State) (mc ms : Nat) (free : Addr → Prop) : State → Prop := fun t =>
  ∃ o, t.status = .running ∧ Ended t below o ∧ vx_Q Qc XC mc ms free a s o t
theorem vx_ret {g : JFrame} {mc ms : Nat} (k : W p l e R s m args below meth c H locs cells slots (MQ below Qc args s mc ms free) g) : W p l e R s m args below meth c H locs cells slots (vx_MQ below Qc XC args s mc ms free) g := by
  intro T hT X
  obtain ⟨t, a1, o, b1, b2, b3, b4⟩ := k T hT X
  exact ⟨t, a1, o, b1, b2, Or.inl ⟨b3, b4⟩⟩
/-- not caught here: it goes on to the caller -/
theorem vx_widen {g : JFrame} {q : Addr} {k n : Nat} (h1 : cells ≤ k) (h2 : slots ≤ n) (kk : vx_W p l e R s m args below meth c H locs k n Q g q) : vx_W p l e R s m args below meth c H locs cells slots Q g q := fun T hT X => kk T hT (stand_widen X h1 h2)
theorem vx_out {pc : Nat} {E : String} {ce : Cell} {q : Addr} {mc ms : Nat} (hout : ∀ x ∈ c.exceptionTable.toList, covers x pc = false) (hlocks : meth.locks = false) (hcell : H[q]? = some ce) (hv : ce.vm = .none) (hcl : s.vm.findClass E = some ce.cls)
    (hx : ∀ t : State, t.heap = H → s.vm.Alike t.vm → XC E s t) (hf : ∀ z ∈ locs, free z.base) (hc : cells ≤ mc) (hs : slots ≤ ms) :
    vx_W p l e R s m args below meth c H locs cells slots (vx_MQ below Qc XC args s mc ms free) (F0 m pc ls rest) q := by
  intro T hT X
  obtain ⟨st1, hrun, hend, hW, hsm⟩ := X.leaveThrown q (g := F0 m pc ls rest) rfl rfl rfl hout hlocks
  have hcell9 : (T.setFrames (.throwing q :: below)).heap[q]? = some ce := by
    show T.heap[q]? = some ce
    rw [hT]; exact hcell
  exact ⟨_, st1, .threw q, hrun, hend, Or.inr ⟨q, rfl, E, ce, locs, hx _ hT hW.alike, hcell9, hv, hcl, hW, hsm.mono hc hs, hf⟩⟩
theorem vx_frame {U : State} {k n : Nat} (h : s.sameButNew ({ U with vm := s.vm } : State) locs k n) : s.heap.size ≤ U.heap.size ∧ ∀ q : Nat, q < s.heap.size → (∀ z ∈ locs, z.base ≠ q) → U.heap[q]? = s.heap[q]? := by
  obtain ⟨-, h2, -, -, -, h6⟩ := h
  refine ⟨h2, fun q hq hz => ?_⟩
  obtain ⟨c9, e1, e2, e3, e4⟩ := h6 q _ (Array.getElem?_eq_getElem hq)
  have hs : c9.slots = (s.heap[q]).slots := Array.ext_getElem? fun i => e4 i fun hm => hz _ hm rfl
  have h9 : c9 = s.heap[q] := by
    rw [hs] at e2
    exact e2
  have e5 : U.heap[q]? = some c9 := e1
  rw [e5, h9, Array.getElem?_eq_getElem hq]
/-- the words of a throw but the four that speak of the heap -/
def vx_no (w : Cond) : Bool := decide (w ≠ .isRef (.static Bundle.tN "UNASSIGNED_STACK" Bundle.steD)) && decide (w ≠ .isRef (.static Bundle.tN "SUPPRESSED_SENTINEL" Bundle.listD)) && decide (w ≠ .laysStatic Bundle.tN "UNASSIGNED_STACK" Bundle.steD) && decide (w ≠ .laysStatic Bundle.tN "SUPPRESSED_SENTINEL" Bundle.listD)
def vx_at0 (own : String) (ic : Nat) (X : String) (names : List String) : List Cond := (Bundle.ownAtoms0 own ic X names).filter vx_no
def vx_atS (own : String) (ic : Nat) (X : String) (names : List String) : List Cond := (Bundle.ownAtoms own ic X names).filter vx_no
/-- a word that the tables alone decide, or a good one -/
def vx_ot (w : Cond) : Bool := w.onTables || goodWord w
theorem vx_ot_at {args a' : Array Value} {s U : State} {w : Cond} (hW : s.WarmedH U.vm) (hvm : s.vm = U.vm) (hg : vx_ot w = true) (h : w.before args s = true) : w.before a' U = true := by
  simp only [vx_ot, Bool.or_eq_true] at hg
  rcases hg with hg | hg
  · exact va_tabs hg hvm h
  · exact word_at hW (good_of_word hg) h
/-- a list's words: the good ones out of the method's own list, the others by premises of their own -/
theorem vx_hat {args : Array Value} {s : State} {L B : List Cond} (h1 : ∀ w ∈ L.filter goodWord, w.before args s = true) (h2 : ∀ w ∈ L.filter (fun w => !goodWord w), w ∈ B) (h3 : ∀ w ∈ B, w.before args s = true) : ∀ w ∈ L, w.before args s = true := by
  intro w hw
  by_cases g : goodWord w = true
  · exact h1 w (List.mem_filter.mpr ⟨hw, g⟩)
  · refine h3 w (h2 w (List.mem_filter.mpr ⟨hw, ?_⟩))
    show (!goodWord w) = true
    cases hgw : goodWord w
    · rfl
    · exact absurd hgw g
theorem vx_c {args : Array Value} {s : State} {w : Cond} {B : List Cond} (h : w.before args s = true) (t : ∀ w ∈ B, w.before args s = true) : ∀ w' ∈ w :: B, w'.before args s = true := fun w' h' => (List.mem_cons.mp h').elim (fun e => by rw [e]; exact h) (t w')
theorem vx_n {args : Array Value} {s : State} : ∀ w ∈ ([] : List Cond), w.before args s = true := fun _ h => nomatch h
theorem vx_own {args : Array Value} {s : State} {L : List Cond} (h1 : ∀ w ∈ L.filter vx_no, w.before args s = true)
    (hU : (Cond.isRef (.static Bundle.tN "UNASSIGNED_STACK" Bundle.steD)).before args s = true) (hN : (Cond.isRef (.static Bundle.tN "SUPPRESSED_SENTINEL" Bundle.listD)).before args s = true)
    (lU : (Cond.laysStatic Bundle.tN "UNASSIGNED_STACK" Bundle.steD).before args s = true) (lN : (Cond.laysStatic Bundle.tN "SUPPRESSED_SENTINEL" Bundle.listD).before args s = true) : ∀ w ∈ L, w.before args s = true := by
  intro w hw
  by_cases e1 : w = .isRef (.static Bundle.tN "UNASSIGNED_STACK" Bundle.steD)
  · rw [e1]; exact hU
  · by_cases e2 : w = .isRef (.static Bundle.tN "SUPPRESSED_SENTINEL" Bundle.listD)
    · rw [e2]; exact hN
    · by_cases e3 : w = .laysStatic Bundle.tN "UNASSIGNED_STACK" Bundle.steD
      · rw [e3]; exact lU
      · by_cases e4 : w = .laysStatic Bundle.tN "SUPPRESSED_SENTINEL" Bundle.listD
        · rw [e4]; exact lN
        · exact h1 w (List.mem_filter.mpr ⟨hw, by unfold vx_no; rw [decide_eq_true e1, decide_eq_true e2, decide_eq_true e3, decide_eq_true e4]; rfl⟩)
/-- where a static field lies, its class's statics cell in H -/
def vx_L (C n d : String) (A : Nat → Prop) (U : State) (H : Heap) : Prop := ∃ (c : ClassId) (k : Class) (i : Nat) (f : Field) (a : Nat) (cell : Cell), U.vm.findClass C = some c ∧ U.fieldFound? C n d = some (c, k, i, f) ∧ f.isStatic = true ∧ k.statics = some a ∧ H[a]? = some cell ∧ cell.vm.isStatics = true ∧ cell.cls = c ∧ f.slot < cell.slots.size ∧ k.staticTypes[f.slot]? = some f.type ∧ ¬ A a
theorem vx_L.moved {C n d : String} {A : Nat → Prop} {u U : State} {H : Heap} (hvm : u.vm.Alike U.vm) (h : vx_L C n d A u H) : vx_L C n d A U H := by
  obtain ⟨c, k, i, f, a, cell, h1, h2, h3, h4, h5, h6, h7, h8, h9, h10⟩ := h
  obtain ⟨k', hi', he⟩ := State.fieldFound?_setVm hvm h2
  exact ⟨c, k', i, f, a, cell, by rw [hvm.findClass]; exact h1, hi', h3, by rw [he]; exact h4, h5, h6, h7, h8, by rw [he]; exact h9, h10⟩
theorem vx_L.kept {C n d : String} {A : Nat → Prop} {U : State} {H H1 : Heap} (h : vx_L C n d A U H) (hq : ∀ a : Nat, a < H.size → ¬ A a → H1[a]? = H[a]?) : vx_L C n d A U H1 := by
  obtain ⟨c, k, i, f, a, cell, h1, h2, h3, h4, h5, h6, h7, h8, h9, h10⟩ := h
  exact ⟨c, k, i, f, a, cell, h1, h2, h3, h4, by rw [hq a (Array.getElem?_eq_some_iff.mp h5).1 h10]; exact h5, h6, h7, h8, h9, h10⟩
theorem vx_L.narrow {C n d : String} {A B : Nat → Prop} {U : State} {H : Heap} (h : vx_L C n d A U H) (hAB : ∀ q, B q → A q) : vx_L C n d B U H := by
  obtain ⟨c, k, i, f, a, cell, h1, h2, h3, h4, h5, h6, h7, h8, h9, h10⟩ := h
  exact ⟨c, k, i, f, a, cell, h1, h2, h3, h4, h5, h6, h7, h8, h9, fun z => h10 (hAB _ z)⟩
theorem vx_L.word {C n d : String} {A : Nat → Prop} {s : State} {args : Array Value} (h : vx_L C n d A s s.heap) : (Cond.laysStatic C n d).before args s = true := by
  obtain ⟨c, k, i, f, a, cell, h1, h2, h3, h4, h5, h6, h7, h8, h9, -⟩ := h
  show (Cond.laysStatic C n d).holds args s none s [] = true
  exact Cond.laysStatic_of h1 h2 h3 h4 h5 h6 h7 h8 h9
/-- .. and what it holds: null or some reference -/
def vx_Zq (C n d : String) (A : Nat → Prop) (U : State) (H : Heap) : Prop := va_Zq C n d A U H ∧ vx_L C n d A U H
theorem vx_Zq.moved {C n d : String} {A : Nat → Prop} {u U : State} {H : Heap} (hvm : u.vm.Alike U.vm) (h : vx_Zq C n d A u H) : vx_Zq C n d A U H := ⟨va_Zq.moved hvm h.1, vx_L.moved hvm h.2⟩
theorem vx_Zq.kept {C n d : String} {A : Nat → Prop} {U : State} {H H1 : Heap} (h : vx_Zq C n d A U H) (hq : ∀ a : Nat, a < H.size → ¬ A a → H1[a]? = H[a]?) : vx_Zq C n d A U H1 := ⟨va_Zq.kept h.1 hq, vx_L.kept h.2 hq⟩
theorem vx_Zq.narrow {C n d : String} {A B : Nat → Prop} {U : State} {H : Heap} (h : vx_Zq C n d A U H) (hAB : ∀ q, B q → A q) : vx_Zq C n d B U H := ⟨va_Zq.narrow h.1 hAB, vx_L.narrow h.2 hAB⟩
theorem vx_Zqof {args : Array Value} {s : State} {C n d : String} {A : Nat → Prop} (hl : (Cond.laysStatic C n d).before args s = true) (hini : (Cond.initialized C).before args s = true) (h : (Cond.isRef (.static C n d)).before args s = true) (hA : ∀ a : Nat, a < s.heap.size → ¬ A a) : vx_Zq C n d A s s.heap := by
  refine ⟨va_Zqof hl hini h hA, ?_⟩
  obtain ⟨c, k, i, f, a, cell, h1, h2, h3, h4, h5, h6, h7, h8, h9⟩ := Cond.laysStatic_spec hl
  exact ⟨c, k, i, f, a, cell, h1, h2, h3, h4, h5, h6, h7, h8, h9, hA a (Array.getElem?_eq_some_iff.mp h5).1⟩
theorem vx_isRef {C n d : String} {v : Value} {A : Nat → Prop} {s : State} {args : Array Value} (h : va_Z C n d v A s s.heap) (hv : v.isRef = true) : (Cond.isRef (.static C n d)).before args s = true := by
  obtain ⟨cf, kf, fi, f, a, cell, h1, h2, h3, h4, h5, h6, h7, -⟩ := h
  have he : (Term.static C n d).eval args s none [] s = some v := by
    simp [Term.eval, State.fieldNamed?, h1, h2, h4, h5, h6, h7]
  simp only [Cond.before, Cond.holds, Cond.value, he]
  cases v <;> simp_all [Value.isRef]
theorem vx_isRefq {C n d : String} {A : Nat → Prop} {s : State} {args : Array Value} (h : va_Zq C n d A s s.heap) : (Cond.isRef (.static C n d)).before args s = true := by
  rcases h with h | ⟨t, h⟩
  · exact vx_isRef h rfl
  · exact vx_isRef h rfl
/-- the same frame, seen from here: as if the method were called anew in this heap -/
theorem vx_rebase {T : State} (X : Stand p l e R s m args below meth c T locs cells slots) {R' : Room} (hf : R'.frames ≤ R.frames) (hl : R'.locals ≤ R.locals) (hc : cells + R'.cells ≤ R.cells) (hs : slots + R'.slots ≤ R.slots) :
    Stand p l e R' ((T.setVm s.vm).setFrames (.invoking m args :: below)) m args below meth c T [] 0 0 := by
  have htop : (T.setVm s.vm).topJava?.isSome := X.here.top
  have hF : ((T.setVm s.vm).setFrames (.invoking m args :: below)).frames = .invoking m args :: below := State.frames_setFrames _ (State.cur_lt_of_top htop)
  obtain ⟨g₀, hg0⟩ := Option.isSome_iff_exists.mp htop
  obtain ⟨r, hr⟩ := State.topJava?_eq_some.mp hg0
  have hl9 : e.platform.stackLimits (T.setVm s.vm).me = e.platform.stackLimits s.me := X.limits
  have hb9 : (T.setVm s.vm).me.stackBytes = s.me.stackBytes := X.bytes
  refine ⟨X.admits, X.cas, X.clock, hF, ?_, X.hears, X.method, X.code, X.here, X.tail, X.warmed, ?_, ?_, ?_⟩
  · have h := X.room
    have hU : ((T.setVm s.vm).setFrames (.invoking m args :: below)).localsInUse = s.localsInUse := by
      rw [State.localsInUse_invoking hF (meth := meth) (c := c) X.method X.code, State.localsInUse_invoking X.frames X.method X.code]
    simp only [State.hasRoom, Bool.and_eq_true, decide_eq_true_eq] at h ⊢
    obtain ⟨⟨⟨⟨h1, h2, h3, h4, h5, h6⟩, h7⟩, h8⟩, h9⟩ := h
    rw [X.frames, List.length_cons] at h2 h3
    have q1 := X.heapSize
    have q2 := X.used
    simp only [hF, hU, List.length_cons, State.stackLimits_setFrames, State.stackBytes_setFrames, hl9, hb9]
    refine ⟨⟨⟨⟨by omega, by omega, by omega, by omega, by omega, h6⟩, ?_⟩, ?_⟩, X.book⟩
    · show T.heap.size + R'.cells ≤ e.platform.maxCells
      omega
    · show T.slotsUsed + R'.slots ≤ e.platform.maxSlots
      omega
  · rw [State.stackLimits_setFrames]; rfl
  · rw [State.stackBytes_setFrames]; rfl
  · refine ⟨?_, Nat.le_refl _, Nat.le_refl _, ?_, ?_, fun a c9 h9 => ⟨c9, h9, rfl, rfl, fun _ _ => rfl⟩⟩
    · obtain ⟨t, ht, -⟩ := State.frames_cons hr
      show T.setVm s.vm = { ((T.setVm s.vm).setFrames (.invoking m args :: below)).setFrames (T.setVm s.vm).frames with heap := T.heap, slotsUsed := T.slotsUsed }
      rw [State.setFrames_setFrames, State.setFrames_self ht]
      rfl
    · show T.slotsUsed = T.slotsUsed + ((T.heap.toList.drop T.heap.size).map (·.slots.size)).sum
      rw [List.drop_eq_nil_of_le (Nat.le_of_eq Array.length_toList)]
      rfl
    · show ((T.heap.toList.drop T.heap.size).map (·.slots.size)).sum ≤ 0
      rw [List.drop_eq_nil_of_le (Nat.le_of_eq Array.length_toList)]
      exact Nat.le_refl _
/-- 'throw new E()': new; dup; invokespecial; athrow -/
theorem vx_throw0 {cc : ByteArray} {pc : Nat} (hexec : p.tables.exec = Jvm.exec) (hb : c.code = cc) (hl : l.stackTraces = false) {own cls : String} {names : List String} {ik ic mc ms : Nat} {A : Nat → Prop}
    (hown : s.vm.findClass own = some m.cls) (hcls : Bundle.fit cls = true) (hnames : ∀ n ∈ names, Bundle.fit n = true)
    (hk : (Cond.classLink own ik cls).before args s = true) (hini : (Cond.initialized cls).before args s = true) (hat : ∀ w ∈ vx_at0 own ic cls names, w.before args s = true)
    (hgood : ∀ w ∈ Cond.classLink own ik cls :: Cond.initialized cls :: vx_at0 own ic cls names, vx_ot w = true)
    (hU : vx_Zq Bundle.tN "UNASSIGNED_STACK" Bundle.steD A s s.heap) (hN : vx_Zq Bundle.tN "SUPPRESSED_SENTINEL" Bundle.listD A s s.heap) (hS : va_S A s.heap H locs) (hsize : ls.size = c.maxLocals)
    (d0 : decode cc pc = .ok (.new ik, 3)) (d3 : decode cc (pc + 3) = .ok (.dup, 1)) (d4 : decode cc (pc + 4) = .ok (.invokespecial ic, 3)) (d7 : decode cc (pc + 7) = .ok (.athrow, 1))
    (hout : ∀ x ∈ c.exceptionTable.toList, covers x (pc + 7) = false)
    (hRframes : names.length + 3 < R.frames) (hRlocals : (rest.map fun v => v.category).sum + (13 * (names.length + 1) + 42) ≤ R.locals) (hRcells : cells + 1 ≤ R.cells) (hRslots : slots + 6 ≤ R.slots) (hlocks : meth.locks = false)
    (hx : ∀ t : State, s.vm.Alike t.vm → H.size ≤ t.heap.size → (∀ q : Nat, q < H.size → t.heap[q]? = H[q]?) → XC cls s t)
    (hf : ∀ z ∈ locs, free z.base) (hc : cells + 1 ≤ mc) (hs : slots + 6 ≤ ms) :
    W p l e R s m args below meth c H locs cells slots (vx_MQ below Qc XC args s mc ms free) (F0 m pc ls rest) := by
  intro T hT X
  have htr : e.platform.stackTraces = false := (show e.platform.stackTraces = l.stackTraces by rw [X.admits.platform]).trans hl
  have Y := vx_rebase X (R' := { frames := R.frames, locals := R.locals, cells := 1, slots := 6 }) (Nat.le_refl _) (Nat.le_refl _) hRcells hRslots
  obtain ⟨s', hA⟩ : ∃ z, z = (T.setVm s.vm).setFrames (.invoking m args :: below) := ⟨_, rfl⟩
  rw [← hA] at Y
  have hvm : s'.vm = s.vm := by rw [hA]; rfl
  have hhp : s'.heap = H := by rw [hA]; exact hT
  have hW0 : s.WarmedH s'.vm := by rw [hvm]; exact State.WarmedH.refl s
  have hat' : ∀ w ∈ vx_at0 own ic cls names, w.before args s' = true := fun w hw => vx_ot_at hW0 hvm.symm (hgood w (List.mem_cons_of_mem _ (List.mem_cons_of_mem _ hw))) (hat w hw)
  have hk' : (Cond.classLink own ik cls).before args s' = true := vx_ot_at hW0 hvm.symm (hgood _ List.mem_cons_self) hk
  have hini' : (Cond.initialized cls).before args s' = true := vx_ot_at hW0 hvm.symm (hgood _ (List.mem_cons_of_mem _ List.mem_cons_self)) hini
  have hU' : vx_Zq Bundle.tN "UNASSIGNED_STACK" Bundle.steD A s' s'.heap := by rw [hhp]; exact vx_Zq.moved hW0.alike (hU.kept hS.2.1)
  have hN' : vx_Zq Bundle.tN "SUPPRESSED_SENTINEL" Bundle.listD A s' s'.heap := by rw [hhp]; exact vx_Zq.moved hW0.alike (hN.kept hS.2.1)
  have h : ∀ w ∈ Bundle.ownAtoms0 own ic cls names, w.before args s' = true := vx_own hat' (vx_isRefq hU'.1) (vx_isRefq hN'.1) hU'.2.word hN'.2.word
  have hown' : s'.vm.findClass own = some m.cls := by rw [hvm]; exact hown
  have hins : (Cond.instantiable cls 6).before args s' = true := h _ (by simp [Bundle.ownAtoms0])
  obtain ⟨vm₁, cX, kX, hfX, hkX, -, -, X₁, st1⟩ := Y.newCold hexec (own := own) (C := cls) (index := ik) (n := 6) hown' hk' hins hini'
    (g := F0 m pc ls rest) rfl (by rw [hb]; exact d0) (Nat.le_refl _) (Nat.le_refl _)
  generalize hT1 : (T.setVm vm₁).pushCell { cls := cX, slots := kX.instanceTypes.map defaultValue, vm := .none } = T1 at X₁ st1
  have hcat : (Value.ref T.heap.size).category = 1 := rfl
  have hcellA : T1.heap[T.heap.size]? = some (freshCell cX kX) := by rw [← hT1]; exact State.heap_pushCell_size _ _
  have d3' : decode c.code (pc + 3) = .ok (.dup, 1) := by rw [hb]; exact d3
  obtain ⟨U, hsteps, hrun, hend, hW, hsame, ce, hce, hO⟩ := X₁.ctorThrow0 hexec htr (own := own) (cls := cls) (names := names) (ic := ic) hown' hcls hnames h (fun x hx => nomatch hx) hfX hkX hcellA (by rw [hhp, hT]; exact Nat.le_refl _)
    (g := { method := m, pc := pc + 4, locals := ls, stack := .ref T.heap.size :: .ref T.heap.size :: rest, locked := none }) rfl hsize rfl rfl (rest := rest) rfl
    (by rw [hb]; exact d4) (by rw [hb]; exact d7) hout hRframes (by simp only [List.map_cons, List.sum_cons, hcat]; omega) hlocks
  obtain ⟨f1, f2⟩ := vx_frame hsame
  rw [hhp] at f1 f2
  have hWs : s.WarmedH U.vm := State.WarmedH.trans hW0 hW
  have hcl : s.vm.findClass cls = some ce.cls := by
    have h9 := hO.cls
    rw [hvm] at h9
    exact h9
  have hall : s.sameButNew ({ U with vm := s.vm } : State) locs mc ms := by
    subst hA
    obtain ⟨e1, e2⟩ := hsame
    rw [State.setFrames_setFrames] at e1
    have h2 : (T.setVm s.vm).sameButNew ({ U with vm := s.vm } : State) [] (0 + 1) (0 + 6) := ⟨e1, e2⟩
    have h3 := X.same.trans h2
    rw [List.append_nil] at h3
    exact h3.mono hc hs
  refine ⟨U, ?_, .threw T.heap.size, hrun, hend, Or.inr ⟨T.heap.size, rfl, cls, ce, locs, hx U hWs.alike f1 (fun q hq => f2 q hq (fun z hz => nomatch hz)), hce, hO.vm, hcl, hWs, hall, hf⟩⟩
  refine st1 _ ?_
  show Steps p.tables e below (T1.setTop { method := m, pc := pc + 3, locals := ls, stack := .ref T.heap.size :: rest, locked := none }) _
  jvm_step X₁.here [X₁.here.top, hexec, d3', Value.category]
  exact hsteps
/-- 'throw new E("text")': new; dup; ldc; invokespecial; athrow -/
theorem vx_throwS {cc : ByteArray} {pc : Nat} (hexec : p.tables.exec = Jvm.exec) (hb : c.code = cc) (hl : l.stackTraces = false) {own cls text : String} {names : List String} {ik is ic mc ms sa : Nat} {A : Nat → Prop}
    (hown : s.vm.findClass own = some m.cls) (hcls : Bundle.fit cls = true) (hnames : ∀ n ∈ names, Bundle.fit n = true)
    (hk : (Cond.classLink own ik cls).before args s = true) (hini : (Cond.initialized cls).before args s = true) (hstr : vk_R own is text sa s) (hat : ∀ w ∈ vx_atS own ic cls names, w.before args s = true)
    (hgood : ∀ w ∈ Cond.classLink own ik cls :: Cond.initialized cls :: vx_atS own ic cls names, vx_ot w = true)
    (hU : vx_Zq Bundle.tN "UNASSIGNED_STACK" Bundle.steD A s s.heap) (hN : vx_Zq Bundle.tN "SUPPRESSED_SENTINEL" Bundle.listD A s s.heap) (hS : va_S A s.heap H locs) (hsize : ls.size = c.maxLocals)
    (d0 : decode cc pc = .ok (.new ik, 3)) (d3 : decode cc (pc + 3) = .ok (.dup, 1)) (d4 : decode cc (pc + 4) = .ok (.ldc is, 2)) (d6 : decode cc (pc + 6) = .ok (.invokespecial ic, 3)) (d9 : decode cc (pc + 9) = .ok (.athrow, 1))
    (hout : ∀ x ∈ c.exceptionTable.toList, covers x (pc + 9) = false)
    (hRframes : names.length + 3 < R.frames) (hRlocals : (rest.map fun v => v.category).sum + (13 * (names.length + 1) + 43) ≤ R.locals) (hRcells : cells + 1 ≤ R.cells) (hRslots : slots + 6 ≤ R.slots) (hlocks : meth.locks = false)
    (hx : ∀ t : State, s.vm.Alike t.vm → H.size ≤ t.heap.size → (∀ q : Nat, q < H.size → t.heap[q]? = H[q]?) → XC cls s t)
    (hf : ∀ z ∈ locs, free z.base) (hc : cells + 1 ≤ mc) (hs : slots + 6 ≤ ms) :
    W p l e R s m args below meth c H locs cells slots (vx_MQ below Qc XC args s mc ms free) (F0 m pc ls rest) := by
  intro T hT X
  have htr : e.platform.stackTraces = false := (show e.platform.stackTraces = l.stackTraces by rw [X.admits.platform]).trans hl
  have Y := vx_rebase X (R' := { frames := R.frames, locals := R.locals, cells := 1, slots := 6 }) (Nat.le_refl _) (Nat.le_refl _) hRcells hRslots
  obtain ⟨s', hA⟩ : ∃ z, z = (T.setVm s.vm).setFrames (.invoking m args :: below) := ⟨_, rfl⟩
  rw [← hA] at Y
  have hvm : s'.vm = s.vm := by rw [hA]; rfl
  have hhp : s'.heap = H := by rw [hA]; exact hT
  have hW0 : s.WarmedH s'.vm := by rw [hvm]; exact State.WarmedH.refl s
  have hat' : ∀ w ∈ vx_atS own ic cls names, w.before args s' = true := fun w hw => vx_ot_at hW0 hvm.symm (hgood w (List.mem_cons_of_mem _ (List.mem_cons_of_mem _ hw))) (hat w hw)
  have hk' : (Cond.classLink own ik cls).before args s' = true := vx_ot_at hW0 hvm.symm (hgood _ List.mem_cons_self) hk
  have hini' : (Cond.initialized cls).before args s' = true := vx_ot_at hW0 hvm.symm (hgood _ (List.mem_cons_of_mem _ List.mem_cons_self)) hini
  have hU' : vx_Zq Bundle.tN "UNASSIGNED_STACK" Bundle.steD A s' s'.heap := by rw [hhp]; exact vx_Zq.moved hW0.alike (hU.kept hS.2.1)
  have hN' : vx_Zq Bundle.tN "SUPPRESSED_SENTINEL" Bundle.listD A s' s'.heap := by rw [hhp]; exact vx_Zq.moved hW0.alike (hN.kept hS.2.1)
  have h : ∀ w ∈ Bundle.ownAtoms own ic cls names, w.before args s' = true := vx_own hat' (vx_isRefq hU'.1) (vx_isRefq hN'.1) hU'.2.word hN'.2.word
  have hown' : s'.vm.findClass own = some m.cls := by rw [hvm]; exact hown
  have hins : (Cond.instantiable cls 6).before args s' = true := h _ (by simp [Bundle.ownAtoms])
  obtain ⟨vm₁, cX, kX, hfX, hkX, -, -, X₁, st1⟩ := Y.newCold hexec (own := own) (C := cls) (index := ik) (n := 6) hown' hk' hins hini'
    (g := F0 m pc ls rest) rfl (by rw [hb]; exact d0) (Nat.le_refl _) (Nat.le_refl _)
  generalize hT1 : (T.setVm vm₁).pushCell { cls := cX, slots := kX.instanceTypes.map defaultValue, vm := .none } = T1 at X₁ st1
  have hcat : (Value.ref T.heap.size).category = 1 := rfl
  have hcellA : T1.heap[T.heap.size]? = some (freshCell cX kX) := by rw [← hT1]; exact State.heap_pushCell_size _ _
  have d3' : decode c.code (pc + 3) = .ok (.dup, 1) := by rw [hb]; exact d3
  have d4' : decode c.code (pc + 4) = .ok (.ldc is, 2) := by rw [hb]; exact d4
  have hstr' : vk_R own is text sa s' := vk_R.warm hW0 hstr
  obtain ⟨U, hsteps, hrun, hend, hW, hsame, ce, hce, hO⟩ := X₁.ctorThrowS hexec htr (own := own) (cls := cls) (names := names) (ic := ic) hown' hcls hnames h (fun x hx => nomatch hx) hfX hkX hcellA (by rw [hhp, hT]; exact Nat.le_refl _) (msg := .ref sa) rfl
    (g := { method := m, pc := pc + 6, locals := ls, stack := .ref sa :: .ref T.heap.size :: .ref T.heap.size :: rest, locked := none }) rfl hsize rfl rfl (rest := rest) rfl
    (by rw [hb]; exact d6) (by rw [hb]; exact d9) hout hRframes (by simp only [List.map_cons, List.sum_cons, hcat]; omega) hlocks
  obtain ⟨f1, f2⟩ := vx_frame hsame
  rw [hhp] at f1 f2
  have hWs : s.WarmedH U.vm := State.WarmedH.trans hW0 hW
  have hcl : s.vm.findClass cls = some ce.cls := by
    have h9 := hO.cls
    rw [hvm] at h9
    exact h9
  have hall : s.sameButNew ({ U with vm := s.vm } : State) locs mc ms := by
    subst hA
    obtain ⟨e1, e2⟩ := hsame
    rw [State.setFrames_setFrames] at e1
    have h2 : (T.setVm s.vm).sameButNew ({ U with vm := s.vm } : State) [] (0 + 1) (0 + 6) := ⟨e1, e2⟩
    have h3 := X.same.trans h2
    rw [List.append_nil] at h3
    exact h3.mono hc hs
  refine ⟨U, ?_, .threw T.heap.size, hrun, hend, Or.inr ⟨T.heap.size, rfl, cls, ce, locs, hx U hWs.alike f1 (fun q hq => f2 q hq (fun z hz => nomatch hz)), hce, hO.vm, hcl, hWs, hall, hf⟩⟩
  refine st1 _ ?_
  show Steps p.tables e below (T1.setTop { method := m, pc := pc + 3, locals := ls, stack := .ref T.heap.size :: rest, locked := none }) _
  jvm_step X₁.here [X₁.here.top, hexec, d3', Value.category]
  exact X₁.ldcString hexec (own := own) (text := text) (index := is) (a := sa) hown' hstr'.1 hstr'.2
    (g := { method := m, pc := pc + 4, locals := ls, stack := .ref T.heap.size :: .ref T.heap.size :: rest, locked := none }) rfl d4' _ hsteps
/-- 'throw new E("text")', the text by a wide index -/
theorem vx_throwSW {cc : ByteArray} {pc : Nat} (hexec : p.tables.exec = Jvm.exec) (hb : c.code = cc) (hl : l.stackTraces = false) {own cls text : String} {names : List String} {ik is ic mc ms sa : Nat} {A : Nat → Prop}
    (hown : s.vm.findClass own = some m.cls) (hcls : Bundle.fit cls = true) (hnames : ∀ n ∈ names, Bundle.fit n = true)
    (hk : (Cond.classLink own ik cls).before args s = true) (hini : (Cond.initialized cls).before args s = true) (hstr : vk_R own is text sa s) (hat : ∀ w ∈ vx_atS own ic cls names, w.before args s = true)
    (hgood : ∀ w ∈ Cond.classLink own ik cls :: Cond.initialized cls :: vx_atS own ic cls names, vx_ot w = true)
    (hU : vx_Zq Bundle.tN "UNASSIGNED_STACK" Bundle.steD A s s.heap) (hN : vx_Zq Bundle.tN "SUPPRESSED_SENTINEL" Bundle.listD A s s.heap) (hS : va_S A s.heap H locs) (hsize : ls.size = c.maxLocals)
    (d0 : decode cc pc = .ok (.new ik, 3)) (d3 : decode cc (pc + 3) = .ok (.dup, 1)) (d4 : decode cc (pc + 4) = .ok (.ldc_w is, 3)) (d7 : decode cc (pc + 7) = .ok (.invokespecial ic, 3)) (d10 : decode cc (pc + 10) = .ok (.athrow, 1))
    (hout : ∀ x ∈ c.exceptionTable.toList, covers x (pc + 10) = false)
    (hRframes : names.length + 3 < R.frames) (hRlocals : (rest.map fun v => v.category).sum + (13 * (names.length + 1) + 43) ≤ R.locals) (hRcells : cells + 1 ≤ R.cells) (hRslots : slots + 6 ≤ R.slots) (hlocks : meth.locks = false)
    (hx : ∀ t : State, s.vm.Alike t.vm → H.size ≤ t.heap.size → (∀ q : Nat, q < H.size → t.heap[q]? = H[q]?) → XC cls s t)
    (hf : ∀ z ∈ locs, free z.base) (hc : cells + 1 ≤ mc) (hs : slots + 6 ≤ ms) :
    W p l e R s m args below meth c H locs cells slots (vx_MQ below Qc XC args s mc ms free) (F0 m pc ls rest) := by
  intro T hT X
  have htr : e.platform.stackTraces = false := (show e.platform.stackTraces = l.stackTraces by rw [X.admits.platform]).trans hl
  have Y := vx_rebase X (R' := { frames := R.frames, locals := R.locals, cells := 1, slots := 6 }) (Nat.le_refl _) (Nat.le_refl _) hRcells hRslots
  obtain ⟨s', hA⟩ : ∃ z, z = (T.setVm s.vm).setFrames (.invoking m args :: below) := ⟨_, rfl⟩
  rw [← hA] at Y
  have hvm : s'.vm = s.vm := by rw [hA]; rfl
  have hhp : s'.heap = H := by rw [hA]; exact hT
  have hW0 : s.WarmedH s'.vm := by rw [hvm]; exact State.WarmedH.refl s
  have hat' : ∀ w ∈ vx_atS own ic cls names, w.before args s' = true := fun w hw => vx_ot_at hW0 hvm.symm (hgood w (List.mem_cons_of_mem _ (List.mem_cons_of_mem _ hw))) (hat w hw)
  have hk' : (Cond.classLink own ik cls).before args s' = true := vx_ot_at hW0 hvm.symm (hgood _ List.mem_cons_self) hk
  have hini' : (Cond.initialized cls).before args s' = true := vx_ot_at hW0 hvm.symm (hgood _ (List.mem_cons_of_mem _ List.mem_cons_self)) hini
  have hU' : vx_Zq Bundle.tN "UNASSIGNED_STACK" Bundle.steD A s' s'.heap := by rw [hhp]; exact vx_Zq.moved hW0.alike (hU.kept hS.2.1)
  have hN' : vx_Zq Bundle.tN "SUPPRESSED_SENTINEL" Bundle.listD A s' s'.heap := by rw [hhp]; exact vx_Zq.moved hW0.alike (hN.kept hS.2.1)
  have h : ∀ w ∈ Bundle.ownAtoms own ic cls names, w.before args s' = true := vx_own hat' (vx_isRefq hU'.1) (vx_isRefq hN'.1) hU'.2.word hN'.2.word
  have hown' : s'.vm.findClass own = some m.cls := by rw [hvm]; exact hown
  have hins : (Cond.instantiable cls 6).before args s' = true := h _ (by simp [Bundle.ownAtoms])
  obtain ⟨vm₁, cX, kX, hfX, hkX, -, -, X₁, st1⟩ := Y.newCold hexec (own := own) (C := cls) (index := ik) (n := 6) hown' hk' hins hini'
    (g := F0 m pc ls rest) rfl (by rw [hb]; exact d0) (Nat.le_refl _) (Nat.le_refl _)
  generalize hT1 : (T.setVm vm₁).pushCell { cls := cX, slots := kX.instanceTypes.map defaultValue, vm := .none } = T1 at X₁ st1
  have hcat : (Value.ref T.heap.size).category = 1 := rfl
  have hcellA : T1.heap[T.heap.size]? = some (freshCell cX kX) := by rw [← hT1]; exact State.heap_pushCell_size _ _
  have d3' : decode c.code (pc + 3) = .ok (.dup, 1) := by rw [hb]; exact d3
  have d4' : decode c.code (pc + 4) = .ok (.ldc_w is, 3) := by rw [hb]; exact d4
  have hstr' : vk_R own is text sa s' := vk_R.warm hW0 hstr
  obtain ⟨U, hsteps, hrun, hend, hW, hsame, ce, hce, hO⟩ := X₁.ctorThrowS hexec htr (own := own) (cls := cls) (names := names) (ic := ic) hown' hcls hnames h (fun x hx => nomatch hx) hfX hkX hcellA (by rw [hhp, hT]; exact Nat.le_refl _) (msg := .ref sa) rfl
    (g := { method := m, pc := pc + 7, locals := ls, stack := .ref sa :: .ref T.heap.size :: .ref T.heap.size :: rest, locked := none }) rfl hsize rfl rfl (rest := rest) rfl
    (by rw [hb]; exact d7) (by rw [hb]; exact d10) hout hRframes (by simp only [List.map_cons, List.sum_cons, hcat]; omega) hlocks
  obtain ⟨f1, f2⟩ := vx_frame hsame
  rw [hhp] at f1 f2
  have hWs : s.WarmedH U.vm := State.WarmedH.trans hW0 hW
  have hcl : s.vm.findClass cls = some ce.cls := by
    have h9 := hO.cls
    rw [hvm] at h9
    exact h9
  have hall : s.sameButNew ({ U with vm := s.vm } : State) locs mc ms := by
    subst hA
    obtain ⟨e1, e2⟩ := hsame
    rw [State.setFrames_setFrames] at e1
    have h2 : (T.setVm s.vm).sameButNew ({ U with vm := s.vm } : State) [] (0 + 1) (0 + 6) := ⟨e1, e2⟩
    have h3 := X.same.trans h2
    rw [List.append_nil] at h3
    exact h3.mono hc hs
  refine ⟨U, ?_, .threw T.heap.size, hrun, hend, Or.inr ⟨T.heap.size, rfl, cls, ce, locs, hx U hWs.alike f1 (fun q hq => f2 q hq (fun z hz => nomatch hz)), hce, hO.vm, hcl, hWs, hall, hf⟩⟩
  refine st1 _ ?_
  show Steps p.tables e below (T1.setTop { method := m, pc := pc + 3, locals := ls, stack := .ref T.heap.size :: rest, locked := none }) _
  jvm_step X₁.here [X₁.here.top, hexec, d3', Value.category]
  exact X₁.ldcStringW hexec (own := own) (text := text) (index := is) (a := sa) hown' hstr'.1 hstr'.2
    (g := { method := m, pc := pc + 4, locals := ls, stack := .ref T.heap.size :: .ref T.heap.size :: rest, locked := none }) rfl d4' _ hsteps
end Ends
section Bodies
variable {l : Launch}
theorem vx_ofW {y : MethodName} {ws ws' : List Cond} {rm : Room} {Pc : Array Value → State → Prop} {Qc : Array Value → State → Outcome → State → Prop} {XC : String → State → State → Prop} {mc ms : Nat} {free : Addr → Prop} {cc : ByteArray} {maxL : Nat} {ret : Option FieldType}
    (hy : plainName y.cls = true) (hw : ws = Cond.code y cc maxL ret :: ws')
    (body : ∀ p e s m args below meth c s₁, BodyLoose p l y (headSpec ws rm) cc maxL ret e s m args below meth c s₁ → c.maxLocals = maxL → (∀ x ∈ c.exceptionTable.toList, False) → Pc args s →
      W p l e (headSpec ws rm).room s m args below meth c s.heap [] 0 0 (vx_MQ below Qc XC args s mc ms free) (entryFrame m args maxL)) : vx_Met l y ws rm Pc Qc XC mc ms free := by
  refine MetFree.of_bodyS (code := cc) (maxLocals := maxL) (ret := ret) hy ?_ ?_
  · intro args s m h hn
    obtain ⟨meth, c, h1, h2, h3, h4, h5, h6, -, -⟩ := Cond.code_spec hn (atoms_spec (ws := ws) h _ (by rw [hw]; exact List.mem_cons_self))
    exact ⟨meth, c, h1, h2, h3, h4, h5, h6⟩
  · intro p e s m args below meth c s₁ B hml hP _
    have hh0 : s₁.heap = s.heap := by rw [B.state]; rfl
    have ht : ∀ x ∈ c.exceptionTable.toList, False := by
      obtain ⟨meth9, c9, h1, h2, -, -, -, -, h7, -⟩ := Cond.code_spec B.named (atoms_spec (ws := ws) B.pre _ (by rw [hw]; exact List.mem_cons_self))
      cases Option.some.inj (h1.symm.trans B.method)
      cases Option.some.inj (h2.symm.trans (Stand.of_body B).code)
      intro x hx
      rw [Array.isEmpty_iff.mp h7] at hx
      cases hx
    obtain ⟨t, a1, o, b1, b2, b3⟩ := body p e s m args below meth c s₁ B hml ht hP s₁ hh0 (Stand.of_body B)
    exact ⟨t, o, a1, b1, b2, b3⟩
/-- the table of a body with handlers -/
theorem vx_table {p : Program} {x y : MethodName} {S : Spec} {cc bytes : ByteArray} {maxL maxL' : Nat} {ret ret' : Option FieldType} {e : Env} {s s₁ : State} {m : MethodId} {args : Array Value} {below : List Frame} {meth : Method} {c : Code} {hh : List (Nat × Nat × Nat × Nat)}
    (B : BodyLoose p l y S cc maxL ret e s m args below meth c s₁) (h : (Cond.codeWith y bytes maxL' ret' hh).before args s = true) : c.exceptionTable.toList = tableOf hh := by
  obtain ⟨m9, meth9, c9, hn9, h1, h2, -, -, h6, -⟩ := Cond.codeWith_spec h
  cases Option.some.inj (hn9.symm.trans B.named)
  cases Option.some.inj (h1.symm.trans B.method)
  cases Option.some.inj (h2.symm.trans (Stand.of_body B).code)
  rw [← h6, table_eq]
end Bodies
end VXA
/-! ===== END ===== -/
/-! ===== BEGIN a static call of a method with an exception table ===== -/
section VXS
variable {p : Program} {l : Launch} {e : Env} {R : Room} {s : State} {m : MethodId} {args : Array Value} {below : List Frame} {meth : Method} {c : Code} {T : State} {H : Heap} {locs : List Loc} {cells slots : Nat}
abbrev vx_CSW (R : Room) (s : State) (args : Array Value) (own : String) (index : Nat) (y : MethodName) (bytes : ByteArray) (maxL : Nat) (ret : Option FieldType) (hh : List (Nat × Nat × Nat × Nat)) (ws : List Cond) (rm : Room) (mc ms n : Nat) : Prop :=
  (rm.cells = mc ∧ rm.slots = ms ∧ rm.frames + 1 ≤ R.frames ∧ 8 + (maxL + 11) + rm.locals ≤ R.locals ∧ (∀ w ∈ ws, ∀ (a' : Array Value) (U : State), s.WarmedH U.vm → w.before a' U = true) ∧ Cond.codeWith y bytes maxL ret hh ∈ ws) ∧
  (Cond.codeWith y bytes maxL ret hh).before args s = true ∧ (Cond.initialized y.cls).before args s = true ∧ (y.cls ≠ "java/lang/invoke/MethodHandle" ∧ y.cls ≠ "java/lang/invoke/VarHandle") ∧
  (∀ sig, parseMethodDescriptor y.desc = some sig → n = sig.parameters.length) ∧ (Cond.methodLink own index y).before args s = true ∧ (Cond.static y).before args s = true
theorem vx_cwSW {own : String} {index maxL mc ms : Nat} {y : MethodName} {bytes : ByteArray} {ret : Option FieldType} {hh : List (Nat × Nat × Nat × Nat)} {Ts ws ws' : List Cond} {rm : Room} (n : Nat) (ht : ∀ w ∈ Ts, w.before args s = true) (hT : GoodIn Ts (va_wsS own index y ws)) (hw : ws = Cond.codeWith y bytes maxL ret hh :: ws') (hrc : rm.cells = mc) (hrs : rm.slots = ms)
    (hd : y.cls ≠ "java/lang/invoke/MethodHandle" ∧ y.cls ≠ "java/lang/invoke/VarHandle" ∧ (parseMethodDescriptor y.desc).map (fun d => d.parameters.length) = some n) (hR : rm.frames + 1 ≤ R.frames ∧ 8 + (maxL + 11) + rm.locals ≤ R.locals) :
    vx_CSW R s args own index y bytes maxL ret hh ws rm mc ms n := by
  have ok : ∀ w ∈ va_wsS own index y ws, w.before args s = true := fun w h => ht w (hT w h).1
  have hG : GoodIn Ts ws := fun w h => hT w (by unfold va_wsS; exact List.mem_append_right _ h)
  have hc : Cond.codeWith y bytes maxL ret hh ∈ ws := by rw [hw]; exact List.mem_cons_self
  refine ⟨⟨hrc, hrs, hR.1, hR.2, pay_in ht hG, hc⟩, ht _ (hG _ hc).1, ok _ (by simp [va_wsS]), ⟨hd.1, hd.2.1⟩, fun sig h => ?_, ok _ (by simp [va_wsS]), ok _ (by simp [va_wsS])⟩
  have h2 := hd.2.2
  rw [h] at h2
  exact (Option.some.inj h2).symm
theorem vx_callSW (X : Stand p l e R s m args below meth c T locs cells slots) (hexec : p.tables.exec = Jvm.exec) {own : String} {index : Nat} {y : MethodName} {bytes : ByteArray} {maxL : Nat} {ret : Option FieldType} {hh : List (Nat × Nat × Nat × Nat)}
    (hown : s.vm.findClass own = some m.cls) (hlink : (Cond.methodLink own index y).before args s = true) (hstat : (Cond.static y).before args s = true) (hinit : (Cond.initialized y.cls).before args s = true)
    (hcode : (Cond.codeWith y bytes maxL ret hh).before args s = true) (hy : y.cls ≠ "java/lang/invoke/MethodHandle" ∧ y.cls ≠ "java/lang/invoke/VarHandle")
    {W9 : Nat} {Pre : Pt → Array Value → Prop} {Post : Pt → Array Value → Option Value → Pt → Prop} (hK : Back l R p e below s args y 3 W9 Pre Post)
    {g : JFrame} (hg : g.method = m) (hsize : g.locals.size = c.maxLocals) {argsL rest : List Value} (hlen : ∀ sig, parseMethodDescriptor y.desc = some sig → argsL.length = sig.parameters.length)
    (hstack : g.stack = argsL.reverse ++ rest) (hW : 2 * g.monitorRoom + (rest.map fun v => v.category).sum ≤ W9) (hdg : decode c.code g.pc = .ok (.invokestatic index, 3))
    (hpre : ∀ vm₁, s.WarmedH vm₁ → Pre ⟨T.setVm vm₁, locs, cells, slots⟩ argsL.toArray) :
    ∃ (v : Option Value) (vm₁ : Vm) (B : Pt), s.WarmedH vm₁ ∧ Stand p l e R s m args below meth c B.U B.locs B.cells B.slots ∧ Post ⟨T.setVm vm₁, locs, cells, slots⟩ argsL.toArray v B ∧
      ∀ target, Steps p.tables e below (B.U.setTop { g with pc := g.pc + 3, stack := v.toList ++ rest }) target → Steps p.tables e below (T.setTop g) target := by
  obtain ⟨mk, methM, cM, hnamed, hmethM, -, -, -, -, -, -, hsigM⟩ := Cond.codeWith_spec hcode
  have hstatic : methM.isStatic = true := Cond.static_spec hnamed hmethM hstat
  obtain ⟨kP, hkP, -⟩ := className_of_methodNamed hnamed
  have hinitP : kP.init = .initialized := Cond.initialized_spec (findClass_of_methodNamed hnamed) hkP hinit
  obtain ⟨vm₁, X₁, hstep₁⟩ := X.invokestatic hexec hown hlink hnamed hmethM hstatic hkP hinitP hy (g := g) hg (argsL := argsL) (rest := rest) (hlen _ hsigM) hstack hdg
  obtain ⟨v, B, X', hpost, hsteps⟩ := hK m meth c ⟨T.setVm vm₁, locs, cells, slots⟩ { g with stack := rest } (.invokestatic index) mk argsL.toArray X₁ hg hsize hdg hW (X₁.named hnamed) (hpre vm₁ X₁.warmed)
  exact ⟨v, vm₁, B, X₁.warmed, X', hpost, fun target h => hstep₁ _ fun acts => by rw [doInvoke_state]; exact hsteps.trans h⟩
theorem vx_runSW {y : MethodName} {bytes cc : ByteArray} {maxL nL mc ms n index : Nat} {ret : Option FieldType} {hh : List (Nat × Nat × Nat × Nat)} {ws : List Cond} {rm : Room} {Pc : Array Value → State → Prop} {Qc : Array Value → State → Outcome → State → Prop} {free : Addr → Prop} {Ts : List Cond} {own : String} {As rest : List Value} {g : JFrame}
    (S : CallFix p m c cc nL s args Ts own) (hM : Met l y ws rm Pc Qc mc ms free) (cw : vx_CSW R s args own index y bytes maxL ret hh ws rm mc ms n) (hp : PreS s H Pc As)
    (hg : g.method = m) (hn : As.length = n) (hsize : g.locals.size = nL) (hstack : g.stack = As.reverse ++ rest) (hW : 2 * g.monitorRoom + (rest.map fun v => v.category).sum ≤ 8) (hdg : decode cc g.pc = .ok (.invokestatic index, 3)) (hf : cells + mc ≤ R.cells ∧ slots + ms ≤ R.slots) :
    va_Run p l e R s m args below meth c H locs cells slots mc ms g rest (Qc As.toArray) (free) := by
  obtain ⟨⟨hrc, hrs, hfr, hlo, hws, hcw⟩, hcode, hini, hy, hlen, hl, hstt⟩ := cw
  have hK : Back l R p e below s args y 3 8 (PreOf R mc ms Pc) (PostOf Qc mc ms free) := va_backW (hh := hh) (bytes := bytes) (maxL := maxL) (ret := ret) hM hp.1 hrc hrs hfr hlo hws hcw (fun a' U hW => word_at hW (Or.inl (by first | rfl | simp [Cond.onTables, Cond.keeps, Cond.steady])) hini)
  obtain ⟨hx, hb, hml, ho, -⟩ := S
  intro T hT X
  obtain ⟨v, vm₁, ⟨U', l2, c2, s2⟩, hW₁, X', ⟨g', mk, t, L, e1, e2, hq, h1, hL, h2, h3⟩, st⟩ := vx_callSW X hx (hh := hh) (bytes := bytes) (maxL := maxL) (ret := ret) ho hl hstt hini hcode hy hK hg (hsize.trans hml.symm) (argsL := As) (rest := rest) (fun sig h => hn.trans (hlen sig h)) hstack hW (by rw [hb]; exact hdg)
    (fun vm₁ hW₁ => ⟨hf.1, hf.2, hp.2 (T.setVm vm₁) hT hW₁⟩)
  dsimp only [Pt.U, Pt.locs, Pt.cells, Pt.slots] at X' e1 e2 h1 h2 h3 st
  subst h1; subst h2; subst h3
  exact ⟨v, (T.setVm vm₁).calling g' mk As.toArray, t, U', L, hT, X', hL, e1, e2, hq, st⟩
/-- not caught here, past rows that name other classes: it goes on to the caller -/
theorem vx_outP {p : Program} {l : Launch} {e : Env} {R : Room} {s : State} {m : MethodId} {args : Array Value} {below : List Frame} {meth : Method} {c : Code} {H : Heap} {locs : List Loc} {cells slots : Nat} {free : Addr → Prop} {ls : Array Slot} {rest : List Value} {Qc : Array Value → State → Outcome → State → Prop} {XC : String → State → State → Prop}
    {pc : Nat} {own E : String} {ce : Cell} {q : Addr} {mc ms : Nat} (hown : s.vm.findClass own = some m.cls) (hlocks : meth.locks = false)
    (hpass : ∀ z ∈ c.exceptionTable.toList, covers z pc = false ∨ (z.catchType ≠ 0 ∧ ∃ nm : String, (Cond.classLink own z.catchType nm).before args s = true ∧ va_Nc E nm s)) (hcell : H[q]? = some ce) (hv : ce.vm = .none) (hcl : s.vm.findClass E = some ce.cls)
    (hx : ∀ t : State, t.heap = H → s.vm.Alike t.vm → XC E s t) (hf : ∀ z ∈ locs, free z.base) (hc : cells ≤ mc) (hs : slots ≤ ms) :
    vx_W p l e R s m args below meth c H locs cells slots (vx_MQ below Qc XC args s mc ms free) (F0 m pc ls rest) q := by
  intro T hT X
  have hpl : e.platform.magicAccessors = ({} : Platform).magicAccessors := by rw [X.admits.platform]
  obtain ⟨vm', hW', X', st⟩ := X.outThrough hlocks q (g := F0 m pc ls rest) rfl rfl rfl (cell := ce) (by rw [hT]; exact hcell) (by rw [hv]; rfl)
    (by obtain ⟨k9, h9, -⟩ := Vm.findClass_spec hcl; exact ⟨k9, h9⟩) (fun z hz => by
      rcases hpass z hz with h | ⟨hz0, nm, hl1, hn1⟩
      · exact Or.inl h
      · obtain ⟨c6, hc6, hcl6⟩ := Cond.classLink_spec hown hl1 e.platform hpl
        obtain ⟨a8, b8, h1, h2, h3⟩ := hn1
        cases Option.some.inj (h1.symm.trans hcl)
        cases Option.some.inj (h2.symm.trans hc6)
        exact Or.inr ⟨hz0, _, hcl6, h3⟩)
  obtain ⟨g₀, hfr⟩ := X'.frames_eq
  have hcell9 : ((T.setVm vm').setFrames (.throwing q :: below)).heap[q]? = some ce := by
    show T.heap[q]? = some ce
    rw [hT]; exact hcell
  have hend : Ended ((T.setVm vm').setFrames (.throwing q :: below)) below (.threw q) := State.frames_setFrames _ (State.cur_lt_of_frames hfr)
  refine ⟨(T.setVm vm').setFrames (.throwing q :: below), ?_, .threw q, X'.here.running, hend, Or.inr ⟨q, rfl, E, ce, locs, hx _ hT (X'.ends _).1.alike, hcell9, hv, hcl, (X'.ends _).1, (X'.ends _).2.mono hc hs, hf⟩⟩
  rw [X.pushThrowing_eq]
  exact st
/-- a thing of a world lies in the heap -/
theorem vx_lt {D : va_G} {cl : List vw_C} {ws : va_W} {H1 : Heap} (h : va_P D cl ws H1) {k : Nat} {q : Nat × va_E} (hk : ws[k]? = some q) : q.1 < H1.size := (h k q hk).lt
end VXS
/-! ===== END ===== -/
/-! ===== BEGIN methods with a table of their own: called by a name, returning or throwing ===== -/
section VXH
/-! vx_backW, vx_callVX, vx_callSX, vx_callVW, vx_runVW, vx_runVX, vx_runSX, vx_ofWH follow the same proofs as their sisters above (Free/Laws.lean, Shelf42/LK1.lean); vx_outP calls Shelf42/NT130.lean (outThrough). -/
section
variable {l : Launch} {R : Room} {p : Program} {e : Env} {below : List Frame} {s : State} {sargs : Array Value} {y : MethodName} {len W9 : Nat}
theorem vx_backW {ws : List Cond} {rm : Room} {Pc : Array Value → State → Prop} {Qc : Array Value → State → Outcome → State → Prop} {XC : String → State → State → Prop} {mc ms : Nat} {free : Addr → Prop} {bytes : ByteArray} {maxL : Nat} {ret : Option FieldType} {hh : List (Nat × Nat × Nat × Nat)}
    (hM : vx_Met l y ws rm Pc Qc XC mc ms free) (hblind : FrameBlind Pc) (hrc : rm.cells = mc) (hrs : rm.slots = ms)
    (hframes : rm.frames + 1 ≤ R.frames) (hlocals : W9 + (maxL + 11) + rm.locals ≤ R.locals)
    (hws : ∀ w ∈ ws, ∀ a' U, s.WarmedH U.vm → w.before a' U = true) (hcode : Cond.codeWith y bytes maxL ret hh ∈ ws) (hinit : ∀ a' U, s.WarmedH U.vm → (Cond.initialized y.cls).before a' U = true) :
    vx_Back l R p e below s sargs y len W9 (PreOf R mc ms Pc) (PostOf Qc mc ms free) (vx_Post XC mc ms free) := by
  intro m meth c A g ig mk a X hg hsize hdg hW hn hp
  have h1 : (headSpec ws rm).pre.before a A.U = true := atoms_intro fun w hw => hws w hw _ _ X.warmed
  have h2 : (Cond.codeWith y bytes maxL ret hh).before a A.U = true := hws _ hcode _ _ X.warmed
  have h3 : (Cond.initialized y.cls).before a A.U = true := hinit _ _ X.warmed
  have h4 : A.cells + (headSpec ws rm).room.cells ≤ R.cells := by rw [show (headSpec ws rm).room.cells = mc from hrc]; exact hp.1
  have h5 : A.slots + (headSpec ws rm).room.slots ≤ R.slots := by rw [show (headSpec ws rm).room.slots = ms from hrs]; exact hp.2.1
  have hPc : Pc a (A.U.calling g mk a) := hblind _ _ _ _ hp.2.2
  obtain ⟨U, Ls, c0, s0⟩ := A
  dsimp only [Pt.U, Pt.locs, Pt.cells, Pt.slots] at h1 h2 h3 h4 h5 X hn hPc ⊢
  obtain ⟨m9, methY, cY, hn9, hmY, hcY, -, hlY, -⟩ := Cond.codeWith_spec h2
  cases Option.some.inj (hn9.symm.trans hn)
  obtain ⟨kY, hkY, -⟩ := className_of_methodNamed hn
  have hinitY : kY.init = .initialized := Cond.initialized_spec (findClass_of_methodNamed hn) hkY h3
  have h : At U g.method c below := by rw [hg]; exact X.here
  have hlocals9 : W9 + (maxL + 11) + (headSpec ws rm).room.locals ≤ R.locals := hlocals
  have happ : (headSpec ws rm).appliesLoose y e.platform (U.calling g mk a) = true :=
    Spec.appliesLoose_calling (g := g) h hdg hn hkY hinitY
      (X.room_calling (g := g) (R' := (headSpec ws rm).room) hsize hmY hcY hframes (by rw [hlY]; omega) h4 h5) h1
  obtain ⟨mid, hmid⟩ := h.above
  have hfr : (U.setTop g).frames = (.java g :: mid) ++ below := by rw [State.frames_setTop' g h.top, hmid]; rfl
  obtain ⟨o, s₂, hsteps, -, hend, hq⟩ := Steps.callFree hM p X.admits X.cas X.clock (acts := []) hfr happ hPc trivial
  have hq' : vx_Q Qc XC mc ms free a (U.calling g mk a) o s₂ := hq
  rw [State.frames_setTop' g h.top] at hend
  obtain ⟨g₀, hg0⟩ := Option.isSome_iff_exists.mp h.top
  obtain ⟨r, hr⟩ := State.topJava?_eq_some.mp hg0
  have hr' : (({ U with heap := s₂.heap, slotsUsed := s₂.slotsUsed } : State).setVm s₂.vm).frames = .java g₀ :: r := hr
  rcases hq' with ⟨hqc, L, hfe, hL⟩ | ⟨q, rfl, E, ce, L, hx, hce, hcv, hcl, hW₂, hsm, hL⟩
  · obtain ⟨⟨v, rfl⟩, hW₂, e2, q2, q3, q4, q5, q6⟩ := id hfe
    have e3 : s₂ = ({ (U.calling g mk a).setFrames s₂.frames with heap := s₂.heap, slotsUsed := s₂.slotsUsed } : State).setVm s₂.vm := by
      have : s₂ = ({ s₂ with vm := (U.calling g mk a).vm } : State).setVm s₂.vm := rfl
      rw [e2] at this
      exact this
    obtain ⟨c₂, i₂, len₂, hc₂, hd₂, hf₂⟩ := hend
    have hW' : U.WarmedH s₂.vm := hW₂
    have hcc : c₂ = c := by
      have h1 : s₂.code? g.method = U.code? g.method := by
        rw [State.code?_eq, State.code?_eq, hW'.alike.method?]
      exact Option.some.inj (hc₂.symm.trans (h1.trans h.code))
    subst hcc
    have hlen : len₂ = len := by rw [hdg] at hd₂; cases hd₂; rfl
    subst hlen
    have hs₂ : s₂ = (({ U with heap := s₂.heap, slotsUsed := s₂.slotsUsed } : State).setVm s₂.vm).setTop { g with pc := g.pc + len₂, stack := v.toList ++ g.stack } := by
      refine e3.trans ?_
      rw [hf₂, State.calling_eq h.top, State.setFrames_setFrames, State.setTop_of_frames _ hr', hr]
      rfl
    have hsame : U.sameButNew ({ U with heap := s₂.heap, slotsUsed := s₂.slotsUsed } : State) L mc ms := by
      refine ⟨?_, q2, q3, q4, q5, q6⟩
      obtain ⟨t, ht, -⟩ := State.frames_cons hr
      show ({ U with heap := s₂.heap, slotsUsed := s₂.slotsUsed } : State) = { U.setFrames U.frames with heap := s₂.heap, slotsUsed := s₂.slotsUsed }
      rw [State.setFrames_self ht]
    subst hg
    refine Or.inl ⟨v, ⟨(({ U with heap := s₂.heap, slotsUsed := s₂.slotsUsed } : State).setVm s₂.vm), Ls ++ L, c0 + mc, s0 + ms⟩,
      ⟨X.admits, X.cas, X.clock, X.frames, X.room, X.hears, X.method, X.code, (X.here.setHeapUsed s₂.heap s₂.slotsUsed).setVm hW'.alike, X.tail, State.WarmedH.trans X.warmed hW', X.limits, X.bytes, X.same.trans (hsame.setVm s.vm)⟩,
      ⟨g, mk, s₂, L, rfl, rfl, hqc, rfl, hL, rfl, rfl⟩, ?_⟩
    show Steps p.tables e below _ ((({ U with heap := s₂.heap, slotsUsed := s₂.slotsUsed } : State).setVm s₂.vm).setTop { g with pc := g.pc + len₂, stack := v.toList ++ g.stack })
    rw [← hs₂]
    exact hsteps
  · obtain ⟨e2, q2, q3, q4, q5, q6⟩ := id hsm
    have e3 : s₂ = ({ (U.calling g mk a).setFrames s₂.frames with heap := s₂.heap, slotsUsed := s₂.slotsUsed } : State).setVm s₂.vm := by
      have : s₂ = ({ s₂ with vm := (U.calling g mk a).vm } : State).setVm s₂.vm := rfl
      rw [e2] at this
      exact this
    have hf₂ : s₂.frames = .throwing q :: .java g :: U.frames.tail := hend
    have hW' : U.WarmedH s₂.vm := hW₂
    have hs₂ : s₂ = ((({ U with heap := s₂.heap, slotsUsed := s₂.slotsUsed } : State).setVm s₂.vm).setTop g).pushFrame (.throwing q) := by
      refine e3.trans ?_
      rw [hf₂, State.calling_eq h.top, State.setFrames_setFrames, State.pushFrame, State.frames_setTop _ hr', State.setTop_of_frames _ hr', State.setFrames_setFrames, hr]
      rfl
    have hsame : U.sameButNew ({ U with heap := s₂.heap, slotsUsed := s₂.slotsUsed } : State) L mc ms := by
      refine ⟨?_, q2, q3, q4, q5, q6⟩
      obtain ⟨t, ht, -⟩ := State.frames_cons hr
      show ({ U with heap := s₂.heap, slotsUsed := s₂.slotsUsed } : State) = { U.setFrames U.frames with heap := s₂.heap, slotsUsed := s₂.slotsUsed }
      rw [State.setFrames_self ht]
    subst hg
    refine Or.inr ⟨q, ⟨(({ U with heap := s₂.heap, slotsUsed := s₂.slotsUsed } : State).setVm s₂.vm), Ls ++ L, c0 + mc, s0 + ms⟩,
      ⟨X.admits, X.cas, X.clock, X.frames, X.room, X.hears, X.method, X.code, (X.here.setHeapUsed s₂.heap s₂.slotsUsed).setVm hW'.alike, X.tail, State.WarmedH.trans X.warmed hW', X.limits, X.bytes, X.same.trans (hsame.setVm s.vm)⟩,
      ⟨g, mk, s₂, L, E, ce, rfl, rfl, hx, hce, hcv, hcl, rfl, hL, rfl, rfl⟩, ?_⟩
    show Steps p.tables e below _ (((({ U with heap := s₂.heap, slotsUsed := s₂.slotsUsed } : State).setVm s₂.vm).setTop g).pushFrame (.throwing q))
    rw [← hs₂]
    exact hsteps
end
variable {p : Program} {l : Launch} {e : Env} {R : Room} {s : State} {m : MethodId} {args : Array Value} {below : List Frame} {meth : Method} {c : Code} {T : State} {H : Heap} {locs : List Loc} {cells slots : Nat}
theorem vx_callVX (X : Stand p l e R s m args below meth c T locs cells slots) (hexec : p.tables.exec = Jvm.exec) {own C : String} {index : Nat} {y : MethodName} {bytes : ByteArray} {maxL : Nat} {ret : Option FieldType} {hh : List (Nat × Nat × Nat × Nat)}
    (hown : s.vm.findClass own = some m.cls) (hlink : (Cond.methodLink own index y).before args s = true) (hinst : (Cond.instanceMethod y).before args s = true) (hsel : (Cond.selects C y y).before args s = true)
    (hcode : (Cond.codeWith y bytes maxL ret hh).before args s = true) (hy : y.cls ≠ "java/lang/invoke/MethodHandle" ∧ y.cls ≠ "java/lang/invoke/VarHandle")
    {W9 : Nat} {Pre : Pt → Array Value → Prop} {Post : Pt → Array Value → Option Value → Pt → Prop} {PostX : Pt → Array Value → Addr → Pt → Prop} (hK : vx_Back l R p e below s args y 3 W9 Pre Post PostX)
    {b : Addr} {cellB : Cell} (hcell : T.heap[b]? = some cellB) (hobj : cellB.vm.isStatics = false) (hcls : s.vm.findClass C = some cellB.cls)
    {g : JFrame} (hg : g.method = m) (hsize : g.locals.size = c.maxLocals) {argsL rest : List Value} (hlen : ∀ sig, parseMethodDescriptor y.desc = some sig → argsL.length = sig.parameters.length)
    (hstack : g.stack = argsL.reverse ++ .ref b :: rest) (hW : 2 * g.monitorRoom + (rest.map fun v => v.category).sum ≤ W9) (hdg : decode c.code g.pc = .ok (.invokevirtual index, 3))
    (hpre : ∀ vm₁, s.WarmedH vm₁ → Pre ⟨T.setVm vm₁, locs, cells, slots⟩ (Value.ref b :: argsL).toArray) :
    (∃ (v : Option Value) (vm₁ : Vm) (B : Pt), s.WarmedH vm₁ ∧ Stand p l e R s m args below meth c B.U B.locs B.cells B.slots ∧ Post ⟨T.setVm vm₁, locs, cells, slots⟩ (Value.ref b :: argsL).toArray v B ∧
      ∀ target, Steps p.tables e below (B.U.setTop { g with pc := g.pc + 3, stack := v.toList ++ rest }) target → Steps p.tables e below (T.setTop g) target) ∨
    (∃ (q : Addr) (vm₁ : Vm) (B : Pt), s.WarmedH vm₁ ∧ Stand p l e R s m args below meth c B.U B.locs B.cells B.slots ∧ PostX ⟨T.setVm vm₁, locs, cells, slots⟩ (Value.ref b :: argsL).toArray q B ∧
      Steps p.tables e below (T.setTop g) ((B.U.setTop { g with stack := rest }).pushFrame (.throwing q))) := by
  obtain ⟨mk, methM, hnamed, hmethM, hstM, habM⟩ := Cond.instanceMethod_spec hinst
  obtain ⟨m8, methM', cM, hn8, hmethM', -, -, -, -, -, -, hsigM⟩ := Cond.codeWith_spec hcode
  cases Option.some.inj (hn8.symm.trans hnamed)
  cases hmethM.symm.trans hmethM'
  obtain ⟨c2, r2, m2, q1, q2, q3, q4, kP, hkP, hkPi⟩ := Cond.selects_spec hsel
  cases hcls.symm.trans q1
  cases (State.methodFound?_of_named hnamed hy).symm.trans q2
  cases hnamed.symm.trans q3
  have hselP : selectMethod e.platform s.vm cellB.cls mk = .method mk := by rw [Launch.admits_selectMethod X.admits]; exact q4
  obtain ⟨vm₁, X₁, hstep₁⟩ := X.invokevirtual hexec hown hlink hnamed hmethM hstM hkP hkPi hy (a := b) (cell := cellB) hcell
    (fun z h => by rw [h] at hobj; cases hobj) hselP hmethM habM hkP hkPi (g := g) hg (argsL := argsL) (rest := rest) (hlen _ hsigM) hstack hdg
  rcases hK m meth c ⟨T.setVm vm₁, locs, cells, slots⟩ { g with stack := rest } (.invokevirtual index) mk (Value.ref b :: argsL).toArray X₁ hg hsize hdg hW (X₁.named hnamed) (hpre vm₁ X₁.warmed) with ⟨v, B, X', hpost, hsteps⟩ | ⟨q, B, X', hpost, hsteps⟩
  · exact Or.inl ⟨v, vm₁, B, X₁.warmed, X', hpost, fun target h => hstep₁ _ fun acts => by rw [doInvoke_state]; exact hsteps.trans h⟩
  · exact Or.inr ⟨q, vm₁, B, X₁.warmed, X', hpost, hstep₁ _ fun acts => by rw [doInvoke_state]; exact hsteps⟩
theorem vx_callSX (X : Stand p l e R s m args below meth c T locs cells slots) (hexec : p.tables.exec = Jvm.exec) {own : String} {index : Nat} {y : MethodName} {bytes : ByteArray} {maxL : Nat} {ret : Option FieldType} {hh : List (Nat × Nat × Nat × Nat)}
    (hown : s.vm.findClass own = some m.cls) (hlink : (Cond.methodLink own index y).before args s = true) (hstat : (Cond.static y).before args s = true) (hinit : (Cond.initialized y.cls).before args s = true)
    (hcode : (Cond.codeWith y bytes maxL ret hh).before args s = true) (hy : y.cls ≠ "java/lang/invoke/MethodHandle" ∧ y.cls ≠ "java/lang/invoke/VarHandle")
    {W9 : Nat} {Pre : Pt → Array Value → Prop} {Post : Pt → Array Value → Option Value → Pt → Prop} {PostX : Pt → Array Value → Addr → Pt → Prop} (hK : vx_Back l R p e below s args y 3 W9 Pre Post PostX)
    {g : JFrame} (hg : g.method = m) (hsize : g.locals.size = c.maxLocals) {argsL rest : List Value} (hlen : ∀ sig, parseMethodDescriptor y.desc = some sig → argsL.length = sig.parameters.length)
    (hstack : g.stack = argsL.reverse ++ rest) (hW : 2 * g.monitorRoom + (rest.map fun v => v.category).sum ≤ W9) (hdg : decode c.code g.pc = .ok (.invokestatic index, 3))
    (hpre : ∀ vm₁, s.WarmedH vm₁ → Pre ⟨T.setVm vm₁, locs, cells, slots⟩ argsL.toArray) :
    (∃ (v : Option Value) (vm₁ : Vm) (B : Pt), s.WarmedH vm₁ ∧ Stand p l e R s m args below meth c B.U B.locs B.cells B.slots ∧ Post ⟨T.setVm vm₁, locs, cells, slots⟩ argsL.toArray v B ∧
      ∀ target, Steps p.tables e below (B.U.setTop { g with pc := g.pc + 3, stack := v.toList ++ rest }) target → Steps p.tables e below (T.setTop g) target) ∨
    (∃ (q : Addr) (vm₁ : Vm) (B : Pt), s.WarmedH vm₁ ∧ Stand p l e R s m args below meth c B.U B.locs B.cells B.slots ∧ PostX ⟨T.setVm vm₁, locs, cells, slots⟩ argsL.toArray q B ∧
      Steps p.tables e below (T.setTop g) ((B.U.setTop { g with stack := rest }).pushFrame (.throwing q))) := by
  obtain ⟨mk, methM, cM, hnamed, hmethM, -, -, -, -, -, -, hsigM⟩ := Cond.codeWith_spec hcode
  have hstatic : methM.isStatic = true := Cond.static_spec hnamed hmethM hstat
  obtain ⟨kP, hkP, -⟩ := className_of_methodNamed hnamed
  have hinitP : kP.init = .initialized := Cond.initialized_spec (findClass_of_methodNamed hnamed) hkP hinit
  obtain ⟨vm₁, X₁, hstep₁⟩ := X.invokestatic hexec hown hlink hnamed hmethM hstatic hkP hinitP hy (g := g) hg (argsL := argsL) (rest := rest) (hlen _ hsigM) hstack hdg
  rcases hK m meth c ⟨T.setVm vm₁, locs, cells, slots⟩ { g with stack := rest } (.invokestatic index) mk argsL.toArray X₁ hg hsize hdg hW (X₁.named hnamed) (hpre vm₁ X₁.warmed) with ⟨v, B, X', hpost, hsteps⟩ | ⟨q, B, X', hpost, hsteps⟩
  · exact Or.inl ⟨v, vm₁, B, X₁.warmed, X', hpost, fun target h => hstep₁ _ fun acts => by rw [doInvoke_state]; exact hsteps.trans h⟩
  · exact Or.inr ⟨q, vm₁, B, X₁.warmed, X', hpost, hstep₁ _ fun acts => by rw [doInvoke_state]; exact hsteps⟩
theorem vx_callVW (X : Stand p l e R s m args below meth c T locs cells slots) (hexec : p.tables.exec = Jvm.exec) {own C : String} {index : Nat} {y : MethodName} {bytes : ByteArray} {maxL : Nat} {ret : Option FieldType} {hh : List (Nat × Nat × Nat × Nat)}
    (hown : s.vm.findClass own = some m.cls) (hlink : (Cond.methodLink own index y).before args s = true) (hinst : (Cond.instanceMethod y).before args s = true) (hsel : (Cond.selects C y y).before args s = true)
    (hcode : (Cond.codeWith y bytes maxL ret hh).before args s = true) (hy : y.cls ≠ "java/lang/invoke/MethodHandle" ∧ y.cls ≠ "java/lang/invoke/VarHandle")
    {W9 : Nat} {Pre : Pt → Array Value → Prop} {Post : Pt → Array Value → Option Value → Pt → Prop} (hK : Back l R p e below s args y 3 W9 Pre Post)
    {b : Addr} {cellB : Cell} (hcell : T.heap[b]? = some cellB) (hobj : cellB.vm.isStatics = false) (hcls : s.vm.findClass C = some cellB.cls)
    {g : JFrame} (hg : g.method = m) (hsize : g.locals.size = c.maxLocals) {argsL rest : List Value} (hlen : ∀ sig, parseMethodDescriptor y.desc = some sig → argsL.length = sig.parameters.length)
    (hstack : g.stack = argsL.reverse ++ .ref b :: rest) (hW : 2 * g.monitorRoom + (rest.map fun v => v.category).sum ≤ W9) (hdg : decode c.code g.pc = .ok (.invokevirtual index, 3))
    (hpre : ∀ vm₁, s.WarmedH vm₁ → Pre ⟨T.setVm vm₁, locs, cells, slots⟩ (Value.ref b :: argsL).toArray) :
    ∃ (v : Option Value) (vm₁ : Vm) (B : Pt), s.WarmedH vm₁ ∧ Stand p l e R s m args below meth c B.U B.locs B.cells B.slots ∧ Post ⟨T.setVm vm₁, locs, cells, slots⟩ (Value.ref b :: argsL).toArray v B ∧
      ∀ target, Steps p.tables e below (B.U.setTop { g with pc := g.pc + 3, stack := v.toList ++ rest }) target → Steps p.tables e below (T.setTop g) target := by
  obtain ⟨mk, methM, hnamed, hmethM, hstM, habM⟩ := Cond.instanceMethod_spec hinst
  obtain ⟨m8, methM', cM, hn8, hmethM', -, -, -, -, -, -, hsigM⟩ := Cond.codeWith_spec hcode
  cases Option.some.inj (hn8.symm.trans hnamed)
  cases hmethM.symm.trans hmethM'
  obtain ⟨c2, r2, m2, q1, q2, q3, q4, kP, hkP, hkPi⟩ := Cond.selects_spec hsel
  cases hcls.symm.trans q1
  cases (State.methodFound?_of_named hnamed hy).symm.trans q2
  cases hnamed.symm.trans q3
  have hselP : selectMethod e.platform s.vm cellB.cls mk = .method mk := by rw [Launch.admits_selectMethod X.admits]; exact q4
  obtain ⟨vm₁, X₁, hstep₁⟩ := X.invokevirtual hexec hown hlink hnamed hmethM hstM hkP hkPi hy (a := b) (cell := cellB) hcell
    (fun z h => by rw [h] at hobj; cases hobj) hselP hmethM habM hkP hkPi (g := g) hg (argsL := argsL) (rest := rest) (hlen _ hsigM) hstack hdg
  obtain ⟨v, B, X', hpost, hsteps⟩ := hK m meth c ⟨T.setVm vm₁, locs, cells, slots⟩ { g with stack := rest } (.invokevirtual index) mk (Value.ref b :: argsL).toArray X₁ hg hsize hdg hW (X₁.named hnamed) (hpre vm₁ X₁.warmed)
  exact ⟨v, vm₁, B, X₁.warmed, X', hpost, fun target h => hstep₁ _ fun acts => by rw [doInvoke_state]; exact hsteps.trans h⟩
abbrev vx_CVW (R : Room) (s : State) (args : Array Value) (own C : String) (index : Nat) (y : MethodName) (bytes : ByteArray) (maxL : Nat) (ret : Option FieldType) (hh : List (Nat × Nat × Nat × Nat)) (ws : List Cond) (rm : Room) (mc ms n : Nat) : Prop :=
  (rm.cells = mc ∧ rm.slots = ms ∧ rm.frames + 1 ≤ R.frames ∧ 8 + (maxL + 11) + rm.locals ≤ R.locals ∧ (∀ w ∈ ws, ∀ (a' : Array Value) (U : State), s.WarmedH U.vm → w.before a' U = true) ∧ Cond.codeWith y bytes maxL ret hh ∈ ws) ∧
  (Cond.codeWith y bytes maxL ret hh).before args s = true ∧ (Cond.initialized y.cls).before args s = true ∧ (y.cls ≠ "java/lang/invoke/MethodHandle" ∧ y.cls ≠ "java/lang/invoke/VarHandle") ∧
  (∀ sig, parseMethodDescriptor y.desc = some sig → n = sig.parameters.length) ∧ (Cond.methodLink own index y).before args s = true ∧ (Cond.instanceMethod y).before args s = true ∧ (Cond.selects C y y).before args s = true
theorem vx_cwVW {own C : String} {index maxL mc ms : Nat} {y : MethodName} {bytes : ByteArray} {ret : Option FieldType} {hh : List (Nat × Nat × Nat × Nat)} {Ts ws ws' : List Cond} {rm : Room} (n : Nat) (ht : ∀ w ∈ Ts, w.before args s = true) (hT : GoodIn Ts (wsV own index C y ws)) (hw : ws = Cond.codeWith y bytes maxL ret hh :: ws') (hrc : rm.cells = mc) (hrs : rm.slots = ms)
    (hd : y.cls = C ∧ y.cls ≠ "java/lang/invoke/MethodHandle" ∧ y.cls ≠ "java/lang/invoke/VarHandle" ∧ (parseMethodDescriptor y.desc).map (fun d => d.parameters.length) = some n) (hR : rm.frames + 1 ≤ R.frames ∧ 8 + (maxL + 11) + rm.locals ≤ R.locals) :
    vx_CVW R s args own C index y bytes maxL ret hh ws rm mc ms n := by
  obtain ⟨hC, hd⟩ := hd
  subst hC
  have ok : ∀ w ∈ wsV own index y.cls y ws, w.before args s = true := fun w h => ht w (hT w h).1
  have hG : GoodIn Ts ws := fun w h => hT w (by unfold wsV; exact List.mem_append_right _ h)
  have hc : Cond.codeWith y bytes maxL ret hh ∈ ws := by rw [hw]; exact List.mem_cons_self
  refine ⟨⟨hrc, hrs, hR.1, hR.2, pay_in ht hG, hc⟩, ht _ (hG _ hc).1, ok _ (by simp [wsV]), ⟨hd.1, hd.2.1⟩, fun sig h => ?_, ok _ (by simp [wsV]), ok _ (by simp [wsV]), ok _ (by simp [wsV])⟩
  have h2 := hd.2.2
  rw [h] at h2
  exact (Option.some.inj h2).symm
theorem vx_runVW {y : MethodName} {bytes cc : ByteArray} {maxL nL mc ms n index : Nat} {ret : Option FieldType} {hh : List (Nat × Nat × Nat × Nat)} {ws : List Cond} {rm : Room} {Pc : Array Value → State → Prop} {Qc : Array Value → State → Outcome → State → Prop} {free : Addr → Prop} {Ts : List Cond} {own C : String} {b : Addr} {As rest : List Value} {g : JFrame}
    (S : CallFix p m c cc nL s args Ts own) (hM : Met l y ws rm Pc Qc mc ms free) (cw : vx_CVW R s args own C index y bytes maxL ret hh ws rm mc ms n) (hp : PreV s H C b Pc As)
    (hg : g.method = m) (hn : As.length = n) (hsize : g.locals.size = nL) (hstack : g.stack = As.reverse ++ .ref b :: rest) (hW : 2 * g.monitorRoom + (rest.map fun v => v.category).sum ≤ 8) (hdg : decode cc g.pc = .ok (.invokevirtual index, 3)) (hf : cells + mc ≤ R.cells ∧ slots + ms ≤ R.slots) :
    va_Run p l e R s m args below meth c H locs cells slots mc ms g rest (Qc (Value.ref b :: As).toArray) free := by
  obtain ⟨⟨hrc, hrs, hfr, hlo, hws, hcw⟩, hcode, hini, hy, hlen, hl, hin, hse⟩ := cw
  have hK : Back l R p e below s args y 3 8 (PreOf R mc ms Pc) (PostOf Qc mc ms free) := va_backW (hh := hh) (bytes := bytes) (maxL := maxL) (ret := ret) hM hp.1 hrc hrs hfr hlo hws hcw (fun a' U hW => word_at hW (Or.inl (by first | rfl | simp [Cond.onTables, Cond.keeps, Cond.steady])) hini)
  obtain ⟨hx, hb, hml, ho, -⟩ := S
  obtain ⟨-, ⟨cellB, hcB, hoB, hclB⟩, hPc⟩ := hp
  intro T hT X
  obtain ⟨v, vm₁, ⟨U', l2, c2, s2⟩, hW₁, X', ⟨g', mk, t, L, e1, e2, hq, h1, hL, h2, h3⟩, st⟩ := vx_callVW X hx (C := C) (hh := hh) (bytes := bytes) (maxL := maxL) (ret := ret) ho hl hin hse hcode hy hK (by rw [hT]; exact hcB) hoB hclB hg (hsize.trans hml.symm) (argsL := As) (rest := rest) (fun sig h => hn.trans (hlen sig h)) hstack hW (by rw [hb]; exact hdg)
    (fun vm₁ hW₁ => ⟨hf.1, hf.2, hPc (T.setVm vm₁) hT hW₁⟩)
  dsimp only [Pt.U, Pt.locs, Pt.cells, Pt.slots] at X' e1 e2 h1 h2 h3 st
  subst h1; subst h2; subst h3
  exact ⟨v, (T.setVm vm₁).calling g' mk (Value.ref b :: As).toArray, t, U', L, hT, X', hL, e1, e2, hq, st⟩
section
variable {y : MethodName} {bytes cc : ByteArray} {maxL nL mc ms n index : Nat} {ret : Option FieldType} {ws : List Cond} {rm : Room} {Pc : Array Value → State → Prop} {Qc : Array Value → State → Outcome → State → Prop} {XC : String → State → State → Prop} {free : Addr → Prop} {Ts : List Cond} {own C : String} {b : Addr} {As rest : List Value} {g : JFrame}
theorem vx_runVX {hh : List (Nat × Nat × Nat × Nat)} (S : CallFix p m c cc nL s args Ts own) (hM : vx_Met l y ws rm Pc Qc XC mc ms free) (cw : vx_CVW R s args own C index y bytes maxL ret hh ws rm mc ms n) (hp : PreV s H C b Pc As)
    (hg : g.method = m) (hn : As.length = n) (hsize : g.locals.size = nL) (hstack : g.stack = As.reverse ++ .ref b :: rest) (hW : 2 * g.monitorRoom + (rest.map fun v => v.category).sum ≤ 8) (hdg : decode cc g.pc = .ok (.invokevirtual index, 3)) (hf : cells + mc ≤ R.cells ∧ slots + ms ≤ R.slots) :
    vx_Run p l e R s m args below meth c H locs cells slots mc ms g rest (Qc (Value.ref b :: As).toArray) XC free := by
  obtain ⟨⟨hrc, hrs, hfr, hlo, hws, hcw⟩, hcode, hini, hy, hlen, hl, hin, hse⟩ := cw
  have hK : vx_Back l R p e below s args y 3 8 (PreOf R mc ms Pc) (PostOf Qc mc ms free) (vx_Post XC mc ms free) := vx_backW (hh := hh) (bytes := bytes) (maxL := maxL) (ret := ret) hM hp.1 hrc hrs hfr hlo hws hcw (fun a' U hW => word_at hW (Or.inl (by first | rfl | simp [Cond.onTables, Cond.keeps, Cond.steady])) hini)
  obtain ⟨hx, hb, hml, ho, -⟩ := S
  obtain ⟨-, ⟨cellB, hcB, hoB, hclB⟩, hPc⟩ := hp
  intro T hT X
  rcases vx_callVX X hx (C := C) (hh := hh) (bytes := bytes) (maxL := maxL) (ret := ret) ho hl hin hse hcode hy hK (by rw [hT]; exact hcB) hoB hclB hg (hsize.trans hml.symm) (argsL := As) (rest := rest) (fun sig h => hn.trans (hlen sig h)) hstack hW (by rw [hb]; exact hdg)
    (fun vm₁ hW₁ => ⟨hf.1, hf.2, hPc (T.setVm vm₁) hT hW₁⟩) with ⟨v, vm₁, ⟨U', l2, c2, s2⟩, hW₁, X', ⟨g', mk, t, L, e1, e2, hq, h1, hL, h2, h3⟩, st⟩ | ⟨q, vm₁, ⟨U', l2, c2, s2⟩, hW₁, X', ⟨g', mk, t, L, E, ce, e1, e2, hq, hce, hcv, hcl, h1, hL, h2, h3⟩, st⟩
  · dsimp only [Pt.U, Pt.locs, Pt.cells, Pt.slots] at X' e1 e2 h1 h2 h3 st
    subst h1; subst h2; subst h3
    exact Or.inl ⟨v, (T.setVm vm₁).calling g' mk (Value.ref b :: As).toArray, t, U', L, hT, X', hL, e1, e2, hq, st⟩
  · dsimp only [Pt.U, Pt.locs, Pt.cells, Pt.slots] at X' e1 e2 h1 h2 h3 st hcl
    subst h1; subst h2; subst h3
    exact Or.inr ⟨q, (T.setVm vm₁).calling g' mk (Value.ref b :: As).toArray, t, U', L, E, ce, hT, X', hL, e1, e2, hq, hce, hcv, vx_cls hW₁ hcl, st⟩
theorem vx_runSX {hh : List (Nat × Nat × Nat × Nat)} (S : CallFix p m c cc nL s args Ts own) (hM : vx_Met l y ws rm Pc Qc XC mc ms free) (cw : vx_CSW R s args own index y bytes maxL ret hh ws rm mc ms n) (hp : PreS s H Pc As)
    (hg : g.method = m) (hn : As.length = n) (hsize : g.locals.size = nL) (hstack : g.stack = As.reverse ++ rest) (hW : 2 * g.monitorRoom + (rest.map fun v => v.category).sum ≤ 8) (hdg : decode cc g.pc = .ok (.invokestatic index, 3)) (hf : cells + mc ≤ R.cells ∧ slots + ms ≤ R.slots) :
    vx_Run p l e R s m args below meth c H locs cells slots mc ms g rest (Qc As.toArray) XC free := by
  obtain ⟨⟨hrc, hrs, hfr, hlo, hws, hcw⟩, hcode, hini, hy, hlen, hl, hstt⟩ := cw
  have hK : vx_Back l R p e below s args y 3 8 (PreOf R mc ms Pc) (PostOf Qc mc ms free) (vx_Post XC mc ms free) := vx_backW (hh := hh) (bytes := bytes) (maxL := maxL) (ret := ret) hM hp.1 hrc hrs hfr hlo hws hcw (fun a' U hW => word_at hW (Or.inl (by first | rfl | simp [Cond.onTables, Cond.keeps, Cond.steady])) hini)
  obtain ⟨hx, hb, hml, ho, -⟩ := S
  intro T hT X
  rcases vx_callSX X hx (hh := hh) (bytes := bytes) (maxL := maxL) (ret := ret) ho hl hstt hini hcode hy hK hg (hsize.trans hml.symm) (argsL := As) (rest := rest) (fun sig h => hn.trans (hlen sig h)) hstack hW (by rw [hb]; exact hdg)
    (fun vm₁ hW₁ => ⟨hf.1, hf.2, hp.2 (T.setVm vm₁) hT hW₁⟩) with ⟨v, vm₁, ⟨U', l2, c2, s2⟩, hW₁, X', ⟨g', mk, t, L, e1, e2, hq, h1, hL, h2, h3⟩, st⟩ | ⟨q, vm₁, ⟨U', l2, c2, s2⟩, hW₁, X', ⟨g', mk, t, L, E, ce, e1, e2, hq, hce, hcv, hcl, h1, hL, h2, h3⟩, st⟩
  · dsimp only [Pt.U, Pt.locs, Pt.cells, Pt.slots] at X' e1 e2 h1 h2 h3 st
    subst h1; subst h2; subst h3
    exact Or.inl ⟨v, (T.setVm vm₁).calling g' mk As.toArray, t, U', L, hT, X', hL, e1, e2, hq, st⟩
  · dsimp only [Pt.U, Pt.locs, Pt.cells, Pt.slots] at X' e1 e2 h1 h2 h3 st hcl
    subst h1; subst h2; subst h3
    exact Or.inr ⟨q, (T.setVm vm₁).calling g' mk As.toArray, t, U', L, E, ce, hT, X', hL, e1, e2, hq, hce, hcv, vx_cls hW₁ hcl, st⟩
end
end VXH
theorem vx_ofWH {l : Launch} {y : MethodName} {ws ws' : List Cond} {rm : Room} {Pc : Array Value → State → Prop} {Qc : Array Value → State → Outcome → State → Prop} {XC : String → State → State → Prop} {mc ms : Nat} {free : Addr → Prop} {cc : ByteArray} {maxL : Nat} {ret : Option FieldType} {hh : List (Nat × Nat × Nat × Nat)}
    (hy : plainName y.cls = true) (hw : ws = Cond.codeWith y cc maxL ret hh :: ws')
    (body : ∀ p e s m args below meth c s₁, BodyLoose p l y (headSpec ws rm) cc maxL ret e s m args below meth c s₁ → c.maxLocals = maxL → Pc args s →
      W p l e (headSpec ws rm).room s m args below meth c s.heap [] 0 0 (vx_MQ below Qc XC args s mc ms free) (entryFrame m args maxL)) : vx_Met l y ws rm Pc Qc XC mc ms free := by
  refine MetFree.of_bodyS (code := cc) (maxLocals := maxL) (ret := ret) hy ?_ ?_
  · intro args s m h hn
    obtain ⟨m9, meth, c, hn9, h1, h2, h3, h4, -, h5, h6, -⟩ := Cond.codeWith_spec (atoms_spec (ws := ws) h _ (by rw [hw]; exact List.mem_cons_self))
    cases hn.symm.trans hn9
    exact ⟨meth, c, h1, h2, h3, h4, h5, h6⟩
  · intro p e s m args below meth c s₁ B hml hP _
    have hh0 : s₁.heap = s.heap := by rw [B.state]; rfl
    obtain ⟨t, a1, o, b1, b2, b3⟩ := body p e s m args below meth c s₁ B hml hP s₁ hh0 (Stand.of_body B)
    exact ⟨t, o, a1, b1, b2, b3⟩
/-! ===== END ===== -/
end
section
/-! ===== BEGIN printed: names, fields, word lists, decode rows ===== -/
def RX0 : String := "KindGuesser$ByteSide"
def TX0 : u_T := fun k => match k with
  | 0 => ("KindGuesser$ByteSide", "values", "[I", true)
  | 1 => ("KindGuesser$ByteSide", "byteCount", "I", false)
  | 2 => ("KindGuesser$ByteSide", "kindsOfRules", "[I", true)
  | 3 => ("KindGuesser$ByteSide", "priorities", "[I", true)
  | 4 => ("KindGuesser$ByteSide", "testCounts", "[I", true)
  | 5 => ("KindGuesser$ByteSide", "ruleCount", "I", false)
  | 6 => ("KindGuesser$ByteSide", "levels", "[I", true)
  | 7 => ("KindGuesser$ByteSide", "froms", "[I", true)
  | 8 => ("KindGuesser$ByteSide", "tos", "[I", true)
  | 9 => ("KindGuesser$ByteSide", "wanted", "[I", true)
  | 10 => ("KindGuesser$ByteSide", "masks", "[I", true)
  | _ => ("KindGuesser$ByteSide", "leads", "[Z", true)
def tyX0 : Nat → FieldType := fun k => match k with
  | 0 => .array .int
  | 1 => .int
  | 2 => .array .int
  | 3 => .array .int
  | 4 => .array .int
  | 5 => .int
  | 6 => .array .int
  | 7 => .array .int
  | 8 => .array .int
  | 9 => .array .int
  | 10 => .array .int
  | _ => .array .boolean
abbrev wsX00 : List Cond := u_ws RX0 TX0 12
theorem nmX0 : ∀ a, a < 12 → ∀ b, b < 12 → a ≠ b → (TX0 a).2.1 ≠ (TX0 b).2.1 := by decide +kernel
theorem tyX0_ok : ∀ k, k < 12 → parseFieldDescriptor (TX0 k).2.2.1 = some (tyX0 k) := by decide +kernel
abbrev cX0_init : ByteArray := prog_2_method_1_code
def yX0_init : MethodName := ⟨RX0, "<init>", "()V"⟩
abbrev cX0_isFullOfBytes : ByteArray := prog_2_method_2_code
def yX0_isFullOfBytes : MethodName := ⟨RX0, "isFullOfBytes", "()Z"⟩
abbrev cX0_addByte : ByteArray := prog_2_method_3_code
def yX0_addByte : MethodName := ⟨RX0, "addByte", "(I)I"⟩
abbrev cX0_clearBytes : ByteArray := prog_2_method_4_code
def yX0_clearBytes : MethodName := ⟨RX0, "clearBytes", "()I"⟩
abbrev cX0_isText : ByteArray := prog_2_method_5_code
def yX0_isText : MethodName := ⟨RX0, "isText", "()Z"⟩
abbrev cX0_isTextByte : ByteArray := prog_2_method_6_code
def yX0_isTextByte : MethodName := ⟨RX0, "isTextByte", "(I)Z"⟩
abbrev cX0_hasRule : ByteArray := prog_2_method_7_code
def yX0_hasRule : MethodName := ⟨RX0, "hasRule", "(I)Z"⟩
abbrev cX0_isFullOfRules : ByteArray := prog_2_method_8_code
def yX0_isFullOfRules : MethodName := ⟨RX0, "isFullOfRules", "()Z"⟩
abbrev cX0_addRule : ByteArray := prog_2_method_9_code
def yX0_addRule : MethodName := ⟨RX0, "addRule", "(II)I"⟩
abbrev cX0_greatestNextLevel : ByteArray := prog_2_method_10_code
def yX0_greatestNextLevel : MethodName := ⟨RX0, "greatestNextLevel", "(I)I"⟩
abbrev cX0_isFullOfTests : ByteArray := prog_2_method_11_code
def yX0_isFullOfTests : MethodName := ⟨RX0, "isFullOfTests", "(I)Z"⟩
abbrev cX0_addTest : ByteArray := prog_2_method_12_code
def yX0_addTest : MethodName := ⟨RX0, "addTest", "(IIIIII)I"⟩
abbrev cX0_kindOf : ByteArray := prog_2_method_13_code
def yX0_kindOf : MethodName := ⟨RX0, "kindOf", "(I)I"⟩
abbrev cX0_isStrong : ByteArray := prog_2_method_14_code
def yX0_isStrong : MethodName := ⟨RX0, "isStrong", "(I)Z"⟩
abbrev cX0_provingRule : ByteArray := prog_2_method_15_code
def yX0_provingRule : MethodName := ⟨RX0, "provingRule", "()I"⟩
abbrev cX0_provesKind : ByteArray := prog_2_method_16_code
def yX0_provesKind : MethodName := ⟨RX0, "provesKind", "(I)Z"⟩
abbrev cX0_holds : ByteArray := prog_2_method_17_code
def yX0_holds : MethodName := ⟨RX0, "holds", "(I)Z"⟩
abbrev cX0_leadsBelow : ByteArray := prog_2_method_18_code
def yX0_leadsBelow : MethodName := ⟨RX0, "leadsBelow", "(II)Z"⟩
def RX1 : String := "KindGuesser$KindTree"
def TX1 : u_T := fun k => match k with
  | 0 => ("KindGuesser$KindTree", "parents", "[I", true)
  | _ => ("KindGuesser$KindTree", "count", "I", false)
def tyX1 : Nat → FieldType := fun k => match k with
  | 0 => .array .int
  | _ => .int
abbrev wsX10 : List Cond := u_ws RX1 TX1 2
theorem nmX1 : ∀ a, a < 2 → ∀ b, b < 2 → a ≠ b → (TX1 a).2.1 ≠ (TX1 b).2.1 := by decide +kernel
theorem tyX1_ok : ∀ k, k < 2 → parseFieldDescriptor (TX1 k).2.2.1 = some (tyX1 k) := by decide +kernel
abbrev cX1_init : ByteArray := prog_3_method_1_code
def yX1_init : MethodName := ⟨RX1, "<init>", "()V"⟩
abbrev cX1_size : ByteArray := prog_3_method_2_code
def yX1_size : MethodName := ⟨RX1, "size", "()I"⟩
abbrev cX1_has : ByteArray := prog_3_method_3_code
def yX1_has : MethodName := ⟨RX1, "has", "(I)Z"⟩
abbrev cX1_isFull : ByteArray := prog_3_method_4_code
def yX1_isFull : MethodName := ⟨RX1, "isFull", "()Z"⟩
abbrev cX1_add : ByteArray := prog_3_method_5_code
def yX1_add : MethodName := ⟨RX1, "add", "(I)I"⟩
abbrev cX1_parentOf : ByteArray := prog_3_method_6_code
def yX1_parentOf : MethodName := ⟨RX1, "parentOf", "(I)I"⟩
abbrev cX1_leadsUp : ByteArray := prog_3_method_7_code
def yX1_leadsUp : MethodName := ⟨RX1, "leadsUp", "(II)Z"⟩
def RX2 : String := "KindGuesser$NameSide"
def TX2 : u_T := fun k => match k with
  | 0 => ("KindGuesser$NameSide", "letters", "[I", true)
  | 1 => ("KindGuesser$NameSide", "letterCount", "I", false)
  | 2 => ("KindGuesser$NameSide", "kindsOfPatterns", "[I", true)
  | 3 => ("KindGuesser$NameSide", "weights", "[I", true)
  | 4 => ("KindGuesser$NameSide", "lengths", "[I", true)
  | 5 => ("KindGuesser$NameSide", "there", "[Z", true)
  | 6 => ("KindGuesser$NameSide", "tokenRows", "[I", true)
  | 7 => ("KindGuesser$NameSide", "patternCount", "I", false)
  | 8 => ("KindGuesser$NameSide", "thereCount", "I", false)
  | _ => ("KindGuesser$NameSide", "table", "[Z", true)
def tyX2 : Nat → FieldType := fun k => match k with
  | 0 => .array .int
  | 1 => .int
  | 2 => .array .int
  | 3 => .array .int
  | 4 => .array .int
  | 5 => .array .boolean
  | 6 => .array .int
  | 7 => .int
  | 8 => .int
  | _ => .array .boolean
abbrev wsX20 : List Cond := u_ws RX2 TX2 10
theorem nmX2 : ∀ a, a < 10 → ∀ b, b < 10 → a ≠ b → (TX2 a).2.1 ≠ (TX2 b).2.1 := by decide +kernel
theorem tyX2_ok : ∀ k, k < 10 → parseFieldDescriptor (TX2 k).2.2.1 = some (tyX2 k) := by decide +kernel
abbrev cX2_init : ByteArray := prog_4_method_1_code
def yX2_init : MethodName := ⟨RX2, "<init>", "()V"⟩
abbrev cX2_isFullOfLetters : ByteArray := prog_4_method_2_code
def yX2_isFullOfLetters : MethodName := ⟨RX2, "isFullOfLetters", "()Z"⟩
abbrev cX2_addLetter : ByteArray := prog_4_method_3_code
def yX2_addLetter : MethodName := ⟨RX2, "addLetter", "(I)I"⟩
abbrev cX2_clearName : ByteArray := prog_4_method_4_code
def yX2_clearName : MethodName := ⟨RX2, "clearName", "()I"⟩
abbrev cX2_hasPattern : ByteArray := prog_4_method_5_code
def yX2_hasPattern : MethodName := ⟨RX2, "hasPattern", "(I)Z"⟩
abbrev cX2_isFullOfPatterns : ByteArray := prog_4_method_6_code
def yX2_isFullOfPatterns : MethodName := ⟨RX2, "isFullOfPatterns", "()Z"⟩
abbrev cX2_writeToken : ByteArray := prog_4_method_7_code
def yX2_writeToken : MethodName := ⟨RX2, "writeToken", "(II)V"⟩
abbrev cX2_addPattern : ByteArray := prog_4_method_8_code
def yX2_addPattern : MethodName := ⟨RX2, "addPattern", "(III)I"⟩
abbrev cX2_dropPattern : ByteArray := prog_4_method_9_code
def yX2_dropPattern : MethodName := ⟨RX2, "dropPattern", "(I)I"⟩
abbrev cX2_kindOf : ByteArray := prog_4_method_10_code
def yX2_kindOf : MethodName := ⟨RX2, "kindOf", "(I)I"⟩
abbrev cX2_firstFitting : ByteArray := prog_4_method_11_code
def yX2_firstFitting : MethodName := ⟨RX2, "firstFitting", "(LKindGuesser$KindTree;I)I"⟩
abbrev cX2_isOf : ByteArray := prog_4_method_12_code
def yX2_isOf : MethodName := ⟨RX2, "isOf", "(LKindGuesser$KindTree;II)Z"⟩
abbrev cX2_isAhead : ByteArray := prog_4_method_13_code
def yX2_isAhead : MethodName := ⟨RX2, "isAhead", "(II)Z"⟩
abbrev cX2_fitsName : ByteArray := prog_4_method_14_code
def yX2_fitsName : MethodName := ⟨RX2, "fitsName", "(I)Z"⟩
abbrev cX2_reachedAfter : ByteArray := prog_4_method_15_code
def yX2_reachedAfter : MethodName := ⟨RX2, "reachedAfter", "(II)I"⟩
abbrev cX2_isReached : ByteArray := prog_4_method_16_code
def yX2_isReached : MethodName := ⟨RX2, "isReached", "(II)Z"⟩
abbrev cX2_standsFor : ByteArray := prog_4_method_17_code
def yX2_standsFor : MethodName := ⟨RX2, "standsFor", "(II)Z"⟩
abbrev cX2_fitsNameByTable : ByteArray := prog_4_method_18_code
def yX2_fitsNameByTable : MethodName := ⟨RX2, "fitsNameByTable", "(I)Z"⟩
abbrev cX2_fillLine : ByteArray := prog_4_method_19_code
def yX2_fillLine : MethodName := ⟨RX2, "fillLine", "(II)V"⟩
def RX3 : String := "KindGuesser$ProgramLists"
def TX3 : u_T := fun k => match k with
  | 0 => ("KindGuesser$ProgramLists", "standings", "[I", true)
  | _ => ("KindGuesser$ProgramLists", "defaults", "[I", true)
def tyX3 : Nat → FieldType := fun k => match k with
  | 0 => .array .int
  | _ => .array .int
abbrev wsX30 : List Cond := u_ws RX3 TX3 2
theorem nmX3 : ∀ a, a < 2 → ∀ b, b < 2 → a ≠ b → (TX3 a).2.1 ≠ (TX3 b).2.1 := by decide +kernel
theorem tyX3_ok : ∀ k, k < 2 → parseFieldDescriptor (TX3 k).2.2.1 = some (tyX3 k) := by decide +kernel
abbrev cX3_init : ByteArray := prog_5_method_1_code
def yX3_init : MethodName := ⟨RX3, "<init>", "()V"⟩
abbrev cX3_setStanding : ByteArray := prog_5_method_2_code
def yX3_setStanding : MethodName := ⟨RX3, "setStanding", "(IIII)I"⟩
abbrev cX3_setDefaultOf : ByteArray := prog_5_method_3_code
def yX3_setDefaultOf : MethodName := ⟨RX3, "setDefaultOf", "(III)I"⟩
abbrev cX3_placeOf : ByteArray := prog_5_method_4_code
def yX3_placeOf : MethodName := ⟨RX3, "placeOf", "(II)I"⟩
abbrev cX3_opens : ByteArray := prog_5_method_5_code
def yX3_opens : MethodName := ⟨RX3, "opens", "(II)Z"⟩
abbrev cX3_openersOf : ByteArray := prog_5_method_6_code
def yX3_openersOf : MethodName := ⟨RX3, "openersOf", "(I)I"⟩
abbrev cX3_countPrograms : ByteArray := prog_5_method_7_code
def yX3_countPrograms : MethodName := ⟨RX3, "countPrograms", "(LKindGuesser$KindTree;I)I"⟩
abbrev cX3_programInOrder : ByteArray := prog_5_method_8_code
def yX3_programInOrder : MethodName := ⟨RX3, "programInOrder", "(LKindGuesser$KindTree;II)I"⟩
abbrev cX3_programOf : ByteArray := prog_5_method_9_code
def yX3_programOf : MethodName := ⟨RX3, "programOf", "(II)I"⟩
abbrev cX3_defaultUpward : ByteArray := prog_5_method_10_code
def yX3_defaultUpward : MethodName := ⟨RX3, "defaultUpward", "(LKindGuesser$KindTree;I)I"⟩
abbrev cX3_defaultOf : ByteArray := prog_5_method_11_code
def yX3_defaultOf : MethodName := ⟨RX3, "defaultOf", "(I)I"⟩
def RX4 : String := "KindGuesser"
def TX4 : u_T := fun k => match k with
  | 0 => ("KindGuesser", "tree", "LKindGuesser$KindTree;", true)
  | 1 => ("KindGuesser", "nameSide", "LKindGuesser$NameSide;", true)
  | 2 => ("KindGuesser", "byteSide", "LKindGuesser$ByteSide;", true)
  | _ => ("KindGuesser", "programLists", "LKindGuesser$ProgramLists;", true)
def tyX4 : Nat → FieldType := fun k => match k with
  | 0 => .object "KindGuesser$KindTree"
  | 1 => .object "KindGuesser$NameSide"
  | 2 => .object "KindGuesser$ByteSide"
  | _ => .object "KindGuesser$ProgramLists"
abbrev wsX40 : List Cond := u_ws RX4 TX4 4
theorem nmX4 : ∀ a, a < 4 → ∀ b, b < 4 → a ≠ b → (TX4 a).2.1 ≠ (TX4 b).2.1 := by decide +kernel
theorem tyX4_ok : ∀ k, k < 4 → parseFieldDescriptor (TX4 k).2.2.1 = some (tyX4 k) := by decide +kernel
abbrev cX4_init : ByteArray := prog_1_method_1_code
def yX4_init : MethodName := ⟨RX4, "<init>", "()V"⟩
abbrev cX4_kind : ByteArray := prog_1_method_2_code
def yX4_kind : MethodName := ⟨RX4, "kind", "(I)I"⟩
abbrev cX4_pattern : ByteArray := prog_1_method_3_code
def yX4_pattern : MethodName := ⟨RX4, "pattern", "(IIIII)I"⟩
abbrev cX4_drop : ByteArray := prog_1_method_4_code
def yX4_drop : MethodName := ⟨RX4, "drop", "(I)I"⟩
abbrev cX4_rule : ByteArray := prog_1_method_5_code
def yX4_rule : MethodName := ⟨RX4, "rule", "(II)I"⟩
abbrev cX4_test : ByteArray := prog_1_method_6_code
def yX4_test : MethodName := ⟨RX4, "test", "(IIIIII)I"⟩
abbrev cX4_kinds : ByteArray := prog_1_method_7_code
def yX4_kinds : MethodName := ⟨RX4, "kinds", "()I"⟩
abbrev cX4_isSpecial : ByteArray := prog_1_method_8_code
def yX4_isSpecial : MethodName := ⟨RX4, "isSpecial", "(II)Z"⟩
abbrev cX4_letter : ByteArray := prog_1_method_9_code
def yX4_letter : MethodName := ⟨RX4, "letter", "(I)I"⟩
abbrev cX4_put : ByteArray := prog_1_method_10_code
def yX4_put : MethodName := ⟨RX4, "put", "(I)I"⟩
abbrev cX4_empty : ByteArray := prog_1_method_11_code
def yX4_empty : MethodName := ⟨RX4, "empty", "()I"⟩
abbrev cX4_fits : ByteArray := prog_1_method_12_code
def yX4_fits : MethodName := ⟨RX4, "fits", "(I)Z"⟩
abbrev cX4_fitsByTable : ByteArray := prog_1_method_13_code
def yX4_fitsByTable : MethodName := ⟨RX4, "fitsByTable", "(I)Z"⟩
abbrev cX4_proves : ByteArray := prog_1_method_14_code
def yX4_proves : MethodName := ⟨RX4, "proves", "(I)Z"⟩
abbrev cX4_byName : ByteArray := prog_1_method_15_code
def yX4_byName : MethodName := ⟨RX4, "byName", "()I"⟩
abbrev cX4_byBytes : ByteArray := prog_1_method_16_code
def yX4_byBytes : MethodName := ⟨RX4, "byBytes", "()I"⟩
abbrev cX4_guess : ByteArray := prog_1_method_17_code
def yX4_guess : MethodName := ⟨RX4, "guess", "()I"⟩
abbrev cX4_guessWithBytes : ByteArray := prog_1_method_18_code
def yX4_guessWithBytes : MethodName := ⟨RX4, "guessWithBytes", "(II)I"⟩
abbrev cX4_program : ByteArray := prog_1_method_19_code
def yX4_program : MethodName := ⟨RX4, "program", "(IIII)I"⟩
abbrev cX4_setDefault : ByteArray := prog_1_method_20_code
def yX4_setDefault : MethodName := ⟨RX4, "setDefault", "(III)I"⟩
abbrev cX4_programs : ByteArray := prog_1_method_21_code
def yX4_programs : MethodName := ⟨RX4, "programs", "(I)I"⟩
abbrev cX4_programAt : ByteArray := prog_1_method_22_code
def yX4_programAt : MethodName := ⟨RX4, "programAt", "(II)I"⟩
abbrev cX4_opener : ByteArray := prog_1_method_23_code
def yX4_opener : MethodName := ⟨RX4, "opener", "(I)I"⟩
abbrev cX4_requireKind : ByteArray := prog_1_method_24_code
def yX4_requireKind : MethodName := ⟨RX4, "requireKind", "(I)V"⟩
abbrev cX4_requirePattern : ByteArray := prog_1_method_25_code
def yX4_requirePattern : MethodName := ⟨RX4, "requirePattern", "(I)V"⟩
abbrev cX4_requireRule : ByteArray := prog_1_method_26_code
def yX4_requireRule : MethodName := ⟨RX4, "requireRule", "(I)V"⟩
abbrev cX4_requireRange : ByteArray := prog_1_method_27_code
def yX4_requireRange : MethodName := ⟨RX4, "requireRange", "(III)V"⟩
abbrev cX4_requireArgument : ByteArray := prog_1_method_28_code
def yX4_requireArgument : MethodName := ⟨RX4, "requireArgument", "(Z)V"⟩
abbrev cX4_tokenAt : ByteArray := prog_1_method_29_code
def yX4_tokenAt : MethodName := ⟨RX4, "tokenAt", "(III)I"⟩
def RX5 : String := "KindGuesserModel"
def TX5 : u_T := fun k => match k with
  | 0 => ("KindGuesserModel", "parent", "[I", true)
  | 1 => ("KindGuesserModel", "kinds", "I", false)
  | 2 => ("KindGuesserModel", "patternOf", "[I", true)
  | 3 => ("KindGuesserModel", "weight", "[I", true)
  | 4 => ("KindGuesserModel", "tokens", "[I", true)
  | 5 => ("KindGuesserModel", "token", "[I", true)
  | 6 => ("KindGuesserModel", "dropped", "[Z", true)
  | 7 => ("KindGuesserModel", "patterns", "I", false)
  | 8 => ("KindGuesserModel", "ruleOf", "[I", true)
  | 9 => ("KindGuesserModel", "priority", "[I", true)
  | 10 => ("KindGuesserModel", "tests", "[I", true)
  | 11 => ("KindGuesserModel", "level", "[I", true)
  | 12 => ("KindGuesserModel", "from", "[I", true)
  | 13 => ("KindGuesserModel", "to", "[I", true)
  | 14 => ("KindGuesserModel", "value", "[I", true)
  | 15 => ("KindGuesserModel", "mask", "[I", true)
  | 16 => ("KindGuesserModel", "rules", "I", false)
  | 17 => ("KindGuesserModel", "name", "[I", true)
  | 18 => ("KindGuesserModel", "letters", "I", false)
  | 19 => ("KindGuesserModel", "data", "[I", true)
  | 20 => ("KindGuesserModel", "bytes", "I", false)
  | 21 => ("KindGuesserModel", "stand", "[I", true)
  | 22 => ("KindGuesserModel", "usual", "[I", true)
  | _ => ("KindGuesserModel", "thrown", "I", false)
def tyX5 : Nat → FieldType := fun k => match k with
  | 0 => .array .int
  | 1 => .int
  | 2 => .array .int
  | 3 => .array .int
  | 4 => .array .int
  | 5 => .array .int
  | 6 => .array .boolean
  | 7 => .int
  | 8 => .array .int
  | 9 => .array .int
  | 10 => .array .int
  | 11 => .array .int
  | 12 => .array .int
  | 13 => .array .int
  | 14 => .array .int
  | 15 => .array .int
  | 16 => .int
  | 17 => .array .int
  | 18 => .int
  | 19 => .array .int
  | 20 => .int
  | 21 => .array .int
  | 22 => .array .int
  | _ => .int
abbrev wsX50 : List Cond := u_ws RX5 TX5 24
theorem nmX5 : ∀ a, a < 24 → ∀ b, b < 24 → a ≠ b → (TX5 a).2.1 ≠ (TX5 b).2.1 := by decide +kernel
theorem tyX5_ok : ∀ k, k < 24 → parseFieldDescriptor (TX5 k).2.2.1 = some (tyX5 k) := by decide +kernel
abbrev cX5_init : ByteArray := prog_7_method_1_code
def yX5_init : MethodName := ⟨RX5, "<init>", "()V"⟩
abbrev cX5_thrown : ByteArray := prog_7_method_2_code
def yX5_thrown : MethodName := ⟨RX5, "thrown", "()I"⟩
abbrev cX5_in : ByteArray := prog_7_method_3_code
def yX5_in : MethodName := ⟨RX5, "in", "(III)Z"⟩
abbrev cX5_asked : ByteArray := prog_7_method_4_code
def yX5_asked : MethodName := ⟨RX5, "asked", "(Z)Z"⟩
abbrev cX5_asked_ : ByteArray := prog_7_method_5_code
def yX5_asked_ : MethodName := ⟨RX5, "asked", "(ZZ)Z"⟩
abbrev cX5_asked__ : ByteArray := prog_7_method_6_code
def yX5_asked__ : MethodName := ⟨RX5, "asked", "(ZZZ)Z"⟩
abbrev cX5_told : ByteArray := prog_7_method_7_code
def yX5_told : MethodName := ⟨RX5, "told", "(I)I"⟩
abbrev cX5_isKind : ByteArray := prog_7_method_8_code
def yX5_isKind : MethodName := ⟨RX5, "isKind", "(I)Z"⟩
abbrev cX5_kind : ByteArray := prog_7_method_9_code
def yX5_kind : MethodName := ⟨RX5, "kind", "(I)I"⟩
abbrev cX5_digits : ByteArray := prog_7_method_10_code
def yX5_digits : MethodName := ⟨RX5, "digits", "(III)I"⟩
abbrev cX5_pattern : ByteArray := prog_7_method_11_code
def yX5_pattern : MethodName := ⟨RX5, "pattern", "(IIIII)I"⟩
abbrev cX5_isThere : ByteArray := prog_7_method_12_code
def yX5_isThere : MethodName := ⟨RX5, "isThere", "(I)Z"⟩
abbrev cX5_drop : ByteArray := prog_7_method_13_code
def yX5_drop : MethodName := ⟨RX5, "drop", "(I)I"⟩
abbrev cX5_rule : ByteArray := prog_7_method_14_code
def yX5_rule : MethodName := ⟨RX5, "rule", "(II)I"⟩
abbrev cX5_isRule : ByteArray := prog_7_method_15_code
def yX5_isRule : MethodName := ⟨RX5, "isRule", "(I)Z"⟩
abbrev cX5_test : ByteArray := prog_7_method_16_code
def yX5_test : MethodName := ⟨RX5, "test", "(IIIIII)I"⟩
abbrev cX5_kinds : ByteArray := prog_7_method_17_code
def yX5_kinds : MethodName := ⟨RX5, "kinds", "()I"⟩
abbrev cX5_special : ByteArray := prog_7_method_18_code
def yX5_special : MethodName := ⟨RX5, "special", "(II)Z"⟩
abbrev cX5_isSpecial : ByteArray := prog_7_method_19_code
def yX5_isSpecial : MethodName := ⟨RX5, "isSpecial", "(II)Z"⟩
abbrev cX5_letter : ByteArray := prog_7_method_20_code
def yX5_letter : MethodName := ⟨RX5, "letter", "(I)I"⟩
abbrev cX5_put : ByteArray := prog_7_method_21_code
def yX5_put : MethodName := ⟨RX5, "put", "(I)I"⟩
abbrev cX5_empty : ByteArray := prog_7_method_22_code
def yX5_empty : MethodName := ⟨RX5, "empty", "()I"⟩
abbrev cX5_fit : ByteArray := prog_7_method_23_code
def yX5_fit : MethodName := ⟨RX5, "fit", "(I)Z"⟩
abbrev cX5_fits : ByteArray := prog_7_method_24_code
def yX5_fits : MethodName := ⟨RX5, "fits", "(I)Z"⟩
abbrev cX5_fitsByTable : ByteArray := prog_7_method_25_code
def yX5_fitsByTable : MethodName := ⟨RX5, "fitsByTable", "(I)Z"⟩
abbrev cX5_holds : ByteArray := prog_7_method_26_code
def yX5_holds : MethodName := ⟨RX5, "holds", "(I)Z"⟩
abbrev cX5_proof : ByteArray := prog_7_method_27_code
def yX5_proof : MethodName := ⟨RX5, "proof", "(I)Z"⟩
abbrev cX5_proves : ByteArray := prog_7_method_28_code
def yX5_proves : MethodName := ⟨RX5, "proves", "(I)Z"⟩
abbrev cX5_first : ByteArray := prog_7_method_29_code
def yX5_first : MethodName := ⟨RX5, "first", "(I)I"⟩
abbrev cX5_named : ByteArray := prog_7_method_30_code
def yX5_named : MethodName := ⟨RX5, "named", "()I"⟩
abbrev cX5_proven : ByteArray := prog_7_method_31_code
def yX5_proven : MethodName := ⟨RX5, "proven", "()I"⟩
abbrev cX5_byName : ByteArray := prog_7_method_32_code
def yX5_byName : MethodName := ⟨RX5, "byName", "()I"⟩
abbrev cX5_byBytes : ByteArray := prog_7_method_33_code
def yX5_byBytes : MethodName := ⟨RX5, "byBytes", "()I"⟩
abbrev cX5_guess : ByteArray := prog_7_method_34_code
def yX5_guess : MethodName := ⟨RX5, "guess", "()I"⟩
abbrev cX5_isList : ByteArray := prog_7_method_35_code
def yX5_isList : MethodName := ⟨RX5, "isList", "(I)Z"⟩
abbrev cX5_program : ByteArray := prog_7_method_36_code
def yX5_program : MethodName := ⟨RX5, "program", "(IIII)I"⟩
abbrev cX5_setDefault : ByteArray := prog_7_method_37_code
def yX5_setDefault : MethodName := ⟨RX5, "setDefault", "(III)I"⟩
abbrev cX5_opens : ByteArray := prog_7_method_38_code
def yX5_opens : MethodName := ⟨RX5, "opens", "(II)Z"⟩
abbrev cX5_listed : ByteArray := prog_7_method_39_code
def yX5_listed : MethodName := ⟨RX5, "listed", "(II)I"⟩
abbrev cX5_programs : ByteArray := prog_7_method_40_code
def yX5_programs : MethodName := ⟨RX5, "programs", "(I)I"⟩
abbrev cX5_programAt : ByteArray := prog_7_method_41_code
def yX5_programAt : MethodName := ⟨RX5, "programAt", "(II)I"⟩
abbrev cX5_opener : ByteArray := prog_7_method_42_code
def yX5_opener : MethodName := ⟨RX5, "opener", "(I)I"⟩
def RJx145de : String := "java/io/Serializable"
def TJx145de : u_T := fun k => match k with
  | _ => ("", "", "", false)
def tyJx145de : Nat → FieldType := fun k => match k with
  | _ => .int
abbrev wsJx145de0 : List Cond := u_ws RJx145de TJx145de 0
theorem nmJx145de : ∀ a, a < 0 → ∀ b, b < 0 → a ≠ b → (TJx145de a).2.1 ≠ (TJx145de b).2.1 := by decide +kernel
theorem tyJx145de_ok : ∀ k, k < 0 → parseFieldDescriptor (TJx145de k).2.2.1 = some (tyJx145de k) := by decide +kernel
def RJ6 : String := "java/lang/Integer"
def TJ6 : u_T := fun k => match k with
  | _ => ("", "", "", false)
def tyJ6 : Nat → FieldType := fun k => match k with
  | _ => .int
abbrev wsJ60 : List Cond := u_ws RJ6 TJ6 0
theorem nmJ6 : ∀ a, a < 0 → ∀ b, b < 0 → a ≠ b → (TJ6 a).2.1 ≠ (TJ6 b).2.1 := by decide +kernel
theorem tyJ6_ok : ∀ k, k < 0 → parseFieldDescriptor (TJ6 k).2.2.1 = some (tyJ6 k) := by decide +kernel
abbrev cJ6_bitCount_0f7a4 : ByteArray := prog_12_method_49_code
def yJ6_bitCount_0f7a4 : MethodName := ⟨RJ6, "bitCount", "(I)I"⟩
def RJ0 : String := "java/lang/String"
def TJ0 : u_T := fun k => match k with
  | _ => ("", "", "", false)
def tyJ0 : Nat → FieldType := fun k => match k with
  | _ => .int
abbrev wsJ00 : List Cond := u_ws RJ0 TJ0 0
theorem nmJ0 : ∀ a, a < 0 → ∀ b, b < 0 → a ≠ b → (TJ0 a).2.1 ≠ (TJ0 b).2.1 := by decide +kernel
theorem tyJ0_ok : ∀ k, k < 0 → parseFieldDescriptor (TJ0 k).2.2.1 = some (tyJ0 k) := by decide +kernel
def RJ7 : String := "java/util/Arrays"
def TJ7 : u_T := fun k => match k with
  | _ => ("", "", "", false)
def tyJ7 : Nat → FieldType := fun k => match k with
  | _ => .int
abbrev wsJ70 : List Cond := u_ws RJ7 TJ7 0
theorem nmJ7 : ∀ a, a < 0 → ∀ b, b < 0 → a ≠ b → (TJ7 a).2.1 ≠ (TJ7 b).2.1 := by decide +kernel
theorem tyJ7_ok : ∀ k, k < 0 → parseFieldDescriptor (TJ7 k).2.2.1 = some (tyJ7 k) := by decide +kernel
abbrev cJ7_fill_53178 : ByteArray := prog_16_method_103_code
def yJ7_fill_53178 : MethodName := ⟨RJ7, "fill", "([II)V"⟩
def RL : String := "KindGuesserLaw"
abbrev cL_kind : ByteArray := method_3_code
def yL_kind : MethodName := ⟨RL, "kind", "(LKindGuesser;I[J)I"⟩
abbrev cL_pattern : ByteArray := method_4_code
def yL_pattern : MethodName := ⟨RL, "pattern", "(LKindGuesser;IIIII[J)I"⟩
abbrev cL_drop : ByteArray := method_5_code
def yL_drop : MethodName := ⟨RL, "drop", "(LKindGuesser;I[J)I"⟩
abbrev cL_rule : ByteArray := method_6_code
def yL_rule : MethodName := ⟨RL, "rule", "(LKindGuesser;II[J)I"⟩
abbrev cL_test : ByteArray := method_7_code
def yL_test : MethodName := ⟨RL, "test", "(LKindGuesser;IIIIII[J)I"⟩
abbrev cL_isSpecial : ByteArray := method_8_code
def yL_isSpecial : MethodName := ⟨RL, "isSpecial", "(LKindGuesser;II[J)I"⟩
abbrev cL_letter : ByteArray := method_9_code
def yL_letter : MethodName := ⟨RL, "letter", "(LKindGuesser;I[J)I"⟩
abbrev cL_put : ByteArray := method_10_code
def yL_put : MethodName := ⟨RL, "put", "(LKindGuesser;I[J)I"⟩
abbrev cL_fits : ByteArray := method_11_code
def yL_fits : MethodName := ⟨RL, "fits", "(LKindGuesser;I[J)I"⟩
abbrev cL_fitsByTable : ByteArray := method_12_code
def yL_fitsByTable : MethodName := ⟨RL, "fitsByTable", "(LKindGuesser;I[J)I"⟩
abbrev cL_proves : ByteArray := method_13_code
def yL_proves : MethodName := ⟨RL, "proves", "(LKindGuesser;I[J)I"⟩
abbrev cL_program : ByteArray := method_14_code
def yL_program : MethodName := ⟨RL, "program", "(LKindGuesser;IIII[J)I"⟩
abbrev cL_setDefault : ByteArray := method_15_code
def yL_setDefault : MethodName := ⟨RL, "setDefault", "(LKindGuesser;III[J)I"⟩
abbrev cL_programs : ByteArray := method_16_code
def yL_programs : MethodName := ⟨RL, "programs", "(LKindGuesser;I[J)I"⟩
abbrev cL_programAt : ByteArray := method_17_code
def yL_programAt : MethodName := ⟨RL, "programAt", "(LKindGuesser;II[J)I"⟩
abbrev cL_opener : ByteArray := method_18_code
def yL_opener : MethodName := ⟨RL, "opener", "(LKindGuesser;I[J)I"⟩
abbrev cL_law : ByteArray := code
def yL_law : MethodName := ⟨RL, "law", "([I)Z"⟩
def wsX0_init : List Cond := .code yX0_init cX0_init 1 none :: ([.methodLink RX0 3 objectInit, .instanceMethod objectInit, .code objectInit ⟨#[0xb1]⟩ 1 none, .arrayClass .int, .fieldLink RX0 9 "KindGuesser$ByteSide" "values" "[I", .fieldLink RX0 15 "KindGuesser$ByteSide" "byteCount" "I", .fieldLink RX0 19 "KindGuesser$ByteSide" "kindsOfRules" "[I", .fieldLink RX0 22 "KindGuesser$ByteSide" "priorities" "[I", .fieldLink RX0 25 "KindGuesser$ByteSide" "testCounts" "[I", .fieldLink RX0 28 "KindGuesser$ByteSide" "ruleCount" "I", .fieldLink RX0 31 "KindGuesser$ByteSide" "levels" "[I", .fieldLink RX0 34 "KindGuesser$ByteSide" "froms" "[I", .fieldLink RX0 37 "KindGuesser$ByteSide" "tos" "[I", .fieldLink RX0 40 "KindGuesser$ByteSide" "wanted" "[I", .fieldLink RX0 43 "KindGuesser$ByteSide" "masks" "[I", .arrayClass .boolean, .fieldLink RX0 46 "KindGuesser$ByteSide" "leads" "[Z"] ++ wsX00)
def wsX0_isFullOfBytes : List Cond := .code yX0_isFullOfBytes cX0_isFullOfBytes 1 (some .boolean) :: ([.fieldLink RX0 15 "KindGuesser$ByteSide" "byteCount" "I"] ++ wsX00)
def wsX0_addByte : List Cond := .code yX0_addByte cX0_addByte 2 (some .int) :: ([.fieldLink RX0 9 "KindGuesser$ByteSide" "values" "[I", .fieldLink RX0 15 "KindGuesser$ByteSide" "byteCount" "I"] ++ wsX00)
def wsX0_clearBytes : List Cond := .code yX0_clearBytes cX0_clearBytes 2 (some .int) :: ([.fieldLink RX0 15 "KindGuesser$ByteSide" "byteCount" "I"] ++ wsX00)
def wsX0_isTextByte : List Cond := .code yX0_isTextByte cX0_isTextByte 1 (some .boolean) :: ([])
def wsX0_isText : List Cond := .code yX0_isText cX0_isText 2 (some .boolean) :: ([.fieldLink RX0 15 "KindGuesser$ByteSide" "byteCount" "I", .fieldLink RX0 9 "KindGuesser$ByteSide" "values" "[I", .methodLink RX0 50 yX0_isTextByte, .static yX0_isTextByte, .initialized RX0, .code yX0_isTextByte cX0_isTextByte 1 (some .boolean)] ++ wsX00)
def wsX0_hasRule : List Cond := .code yX0_hasRule cX0_hasRule 2 (some .boolean) :: ([.fieldLink RX0 28 "KindGuesser$ByteSide" "ruleCount" "I"] ++ wsX00)
def wsX0_isFullOfRules : List Cond := .code yX0_isFullOfRules cX0_isFullOfRules 1 (some .boolean) :: ([.fieldLink RX0 28 "KindGuesser$ByteSide" "ruleCount" "I"] ++ wsX00)
def wsX0_addRule : List Cond := .code yX0_addRule cX0_addRule 3 (some .int) :: ([.fieldLink RX0 19 "KindGuesser$ByteSide" "kindsOfRules" "[I", .fieldLink RX0 28 "KindGuesser$ByteSide" "ruleCount" "I", .fieldLink RX0 22 "KindGuesser$ByteSide" "priorities" "[I"] ++ wsX00)
def wsX0_greatestNextLevel : List Cond := .code yX0_greatestNextLevel cX0_greatestNextLevel 3 (some .int) :: ([.fieldLink RX0 25 "KindGuesser$ByteSide" "testCounts" "[I", .fieldLink RX0 31 "KindGuesser$ByteSide" "levels" "[I"] ++ wsX00)
def wsX0_isFullOfTests : List Cond := .code yX0_isFullOfTests cX0_isFullOfTests 2 (some .boolean) :: ([.fieldLink RX0 25 "KindGuesser$ByteSide" "testCounts" "[I"] ++ wsX00)
def wsX0_addTest : List Cond := .code yX0_addTest cX0_addTest 8 (some .int) :: ([.fieldLink RX0 25 "KindGuesser$ByteSide" "testCounts" "[I", .fieldLink RX0 31 "KindGuesser$ByteSide" "levels" "[I", .fieldLink RX0 34 "KindGuesser$ByteSide" "froms" "[I", .fieldLink RX0 37 "KindGuesser$ByteSide" "tos" "[I", .fieldLink RX0 40 "KindGuesser$ByteSide" "wanted" "[I", .fieldLink RX0 43 "KindGuesser$ByteSide" "masks" "[I"] ++ wsX00)
def wsX0_kindOf : List Cond := .code yX0_kindOf cX0_kindOf 2 (some .int) :: ([.fieldLink RX0 19 "KindGuesser$ByteSide" "kindsOfRules" "[I", .methodLink RX0 54 yX0_hasRule, .instanceMethod yX0_hasRule, .selects RX0 yX0_hasRule yX0_hasRule, .initialized RX0, .code yX0_hasRule cX0_hasRule 2 (some .boolean), .fieldLink RX0 28 "KindGuesser$ByteSide" "ruleCount" "I"] ++ wsX00)
def wsX0_isStrong : List Cond := .code yX0_isStrong cX0_isStrong 2 (some .boolean) :: ([.fieldLink RX0 22 "KindGuesser$ByteSide" "priorities" "[I", .methodLink RX0 54 yX0_hasRule, .instanceMethod yX0_hasRule, .selects RX0 yX0_hasRule yX0_hasRule, .initialized RX0, .code yX0_hasRule cX0_hasRule 2 (some .boolean), .fieldLink RX0 28 "KindGuesser$ByteSide" "ruleCount" "I"] ++ wsX00)
def wsX0_holds : List Cond := .code yX0_holds cX0_holds 3 (some .boolean) :: ([.fieldLink RX0 34 "KindGuesser$ByteSide" "froms" "[I", .fieldLink RX0 37 "KindGuesser$ByteSide" "tos" "[I", .fieldLink RX0 15 "KindGuesser$ByteSide" "byteCount" "I", .fieldLink RX0 9 "KindGuesser$ByteSide" "values" "[I", .fieldLink RX0 43 "KindGuesser$ByteSide" "masks" "[I", .fieldLink RX0 40 "KindGuesser$ByteSide" "wanted" "[I"] ++ wsX00)
def wsX0_leadsBelow : List Cond := .code yX0_leadsBelow cX0_leadsBelow 6 (some .boolean) :: ([.fieldLink RX0 31 "KindGuesser$ByteSide" "levels" "[I", .fieldLink RX0 46 "KindGuesser$ByteSide" "leads" "[Z"] ++ wsX00)
def wsX0_provesKind : List Cond := .code yX0_provesKind cX0_provesKind 6 (some .boolean) :: ([.fieldLink RX0 25 "KindGuesser$ByteSide" "testCounts" "[I", .fieldLink RX0 46 "KindGuesser$ByteSide" "leads" "[Z", .fieldLink RX0 31 "KindGuesser$ByteSide" "levels" "[I", .methodLink RX0 60 yX0_holds, .instanceMethod yX0_holds, .selects RX0 yX0_holds yX0_holds, .initialized RX0, .code yX0_holds cX0_holds 3 (some .boolean), .fieldLink RX0 34 "KindGuesser$ByteSide" "froms" "[I", .fieldLink RX0 37 "KindGuesser$ByteSide" "tos" "[I", .fieldLink RX0 15 "KindGuesser$ByteSide" "byteCount" "I", .fieldLink RX0 9 "KindGuesser$ByteSide" "values" "[I", .fieldLink RX0 43 "KindGuesser$ByteSide" "masks" "[I", .fieldLink RX0 40 "KindGuesser$ByteSide" "wanted" "[I", .methodLink RX0 63 yX0_leadsBelow, .instanceMethod yX0_leadsBelow, .selects RX0 yX0_leadsBelow yX0_leadsBelow, .code yX0_leadsBelow cX0_leadsBelow 6 (some .boolean)] ++ wsX00)
def wsX0_provingRule : List Cond := .code yX0_provingRule cX0_provingRule 4 (some .int) :: ([.fieldLink RX0 28 "KindGuesser$ByteSide" "ruleCount" "I", .fieldLink RX0 22 "KindGuesser$ByteSide" "priorities" "[I", .methodLink RX0 57 yX0_provesKind, .instanceMethod yX0_provesKind, .selects RX0 yX0_provesKind yX0_provesKind, .initialized RX0, .code yX0_provesKind cX0_provesKind 6 (some .boolean), .fieldLink RX0 25 "KindGuesser$ByteSide" "testCounts" "[I", .fieldLink RX0 46 "KindGuesser$ByteSide" "leads" "[Z", .fieldLink RX0 31 "KindGuesser$ByteSide" "levels" "[I", .methodLink RX0 60 yX0_holds, .instanceMethod yX0_holds, .selects RX0 yX0_holds yX0_holds, .code yX0_holds cX0_holds 3 (some .boolean), .fieldLink RX0 34 "KindGuesser$ByteSide" "froms" "[I", .fieldLink RX0 37 "KindGuesser$ByteSide" "tos" "[I", .fieldLink RX0 15 "KindGuesser$ByteSide" "byteCount" "I", .fieldLink RX0 9 "KindGuesser$ByteSide" "values" "[I", .fieldLink RX0 43 "KindGuesser$ByteSide" "masks" "[I", .fieldLink RX0 40 "KindGuesser$ByteSide" "wanted" "[I", .methodLink RX0 63 yX0_leadsBelow, .instanceMethod yX0_leadsBelow, .selects RX0 yX0_leadsBelow yX0_leadsBelow, .code yX0_leadsBelow cX0_leadsBelow 6 (some .boolean)] ++ wsX00)
def wsX1_init : List Cond := .code yX1_init cX1_init 1 none :: ([.methodLink RX1 3 objectInit, .instanceMethod objectInit, .code objectInit ⟨#[0xb1]⟩ 1 none, .arrayClass .int, .fieldLink RX1 9 "KindGuesser$KindTree" "parents" "[I", .fieldLink RX1 15 "KindGuesser$KindTree" "count" "I"] ++ wsX10)
def wsX1_size : List Cond := .code yX1_size cX1_size 1 (some .int) :: ([.fieldLink RX1 15 "KindGuesser$KindTree" "count" "I"] ++ wsX10)
def wsX1_has : List Cond := .code yX1_has cX1_has 2 (some .boolean) :: ([.fieldLink RX1 15 "KindGuesser$KindTree" "count" "I"] ++ wsX10)
def wsX1_isFull : List Cond := .code yX1_isFull cX1_isFull 1 (some .boolean) :: ([.fieldLink RX1 15 "KindGuesser$KindTree" "count" "I"] ++ wsX10)
def wsX1_add : List Cond := .code yX1_add cX1_add 2 (some .int) :: ([.fieldLink RX1 9 "KindGuesser$KindTree" "parents" "[I", .fieldLink RX1 15 "KindGuesser$KindTree" "count" "I"] ++ wsX10)
def wsX1_parentOf : List Cond := .code yX1_parentOf cX1_parentOf 2 (some .int) :: ([.fieldLink RX1 9 "KindGuesser$KindTree" "parents" "[I", .methodLink RX1 19 yX1_has, .instanceMethod yX1_has, .selects RX1 yX1_has yX1_has, .initialized RX1, .code yX1_has cX1_has 2 (some .boolean), .fieldLink RX1 15 "KindGuesser$KindTree" "count" "I"] ++ wsX10)
def wsX1_leadsUp : List Cond := .code yX1_leadsUp cX1_leadsUp 5 (some .boolean) :: ([.methodLink RX1 23 yX1_parentOf, .instanceMethod yX1_parentOf, .selects RX1 yX1_parentOf yX1_parentOf, .initialized RX1, .code yX1_parentOf cX1_parentOf 2 (some .int), .fieldLink RX1 9 "KindGuesser$KindTree" "parents" "[I", .methodLink RX1 19 yX1_has, .instanceMethod yX1_has, .selects RX1 yX1_has yX1_has, .code yX1_has cX1_has 2 (some .boolean), .fieldLink RX1 15 "KindGuesser$KindTree" "count" "I"] ++ wsX10)
def wsX2_init : List Cond := .code yX2_init cX2_init 1 none :: ([.methodLink RX2 3 objectInit, .instanceMethod objectInit, .code objectInit ⟨#[0xb1]⟩ 1 none, .arrayClass .int, .fieldLink RX2 9 "KindGuesser$NameSide" "letters" "[I", .fieldLink RX2 15 "KindGuesser$NameSide" "letterCount" "I", .fieldLink RX2 19 "KindGuesser$NameSide" "kindsOfPatterns" "[I", .fieldLink RX2 22 "KindGuesser$NameSide" "weights" "[I", .fieldLink RX2 25 "KindGuesser$NameSide" "lengths" "[I", .arrayClass .boolean, .fieldLink RX2 28 "KindGuesser$NameSide" "there" "[Z", .fieldLink RX2 32 "KindGuesser$NameSide" "tokenRows" "[I", .fieldLink RX2 35 "KindGuesser$NameSide" "patternCount" "I", .fieldLink RX2 38 "KindGuesser$NameSide" "thereCount" "I", .fieldLink RX2 41 "KindGuesser$NameSide" "table" "[Z"] ++ wsX20)
def wsX2_isFullOfLetters : List Cond := .code yX2_isFullOfLetters cX2_isFullOfLetters 1 (some .boolean) :: ([.fieldLink RX2 15 "KindGuesser$NameSide" "letterCount" "I"] ++ wsX20)
def wsX2_addLetter : List Cond := .code yX2_addLetter cX2_addLetter 2 (some .int) :: ([.fieldLink RX2 9 "KindGuesser$NameSide" "letters" "[I", .fieldLink RX2 15 "KindGuesser$NameSide" "letterCount" "I"] ++ wsX20)
def wsX2_clearName : List Cond := .code yX2_clearName cX2_clearName 2 (some .int) :: ([.fieldLink RX2 15 "KindGuesser$NameSide" "letterCount" "I"] ++ wsX20)
def wsX2_hasPattern : List Cond := .code yX2_hasPattern cX2_hasPattern 2 (some .boolean) :: ([.fieldLink RX2 35 "KindGuesser$NameSide" "patternCount" "I", .fieldLink RX2 28 "KindGuesser$NameSide" "there" "[Z"] ++ wsX20)
def wsX2_isFullOfPatterns : List Cond := .code yX2_isFullOfPatterns cX2_isFullOfPatterns 1 (some .boolean) :: ([.fieldLink RX2 35 "KindGuesser$NameSide" "patternCount" "I"] ++ wsX20)
def wsX2_writeToken : List Cond := .code yX2_writeToken cX2_writeToken 3 none :: ([.fieldLink RX2 32 "KindGuesser$NameSide" "tokenRows" "[I", .fieldLink RX2 35 "KindGuesser$NameSide" "patternCount" "I"] ++ wsX20)
def wsX2_addPattern : List Cond := .code yX2_addPattern cX2_addPattern 5 (some .int) :: ([.fieldLink RX2 35 "KindGuesser$NameSide" "patternCount" "I", .fieldLink RX2 19 "KindGuesser$NameSide" "kindsOfPatterns" "[I", .fieldLink RX2 22 "KindGuesser$NameSide" "weights" "[I", .fieldLink RX2 25 "KindGuesser$NameSide" "lengths" "[I", .fieldLink RX2 28 "KindGuesser$NameSide" "there" "[Z", .fieldLink RX2 38 "KindGuesser$NameSide" "thereCount" "I"] ++ wsX20)
def wsX2_dropPattern : List Cond := .code yX2_dropPattern cX2_dropPattern 2 (some .int) :: ([.fieldLink RX2 28 "KindGuesser$NameSide" "there" "[Z", .fieldLink RX2 38 "KindGuesser$NameSide" "thereCount" "I"] ++ wsX20)
def wsX2_kindOf : List Cond := .code yX2_kindOf cX2_kindOf 2 (some .int) :: ([.fieldLink RX2 19 "KindGuesser$NameSide" "kindsOfPatterns" "[I", .methodLink RX2 44 yX2_hasPattern, .instanceMethod yX2_hasPattern, .selects RX2 yX2_hasPattern yX2_hasPattern, .initialized RX2, .code yX2_hasPattern cX2_hasPattern 2 (some .boolean), .fieldLink RX2 35 "KindGuesser$NameSide" "patternCount" "I", .fieldLink RX2 28 "KindGuesser$NameSide" "there" "[Z"] ++ wsX20)
def wsX2_isAhead : List Cond := .code yX2_isAhead cX2_isAhead 3 (some .boolean) :: ([.fieldLink RX2 22 "KindGuesser$NameSide" "weights" "[I", .fieldLink RX2 25 "KindGuesser$NameSide" "lengths" "[I"] ++ wsX20)
def wsX2_isOf : List Cond := .code yX2_isOf cX2_isOf 4 (some .boolean) :: ([.fieldLink RX2 19 "KindGuesser$NameSide" "kindsOfPatterns" "[I", .methodLink RX2 59 yX1_leadsUp, .instanceMethod yX1_leadsUp, .selects RX1 yX1_leadsUp yX1_leadsUp, .initialized RX1, .code yX1_leadsUp cX1_leadsUp 5 (some .boolean), .methodLink RX1 23 yX1_parentOf, .instanceMethod yX1_parentOf, .selects RX1 yX1_parentOf yX1_parentOf, .code yX1_parentOf cX1_parentOf 2 (some .int), .fieldLink RX1 9 "KindGuesser$KindTree" "parents" "[I", .methodLink RX1 19 yX1_has, .instanceMethod yX1_has, .selects RX1 yX1_has yX1_has, .code yX1_has cX1_has 2 (some .boolean), .fieldLink RX1 15 "KindGuesser$KindTree" "count" "I"] ++ wsX20 ++ wsX10)
def wsX2_isReached : List Cond := .code yX2_isReached cX2_isReached 2 (some .boolean) :: ([])
def wsX2_standsFor : List Cond := .code yX2_standsFor cX2_standsFor 3 (some .boolean) :: ([.fieldLink RX2 9 "KindGuesser$NameSide" "letters" "[I"] ++ wsX20)
def wsX2_reachedAfter : List Cond := .code yX2_reachedAfter cX2_reachedAfter 6 (some .int) :: ([.fieldLink RX2 15 "KindGuesser$NameSide" "letterCount" "I", .methodLink RX2 68 yX2_isReached, .static yX2_isReached, .initialized RX2, .code yX2_isReached cX2_isReached 2 (some .boolean), .methodLink RX2 71 yX2_standsFor, .instanceMethod yX2_standsFor, .selects RX2 yX2_standsFor yX2_standsFor, .code yX2_standsFor cX2_standsFor 3 (some .boolean), .fieldLink RX2 9 "KindGuesser$NameSide" "letters" "[I"] ++ wsX20)
def wsX2_fitsName : List Cond := .code yX2_fitsName cX2_fitsName 5 (some .boolean) :: ([.fieldLink RX2 25 "KindGuesser$NameSide" "lengths" "[I", .fieldLink RX2 32 "KindGuesser$NameSide" "tokenRows" "[I", .fieldLink RX2 15 "KindGuesser$NameSide" "letterCount" "I", .methodLink RX2 64 yX2_reachedAfter, .instanceMethod yX2_reachedAfter, .selects RX2 yX2_reachedAfter yX2_reachedAfter, .initialized RX2, .code yX2_reachedAfter cX2_reachedAfter 6 (some .int), .methodLink RX2 68 yX2_isReached, .static yX2_isReached, .code yX2_isReached cX2_isReached 2 (some .boolean), .methodLink RX2 71 yX2_standsFor, .instanceMethod yX2_standsFor, .selects RX2 yX2_standsFor yX2_standsFor, .code yX2_standsFor cX2_standsFor 3 (some .boolean), .fieldLink RX2 9 "KindGuesser$NameSide" "letters" "[I"] ++ wsX20)
def wsX2_firstFitting_r1 : List Cond := [Cond.fieldLink RX2 35 "KindGuesser$NameSide" "patternCount" "I", Cond.fieldLink RX2 28 "KindGuesser$NameSide" "there" "[Z", Cond.methodLink RX2 48 yX2_isAhead, Cond.instanceMethod yX2_isAhead, Cond.selects RX2 yX2_isAhead yX2_isAhead, Cond.initialized RX2, Cond.code yX2_isAhead cX2_isAhead 3 (some .boolean), Cond.fieldLink RX2 22 "KindGuesser$NameSide" "weights" "[I", Cond.fieldLink RX2 25 "KindGuesser$NameSide" "lengths" "[I", Cond.methodLink RX2 52 yX2_isOf, Cond.instanceMethod yX2_isOf, Cond.selects RX2 yX2_isOf yX2_isOf, Cond.code yX2_isOf cX2_isOf 4 (some .boolean), Cond.fieldLink RX2 19 "KindGuesser$NameSide" "kindsOfPatterns" "[I", Cond.methodLink RX2 59 yX1_leadsUp, Cond.instanceMethod yX1_leadsUp, Cond.selects RX1 yX1_leadsUp yX1_leadsUp, Cond.initialized RX1, Cond.code yX1_leadsUp cX1_leadsUp 5 (some .boolean), Cond.methodLink RX1 23 yX1_parentOf, Cond.instanceMethod yX1_parentOf, Cond.selects RX1 yX1_parentOf yX1_parentOf, Cond.code yX1_parentOf cX1_parentOf 2 (some .int), Cond.fieldLink RX1 9 "KindGuesser$KindTree" "parents" "[I"]
def wsX2_firstFitting_r2 : List Cond := [Cond.methodLink RX1 19 yX1_has, Cond.instanceMethod yX1_has, Cond.selects RX1 yX1_has yX1_has, Cond.code yX1_has cX1_has 2 (some .boolean), Cond.fieldLink RX1 15 "KindGuesser$KindTree" "count" "I", Cond.methodLink RX2 56 yX2_fitsName, Cond.instanceMethod yX2_fitsName, Cond.selects RX2 yX2_fitsName yX2_fitsName, Cond.code yX2_fitsName cX2_fitsName 5 (some .boolean), Cond.fieldLink RX2 32 "KindGuesser$NameSide" "tokenRows" "[I", Cond.fieldLink RX2 15 "KindGuesser$NameSide" "letterCount" "I", Cond.methodLink RX2 64 yX2_reachedAfter, Cond.instanceMethod yX2_reachedAfter, Cond.selects RX2 yX2_reachedAfter yX2_reachedAfter, Cond.code yX2_reachedAfter cX2_reachedAfter 6 (some .int), Cond.methodLink RX2 68 yX2_isReached, Cond.static yX2_isReached, Cond.code yX2_isReached cX2_isReached 2 (some .boolean), Cond.methodLink RX2 71 yX2_standsFor, Cond.instanceMethod yX2_standsFor, Cond.selects RX2 yX2_standsFor yX2_standsFor, Cond.code yX2_standsFor cX2_standsFor 3 (some .boolean), Cond.fieldLink RX2 9 "KindGuesser$NameSide" "letters" "[I"]
def wsX2_firstFitting : List Cond := .code yX2_firstFitting cX2_firstFitting 6 (some .int) :: ((wsX2_firstFitting_r1 ++ wsX2_firstFitting_r2) ++ wsX20 ++ wsX10)
def wsX2_fillLine : List Cond := .code yX2_fillLine cX2_fillLine 6 none :: ([.fieldLink RX2 41 "KindGuesser$NameSide" "table" "[Z", .fieldLink RX2 15 "KindGuesser$NameSide" "letterCount" "I", .methodLink RX2 71 yX2_standsFor, .instanceMethod yX2_standsFor, .selects RX2 yX2_standsFor yX2_standsFor, .initialized RX2, .code yX2_standsFor cX2_standsFor 3 (some .boolean), .fieldLink RX2 9 "KindGuesser$NameSide" "letters" "[I"] ++ wsX20)
def wsX2_fitsNameByTable : List Cond := .code yX2_fitsNameByTable cX2_fitsNameByTable 4 (some .boolean) :: ([.fieldLink RX2 25 "KindGuesser$NameSide" "lengths" "[I", .fieldLink RX2 41 "KindGuesser$NameSide" "table" "[Z", .fieldLink RX2 32 "KindGuesser$NameSide" "tokenRows" "[I", .fieldLink RX2 15 "KindGuesser$NameSide" "letterCount" "I", .methodLink RX2 74 yX2_fillLine, .instanceMethod yX2_fillLine, .selects RX2 yX2_fillLine yX2_fillLine, .initialized RX2, .code yX2_fillLine cX2_fillLine 6 none, .methodLink RX2 71 yX2_standsFor, .instanceMethod yX2_standsFor, .selects RX2 yX2_standsFor yX2_standsFor, .code yX2_standsFor cX2_standsFor 3 (some .boolean), .fieldLink RX2 9 "KindGuesser$NameSide" "letters" "[I"] ++ wsX20)
def wsJ7_fill_53178 : List Cond := .code yJ7_fill_53178 cJ7_fill_53178 4 none :: ([])
def wsX3_init : List Cond := .code yX3_init cX3_init 1 none :: ([.methodLink RX3 3 objectInit, .instanceMethod objectInit, .code objectInit ⟨#[0xb1]⟩ 1 none, .arrayClass .int, .fieldLink RX3 9 "KindGuesser$ProgramLists" "standings" "[I", .fieldLink RX3 15 "KindGuesser$ProgramLists" "defaults" "[I", .methodLink RX3 18 yJ7_fill_53178, .static yJ7_fill_53178, .initialized RJ7, .code yJ7_fill_53178 cJ7_fill_53178 4 none] ++ wsX30)
def wsX3_placeOf : List Cond := .code yX3_placeOf cX3_placeOf 2 (some .int) :: ([])
def wsX3_setStanding : List Cond := .code yX3_setStanding cX3_setStanding 7 (some .int) :: ([.fieldLink RX3 9 "KindGuesser$ProgramLists" "standings" "[I", .methodLink RX3 24 yX3_placeOf, .static yX3_placeOf, .initialized RX3, .code yX3_placeOf cX3_placeOf 2 (some .int)] ++ wsX30)
def wsX3_setDefaultOf : List Cond := .code yX3_setDefaultOf cX3_setDefaultOf 6 (some .int) :: ([.fieldLink RX3 15 "KindGuesser$ProgramLists" "defaults" "[I", .methodLink RX3 24 yX3_placeOf, .static yX3_placeOf, .initialized RX3, .code yX3_placeOf cX3_placeOf 2 (some .int)] ++ wsX30)
def wsX3_opens : List Cond := .code yX3_opens cX3_opens 5 (some .boolean) :: ([.fieldLink RX3 9 "KindGuesser$ProgramLists" "standings" "[I", .methodLink RX3 24 yX3_placeOf, .static yX3_placeOf, .initialized RX3, .code yX3_placeOf cX3_placeOf 2 (some .int)] ++ wsX30)
def wsX3_openersOf : List Cond := .code yX3_openersOf cX3_openersOf 4 (some .int) :: ([.methodLink RX3 28 yX3_opens, .instanceMethod yX3_opens, .selects RX3 yX3_opens yX3_opens, .initialized RX3, .code yX3_opens cX3_opens 5 (some .boolean), .fieldLink RX3 9 "KindGuesser$ProgramLists" "standings" "[I", .methodLink RX3 24 yX3_placeOf, .static yX3_placeOf, .code yX3_placeOf cX3_placeOf 2 (some .int)] ++ wsX30)
def wsJ6_bitCount_0f7a4 : List Cond := .code yJ6_bitCount_0f7a4 cJ6_bitCount_0f7a4 1 (some .int) :: ([.constant RJ6 265 (1431655765), .constant RJ6 266 (858993459), .constant RJ6 267 (252645135)])
def wsX3_countPrograms_r1 : List Cond := [Cond.methodLink RX3 32 yX3_openersOf, Cond.instanceMethod yX3_openersOf, Cond.selects RX3 yX3_openersOf yX3_openersOf, Cond.initialized RX3, Cond.code yX3_openersOf cX3_openersOf 4 (some .int), Cond.methodLink RX3 28 yX3_opens, Cond.instanceMethod yX3_opens, Cond.selects RX3 yX3_opens yX3_opens, Cond.code yX3_opens cX3_opens 5 (some .boolean), Cond.fieldLink RX3 9 "KindGuesser$ProgramLists" "standings" "[I", Cond.methodLink RX3 24 yX3_placeOf, Cond.static yX3_placeOf, Cond.code yX3_placeOf cX3_placeOf 2 (some .int), Cond.methodLink RX3 36 yX1_parentOf, Cond.instanceMethod yX1_parentOf, Cond.selects RX1 yX1_parentOf yX1_parentOf, Cond.initialized RX1, Cond.code yX1_parentOf cX1_parentOf 2 (some .int), Cond.fieldLink RX1 9 "KindGuesser$KindTree" "parents" "[I", Cond.methodLink RX1 19 yX1_has, Cond.instanceMethod yX1_has, Cond.selects RX1 yX1_has yX1_has, Cond.code yX1_has cX1_has 2 (some .boolean), Cond.fieldLink RX1 15 "KindGuesser$KindTree" "count" "I"]
def wsX3_countPrograms_r2 : List Cond := [Cond.methodLink RX3 41 yJ6_bitCount_0f7a4, Cond.static yJ6_bitCount_0f7a4, Cond.initialized RJ6, Cond.code yJ6_bitCount_0f7a4 cJ6_bitCount_0f7a4 1 (some .int), Cond.constant RJ6 265 (1431655765), Cond.constant RJ6 266 (858993459), Cond.constant RJ6 267 (252645135)]
def wsX3_countPrograms : List Cond := .code yX3_countPrograms cX3_countPrograms 6 (some .int) :: ((wsX3_countPrograms_r1 ++ wsX3_countPrograms_r2) ++ wsX30 ++ wsX10)
def wsX3_programOf : List Cond := .code yX3_programOf cX3_programOf 4 (some .int) :: ([])
def wsX3_programInOrder_r1 : List Cond := [Cond.methodLink RX3 32 yX3_openersOf, Cond.instanceMethod yX3_openersOf, Cond.selects RX3 yX3_openersOf yX3_openersOf, Cond.initialized RX3, Cond.code yX3_openersOf cX3_openersOf 4 (some .int), Cond.methodLink RX3 28 yX3_opens, Cond.instanceMethod yX3_opens, Cond.selects RX3 yX3_opens yX3_opens, Cond.code yX3_opens cX3_opens 5 (some .boolean), Cond.fieldLink RX3 9 "KindGuesser$ProgramLists" "standings" "[I", Cond.methodLink RX3 24 yX3_placeOf, Cond.static yX3_placeOf, Cond.code yX3_placeOf cX3_placeOf 2 (some .int), Cond.methodLink RX3 41 yJ6_bitCount_0f7a4, Cond.static yJ6_bitCount_0f7a4, Cond.initialized RJ6, Cond.code yJ6_bitCount_0f7a4 cJ6_bitCount_0f7a4 1 (some .int), Cond.constant RJ6 265 (1431655765), Cond.constant RJ6 266 (858993459), Cond.constant RJ6 267 (252645135), Cond.methodLink RX3 46 yX3_programOf, Cond.static yX3_programOf, Cond.code yX3_programOf cX3_programOf 4 (some .int), Cond.methodLink RX3 36 yX1_parentOf]
def wsX3_programInOrder_r2 : List Cond := [Cond.instanceMethod yX1_parentOf, Cond.selects RX1 yX1_parentOf yX1_parentOf, Cond.initialized RX1, Cond.code yX1_parentOf cX1_parentOf 2 (some .int), Cond.fieldLink RX1 9 "KindGuesser$KindTree" "parents" "[I", Cond.methodLink RX1 19 yX1_has, Cond.instanceMethod yX1_has, Cond.selects RX1 yX1_has yX1_has, Cond.code yX1_has cX1_has 2 (some .boolean), Cond.fieldLink RX1 15 "KindGuesser$KindTree" "count" "I"]
def wsX3_programInOrder : List Cond := .code yX3_programInOrder cX3_programInOrder 9 (some .int) :: ((wsX3_programInOrder_r1 ++ wsX3_programInOrder_r2) ++ wsX30 ++ wsX10)
def wsX3_defaultOf : List Cond := .code yX3_defaultOf cX3_defaultOf 4 (some .int) :: ([.fieldLink RX3 15 "KindGuesser$ProgramLists" "defaults" "[I", .methodLink RX3 24 yX3_placeOf, .static yX3_placeOf, .initialized RX3, .code yX3_placeOf cX3_placeOf 2 (some .int), .methodLink RX3 28 yX3_opens, .instanceMethod yX3_opens, .selects RX3 yX3_opens yX3_opens, .code yX3_opens cX3_opens 5 (some .boolean), .fieldLink RX3 9 "KindGuesser$ProgramLists" "standings" "[I"] ++ wsX30)
def wsX3_defaultUpward_r1 : List Cond := [Cond.methodLink RX3 49 yX3_defaultOf, Cond.instanceMethod yX3_defaultOf, Cond.selects RX3 yX3_defaultOf yX3_defaultOf, Cond.initialized RX3, Cond.code yX3_defaultOf cX3_defaultOf 4 (some .int), Cond.fieldLink RX3 15 "KindGuesser$ProgramLists" "defaults" "[I", Cond.methodLink RX3 24 yX3_placeOf, Cond.static yX3_placeOf, Cond.code yX3_placeOf cX3_placeOf 2 (some .int), Cond.methodLink RX3 28 yX3_opens, Cond.instanceMethod yX3_opens, Cond.selects RX3 yX3_opens yX3_opens, Cond.code yX3_opens cX3_opens 5 (some .boolean), Cond.fieldLink RX3 9 "KindGuesser$ProgramLists" "standings" "[I", Cond.methodLink RX3 36 yX1_parentOf, Cond.instanceMethod yX1_parentOf, Cond.selects RX1 yX1_parentOf yX1_parentOf, Cond.initialized RX1, Cond.code yX1_parentOf cX1_parentOf 2 (some .int), Cond.fieldLink RX1 9 "KindGuesser$KindTree" "parents" "[I", Cond.methodLink RX1 19 yX1_has, Cond.instanceMethod yX1_has, Cond.selects RX1 yX1_has yX1_has, Cond.code yX1_has cX1_has 2 (some .boolean)]
def wsX3_defaultUpward_r2 : List Cond := [Cond.fieldLink RX1 15 "KindGuesser$KindTree" "count" "I"]
def wsX3_defaultUpward : List Cond := .code yX3_defaultUpward cX3_defaultUpward 6 (some .int) :: ((wsX3_defaultUpward_r1 ++ wsX3_defaultUpward_r2) ++ wsX30 ++ wsX10)
def wsX4_init_r1 : List Cond := [Cond.methodLink RX4 1 objectInit, Cond.instanceMethod objectInit, Cond.code objectInit ⟨#[0xb1]⟩ 1 none, Cond.classLink RX4 7 RX1, Cond.instantiable RX1 2, Cond.initialized RX1, Cond.fieldLink RX4 10 "KindGuesser" "tree" "LKindGuesser$KindTree;", Cond.classLink RX4 16 RX2, Cond.instantiable RX2 10, Cond.initialized RX2, Cond.fieldLink RX4 19 "KindGuesser" "nameSide" "LKindGuesser$NameSide;", Cond.classLink RX4 23 RX0, Cond.instantiable RX0 12, Cond.initialized RX0, Cond.fieldLink RX4 26 "KindGuesser" "byteSide" "LKindGuesser$ByteSide;", Cond.classLink RX4 30 RX3, Cond.instantiable RX3 2, Cond.initialized RX3, Cond.fieldLink RX4 33 "KindGuesser" "programLists" "LKindGuesser$ProgramLists;", Cond.instanceMethod yX1_init, Cond.code yX1_init cX1_init 1 none, Cond.methodLink RX1 3 objectInit, Cond.arrayClass .int, Cond.fieldLink RX1 9 "KindGuesser$KindTree" "parents" "[I"]
def wsX4_init_r2 : List Cond := [Cond.fieldLink RX1 15 "KindGuesser$KindTree" "count" "I", Cond.instanceMethod yX2_init, Cond.code yX2_init cX2_init 1 none, Cond.methodLink RX2 3 objectInit, Cond.fieldLink RX2 9 "KindGuesser$NameSide" "letters" "[I", Cond.fieldLink RX2 15 "KindGuesser$NameSide" "letterCount" "I", Cond.fieldLink RX2 19 "KindGuesser$NameSide" "kindsOfPatterns" "[I", Cond.fieldLink RX2 22 "KindGuesser$NameSide" "weights" "[I", Cond.fieldLink RX2 25 "KindGuesser$NameSide" "lengths" "[I", Cond.arrayClass .boolean, Cond.fieldLink RX2 28 "KindGuesser$NameSide" "there" "[Z", Cond.fieldLink RX2 32 "KindGuesser$NameSide" "tokenRows" "[I", Cond.fieldLink RX2 35 "KindGuesser$NameSide" "patternCount" "I", Cond.fieldLink RX2 38 "KindGuesser$NameSide" "thereCount" "I", Cond.fieldLink RX2 41 "KindGuesser$NameSide" "table" "[Z", Cond.instanceMethod yX0_init, Cond.code yX0_init cX0_init 1 none, Cond.methodLink RX0 3 objectInit, Cond.fieldLink RX0 9 "KindGuesser$ByteSide" "values" "[I", Cond.fieldLink RX0 15 "KindGuesser$ByteSide" "byteCount" "I", Cond.fieldLink RX0 19 "KindGuesser$ByteSide" "kindsOfRules" "[I", Cond.fieldLink RX0 22 "KindGuesser$ByteSide" "priorities" "[I", Cond.fieldLink RX0 25 "KindGuesser$ByteSide" "testCounts" "[I", Cond.fieldLink RX0 28 "KindGuesser$ByteSide" "ruleCount" "I"]
def wsX4_init_r3 : List Cond := [Cond.fieldLink RX0 31 "KindGuesser$ByteSide" "levels" "[I", Cond.fieldLink RX0 34 "KindGuesser$ByteSide" "froms" "[I", Cond.fieldLink RX0 37 "KindGuesser$ByteSide" "tos" "[I", Cond.fieldLink RX0 40 "KindGuesser$ByteSide" "wanted" "[I", Cond.fieldLink RX0 43 "KindGuesser$ByteSide" "masks" "[I", Cond.fieldLink RX0 46 "KindGuesser$ByteSide" "leads" "[Z", Cond.methodLink RX4 32 yX3_init, Cond.instanceMethod yX3_init, Cond.code yX3_init cX3_init 1 none, Cond.methodLink RX3 3 objectInit, Cond.fieldLink RX3 9 "KindGuesser$ProgramLists" "standings" "[I", Cond.fieldLink RX3 15 "KindGuesser$ProgramLists" "defaults" "[I", Cond.methodLink RX3 18 yJ7_fill_53178, Cond.static yJ7_fill_53178, Cond.initialized RJ7, Cond.code yJ7_fill_53178 cJ7_fill_53178 4 none]
def wsX4_init : List Cond := .code yX4_init cX4_init 1 none :: ((wsX4_init_r1 ++ (wsX4_init_r2 ++ wsX4_init_r3)) ++ wsX10 ++ wsX40 ++ wsX20 ++ wsX00 ++ wsX30)
def wsX4_kind : List Cond := .code yX4_kind cX4_kind 2 (some .int) :: ([.classLink RX4 41 "java/lang/IndexOutOfBoundsException", .initialized "java/lang/IndexOutOfBoundsException", .classLink RX4 52 "java/lang/IllegalStateException", .initialized "java/lang/IllegalStateException", .fieldLink RX4 10 "KindGuesser" "tree" "LKindGuesser$KindTree;", .methodLink RX4 37 yX1_has, .instanceMethod yX1_has, .selects RX1 yX1_has yX1_has, .initialized RX1, .code yX1_has cX1_has 2 (some .boolean), .fieldLink RX1 15 "KindGuesser$KindTree" "count" "I", .methodLink RX4 48 yX1_isFull, .instanceMethod yX1_isFull, .selects RX1 yX1_isFull yX1_isFull, .code yX1_isFull cX1_isFull 1 (some .boolean), .methodLink RX4 57 yX1_add, .instanceMethod yX1_add, .selects RX1 yX1_add yX1_add, .code yX1_add cX1_add 2 (some .int), .fieldLink RX1 9 "KindGuesser$KindTree" "parents" "[I"] ++ wsX40 ++ wsX10 ++ (vx_atS RX4 45 "java/lang/IndexOutOfBoundsException" ["java/lang/RuntimeException", "java/lang/Exception"]).filter goodWord ++ (vx_atS RX4 56 "java/lang/IllegalStateException" ["java/lang/RuntimeException", "java/lang/Exception"]).filter goodWord)
def wsX4_requireKind : List Cond := .code yX4_requireKind cX4_requireKind 2 none :: ([.classLink RX4 41 "java/lang/IndexOutOfBoundsException", .initialized "java/lang/IndexOutOfBoundsException", .fieldLink RX4 10 "KindGuesser" "tree" "LKindGuesser$KindTree;", .methodLink RX4 37 yX1_has, .instanceMethod yX1_has, .selects RX1 yX1_has yX1_has, .initialized RX1, .code yX1_has cX1_has 2 (some .boolean), .fieldLink RX1 15 "KindGuesser$KindTree" "count" "I"] ++ wsX40 ++ wsX10 ++ (vx_atS RX4 45 "java/lang/IndexOutOfBoundsException" ["java/lang/RuntimeException", "java/lang/Exception"]).filter goodWord)
def wsX4_requireArgument : List Cond := .code yX4_requireArgument cX4_requireArgument 1 none :: ([.classLink RX4 209 "java/lang/IllegalArgumentException", .initialized "java/lang/IllegalArgumentException"] ++ (vx_atS RX4 213 "java/lang/IllegalArgumentException" ["java/lang/RuntimeException", "java/lang/Exception"]).filter goodWord)
def wsX4_requireRange : List Cond := .code yX4_requireRange cX4_requireRange 3 none :: ([.methodLink RX4 69 yX4_requireArgument, .static yX4_requireArgument, .initialized RX4, .code yX4_requireArgument cX4_requireArgument 1 none, .classLink RX4 209 "java/lang/IllegalArgumentException", .initialized "java/lang/IllegalArgumentException"] ++ (vx_atS RX4 213 "java/lang/IllegalArgumentException" ["java/lang/RuntimeException", "java/lang/Exception"]).filter goodWord)
def wsX4_tokenAt : List Cond := .code yX4_tokenAt cX4_tokenAt 6 (some .int) :: ([])
def wsX4_pattern_r1 : List Cond := [Cond.classLink RX4 52 "java/lang/IllegalStateException", Cond.initialized "java/lang/IllegalStateException", Cond.fieldLink RX4 19 "KindGuesser" "nameSide" "LKindGuesser$NameSide;", Cond.methodLink RX4 61 yX4_requireKind, Cond.instanceMethod yX4_requireKind, Cond.selects RX4 yX4_requireKind yX4_requireKind, Cond.initialized RX4, Cond.code yX4_requireKind cX4_requireKind 2 none, Cond.classLink RX4 41 "java/lang/IndexOutOfBoundsException", Cond.initialized "java/lang/IndexOutOfBoundsException", Cond.fieldLink RX4 10 "KindGuesser" "tree" "LKindGuesser$KindTree;", Cond.methodLink RX4 37 yX1_has, Cond.instanceMethod yX1_has, Cond.selects RX1 yX1_has yX1_has, Cond.initialized RX1, Cond.code yX1_has cX1_has 2 (some .boolean), Cond.fieldLink RX1 15 "KindGuesser$KindTree" "count" "I", Cond.methodLink RX4 65 yX4_requireRange, Cond.static yX4_requireRange, Cond.code yX4_requireRange cX4_requireRange 3 none, Cond.methodLink RX4 69 yX4_requireArgument, Cond.static yX4_requireArgument, Cond.code yX4_requireArgument cX4_requireArgument 1 none, Cond.classLink RX4 209 "java/lang/IllegalArgumentException"]
def wsX4_pattern_r2 : List Cond := [Cond.initialized "java/lang/IllegalArgumentException", Cond.methodLink RX4 73 yX4_tokenAt, Cond.static yX4_tokenAt, Cond.code yX4_tokenAt cX4_tokenAt 6 (some .int), Cond.methodLink RX4 77 yX2_isFullOfPatterns, Cond.instanceMethod yX2_isFullOfPatterns, Cond.selects RX2 yX2_isFullOfPatterns yX2_isFullOfPatterns, Cond.initialized RX2, Cond.code yX2_isFullOfPatterns cX2_isFullOfPatterns 1 (some .boolean), Cond.fieldLink RX2 35 "KindGuesser$NameSide" "patternCount" "I", Cond.methodLink RX4 82 yX2_writeToken, Cond.instanceMethod yX2_writeToken, Cond.selects RX2 yX2_writeToken yX2_writeToken, Cond.code yX2_writeToken cX2_writeToken 3 none, Cond.fieldLink RX2 32 "KindGuesser$NameSide" "tokenRows" "[I", Cond.methodLink RX4 86 yX2_addPattern, Cond.instanceMethod yX2_addPattern, Cond.selects RX2 yX2_addPattern yX2_addPattern, Cond.code yX2_addPattern cX2_addPattern 5 (some .int), Cond.fieldLink RX2 19 "KindGuesser$NameSide" "kindsOfPatterns" "[I", Cond.fieldLink RX2 22 "KindGuesser$NameSide" "weights" "[I", Cond.fieldLink RX2 25 "KindGuesser$NameSide" "lengths" "[I", Cond.fieldLink RX2 28 "KindGuesser$NameSide" "there" "[Z", Cond.fieldLink RX2 38 "KindGuesser$NameSide" "thereCount" "I"]
def wsX4_pattern : List Cond := .code yX4_pattern cX4_pattern 7 (some .int) :: ((wsX4_pattern_r1 ++ wsX4_pattern_r2) ++ wsX40 ++ wsX10 ++ wsX20 ++ (vx_atS RX4 56 "java/lang/IllegalStateException" ["java/lang/RuntimeException", "java/lang/Exception"]).filter goodWord ++ (vx_atS RX4 45 "java/lang/IndexOutOfBoundsException" ["java/lang/RuntimeException", "java/lang/Exception"]).filter goodWord ++ (vx_atS RX4 213 "java/lang/IllegalArgumentException" ["java/lang/RuntimeException", "java/lang/Exception"]).filter goodWord)
def wsX4_requirePattern : List Cond := .code yX4_requirePattern cX4_requirePattern 2 none :: ([.classLink RX4 41 "java/lang/IndexOutOfBoundsException", .initialized "java/lang/IndexOutOfBoundsException", .fieldLink RX4 19 "KindGuesser" "nameSide" "LKindGuesser$NameSide;", .methodLink RX4 199 yX2_hasPattern, .instanceMethod yX2_hasPattern, .selects RX2 yX2_hasPattern yX2_hasPattern, .initialized RX2, .code yX2_hasPattern cX2_hasPattern 2 (some .boolean), .fieldLink RX2 35 "KindGuesser$NameSide" "patternCount" "I", .fieldLink RX2 28 "KindGuesser$NameSide" "there" "[Z"] ++ wsX40 ++ wsX20 ++ (vx_atS RX4 45 "java/lang/IndexOutOfBoundsException" ["java/lang/RuntimeException", "java/lang/Exception"]).filter goodWord)
def wsX4_drop : List Cond := .code yX4_drop cX4_drop 2 (some .int) :: ([.fieldLink RX4 19 "KindGuesser" "nameSide" "LKindGuesser$NameSide;", .methodLink RX4 89 yX4_requirePattern, .instanceMethod yX4_requirePattern, .selects RX4 yX4_requirePattern yX4_requirePattern, .initialized RX4, .code yX4_requirePattern cX4_requirePattern 2 none, .classLink RX4 41 "java/lang/IndexOutOfBoundsException", .initialized "java/lang/IndexOutOfBoundsException", .methodLink RX4 199 yX2_hasPattern, .instanceMethod yX2_hasPattern, .selects RX2 yX2_hasPattern yX2_hasPattern, .initialized RX2, .code yX2_hasPattern cX2_hasPattern 2 (some .boolean), .fieldLink RX2 35 "KindGuesser$NameSide" "patternCount" "I", .fieldLink RX2 28 "KindGuesser$NameSide" "there" "[Z", .methodLink RX4 92 yX2_dropPattern, .instanceMethod yX2_dropPattern, .selects RX2 yX2_dropPattern yX2_dropPattern, .code yX2_dropPattern cX2_dropPattern 2 (some .int), .fieldLink RX2 38 "KindGuesser$NameSide" "thereCount" "I"] ++ wsX40 ++ wsX20 ++ (vx_atS RX4 45 "java/lang/IndexOutOfBoundsException" ["java/lang/RuntimeException", "java/lang/Exception"]).filter goodWord)
def wsX4_rule_r1 : List Cond := [Cond.classLink RX4 52 "java/lang/IllegalStateException", Cond.initialized "java/lang/IllegalStateException", Cond.fieldLink RX4 26 "KindGuesser" "byteSide" "LKindGuesser$ByteSide;", Cond.methodLink RX4 61 yX4_requireKind, Cond.instanceMethod yX4_requireKind, Cond.selects RX4 yX4_requireKind yX4_requireKind, Cond.initialized RX4, Cond.code yX4_requireKind cX4_requireKind 2 none, Cond.classLink RX4 41 "java/lang/IndexOutOfBoundsException", Cond.initialized "java/lang/IndexOutOfBoundsException", Cond.fieldLink RX4 10 "KindGuesser" "tree" "LKindGuesser$KindTree;", Cond.methodLink RX4 37 yX1_has, Cond.instanceMethod yX1_has, Cond.selects RX1 yX1_has yX1_has, Cond.initialized RX1, Cond.code yX1_has cX1_has 2 (some .boolean), Cond.fieldLink RX1 15 "KindGuesser$KindTree" "count" "I", Cond.methodLink RX4 65 yX4_requireRange, Cond.static yX4_requireRange, Cond.code yX4_requireRange cX4_requireRange 3 none, Cond.methodLink RX4 69 yX4_requireArgument, Cond.static yX4_requireArgument, Cond.code yX4_requireArgument cX4_requireArgument 1 none, Cond.classLink RX4 209 "java/lang/IllegalArgumentException"]
def wsX4_rule_r2 : List Cond := [Cond.initialized "java/lang/IllegalArgumentException", Cond.methodLink RX4 95 yX0_isFullOfRules, Cond.instanceMethod yX0_isFullOfRules, Cond.selects RX0 yX0_isFullOfRules yX0_isFullOfRules, Cond.initialized RX0, Cond.code yX0_isFullOfRules cX0_isFullOfRules 1 (some .boolean), Cond.fieldLink RX0 28 "KindGuesser$ByteSide" "ruleCount" "I", Cond.methodLink RX4 100 yX0_addRule, Cond.instanceMethod yX0_addRule, Cond.selects RX0 yX0_addRule yX0_addRule, Cond.code yX0_addRule cX0_addRule 3 (some .int), Cond.fieldLink RX0 19 "KindGuesser$ByteSide" "kindsOfRules" "[I", Cond.fieldLink RX0 22 "KindGuesser$ByteSide" "priorities" "[I"]
def wsX4_rule : List Cond := .code yX4_rule cX4_rule 3 (some .int) :: ((wsX4_rule_r1 ++ wsX4_rule_r2) ++ wsX40 ++ wsX10 ++ wsX00 ++ (vx_atS RX4 56 "java/lang/IllegalStateException" ["java/lang/RuntimeException", "java/lang/Exception"]).filter goodWord ++ (vx_atS RX4 45 "java/lang/IndexOutOfBoundsException" ["java/lang/RuntimeException", "java/lang/Exception"]).filter goodWord ++ (vx_atS RX4 213 "java/lang/IllegalArgumentException" ["java/lang/RuntimeException", "java/lang/Exception"]).filter goodWord)
def wsX4_requireRule : List Cond := .code yX4_requireRule cX4_requireRule 2 none :: ([.classLink RX4 41 "java/lang/IndexOutOfBoundsException", .initialized "java/lang/IndexOutOfBoundsException", .fieldLink RX4 26 "KindGuesser" "byteSide" "LKindGuesser$ByteSide;", .methodLink RX4 204 yX0_hasRule, .instanceMethod yX0_hasRule, .selects RX0 yX0_hasRule yX0_hasRule, .initialized RX0, .code yX0_hasRule cX0_hasRule 2 (some .boolean), .fieldLink RX0 28 "KindGuesser$ByteSide" "ruleCount" "I"] ++ wsX40 ++ wsX00 ++ (vx_atS RX4 45 "java/lang/IndexOutOfBoundsException" ["java/lang/RuntimeException", "java/lang/Exception"]).filter goodWord)
def wsX4_test_r1 : List Cond := [Cond.classLink RX4 52 "java/lang/IllegalStateException", Cond.initialized "java/lang/IllegalStateException", Cond.fieldLink RX4 26 "KindGuesser" "byteSide" "LKindGuesser$ByteSide;", Cond.methodLink RX4 104 yX4_requireRule, Cond.instanceMethod yX4_requireRule, Cond.selects RX4 yX4_requireRule yX4_requireRule, Cond.initialized RX4, Cond.code yX4_requireRule cX4_requireRule 2 none, Cond.classLink RX4 41 "java/lang/IndexOutOfBoundsException", Cond.initialized "java/lang/IndexOutOfBoundsException", Cond.methodLink RX4 204 yX0_hasRule, Cond.instanceMethod yX0_hasRule, Cond.selects RX0 yX0_hasRule yX0_hasRule, Cond.initialized RX0, Cond.code yX0_hasRule cX0_hasRule 2 (some .boolean), Cond.fieldLink RX0 28 "KindGuesser$ByteSide" "ruleCount" "I", Cond.methodLink RX4 107 yX0_greatestNextLevel, Cond.instanceMethod yX0_greatestNextLevel, Cond.selects RX0 yX0_greatestNextLevel yX0_greatestNextLevel, Cond.code yX0_greatestNextLevel cX0_greatestNextLevel 3 (some .int), Cond.fieldLink RX0 25 "KindGuesser$ByteSide" "testCounts" "[I", Cond.fieldLink RX0 31 "KindGuesser$ByteSide" "levels" "[I", Cond.methodLink RX4 65 yX4_requireRange, Cond.static yX4_requireRange]
def wsX4_test_r2 : List Cond := [Cond.code yX4_requireRange cX4_requireRange 3 none, Cond.methodLink RX4 69 yX4_requireArgument, Cond.static yX4_requireArgument, Cond.code yX4_requireArgument cX4_requireArgument 1 none, Cond.classLink RX4 209 "java/lang/IllegalArgumentException", Cond.initialized "java/lang/IllegalArgumentException", Cond.methodLink RX4 110 yX0_isFullOfTests, Cond.instanceMethod yX0_isFullOfTests, Cond.selects RX0 yX0_isFullOfTests yX0_isFullOfTests, Cond.code yX0_isFullOfTests cX0_isFullOfTests 2 (some .boolean), Cond.methodLink RX4 115 yX0_addTest, Cond.instanceMethod yX0_addTest, Cond.selects RX0 yX0_addTest yX0_addTest, Cond.code yX0_addTest cX0_addTest 8 (some .int), Cond.fieldLink RX0 34 "KindGuesser$ByteSide" "froms" "[I", Cond.fieldLink RX0 37 "KindGuesser$ByteSide" "tos" "[I", Cond.fieldLink RX0 40 "KindGuesser$ByteSide" "wanted" "[I", Cond.fieldLink RX0 43 "KindGuesser$ByteSide" "masks" "[I"]
def wsX4_test : List Cond := .code yX4_test cX4_test 7 (some .int) :: ((wsX4_test_r1 ++ wsX4_test_r2) ++ wsX40 ++ wsX00 ++ (vx_atS RX4 56 "java/lang/IllegalStateException" ["java/lang/RuntimeException", "java/lang/Exception"]).filter goodWord ++ (vx_atS RX4 45 "java/lang/IndexOutOfBoundsException" ["java/lang/RuntimeException", "java/lang/Exception"]).filter goodWord ++ (vx_atS RX4 213 "java/lang/IllegalArgumentException" ["java/lang/RuntimeException", "java/lang/Exception"]).filter goodWord)
def wsX4_kinds : List Cond := .code yX4_kinds cX4_kinds 1 (some .int) :: ([.fieldLink RX4 10 "KindGuesser" "tree" "LKindGuesser$KindTree;", .methodLink RX4 119 yX1_size, .instanceMethod yX1_size, .selects RX1 yX1_size yX1_size, .initialized RX1, .code yX1_size cX1_size 1 (some .int), .fieldLink RX1 15 "KindGuesser$KindTree" "count" "I"] ++ wsX40 ++ wsX10)
def wsX4_isSpecial : List Cond := .code yX4_isSpecial cX4_isSpecial 3 (some .boolean) :: ([.fieldLink RX4 10 "KindGuesser" "tree" "LKindGuesser$KindTree;", .methodLink RX4 61 yX4_requireKind, .instanceMethod yX4_requireKind, .selects RX4 yX4_requireKind yX4_requireKind, .initialized RX4, .code yX4_requireKind cX4_requireKind 2 none, .classLink RX4 41 "java/lang/IndexOutOfBoundsException", .initialized "java/lang/IndexOutOfBoundsException", .methodLink RX4 37 yX1_has, .instanceMethod yX1_has, .selects RX1 yX1_has yX1_has, .initialized RX1, .code yX1_has cX1_has 2 (some .boolean), .fieldLink RX1 15 "KindGuesser$KindTree" "count" "I", .methodLink RX4 123 yX1_leadsUp, .instanceMethod yX1_leadsUp, .selects RX1 yX1_leadsUp yX1_leadsUp, .code yX1_leadsUp cX1_leadsUp 5 (some .boolean), .methodLink RX1 23 yX1_parentOf, .instanceMethod yX1_parentOf, .selects RX1 yX1_parentOf yX1_parentOf, .code yX1_parentOf cX1_parentOf 2 (some .int), .fieldLink RX1 9 "KindGuesser$KindTree" "parents" "[I", .methodLink RX1 19 yX1_has] ++ wsX40 ++ wsX10 ++ (vx_atS RX4 45 "java/lang/IndexOutOfBoundsException" ["java/lang/RuntimeException", "java/lang/Exception"]).filter goodWord)
def wsX4_letter : List Cond := .code yX4_letter cX4_letter 2 (some .int) :: ([.classLink RX4 52 "java/lang/IllegalStateException", .initialized "java/lang/IllegalStateException", .fieldLink RX4 19 "KindGuesser" "nameSide" "LKindGuesser$NameSide;", .methodLink RX4 65 yX4_requireRange, .static yX4_requireRange, .initialized RX4, .code yX4_requireRange cX4_requireRange 3 none, .methodLink RX4 69 yX4_requireArgument, .static yX4_requireArgument, .code yX4_requireArgument cX4_requireArgument 1 none, .classLink RX4 209 "java/lang/IllegalArgumentException", .initialized "java/lang/IllegalArgumentException", .methodLink RX4 127 yX2_isFullOfLetters, .instanceMethod yX2_isFullOfLetters, .selects RX2 yX2_isFullOfLetters yX2_isFullOfLetters, .initialized RX2, .code yX2_isFullOfLetters cX2_isFullOfLetters 1 (some .boolean), .fieldLink RX2 15 "KindGuesser$NameSide" "letterCount" "I", .methodLink RX4 132 yX2_addLetter, .instanceMethod yX2_addLetter, .selects RX2 yX2_addLetter yX2_addLetter, .code yX2_addLetter cX2_addLetter 2 (some .int), .fieldLink RX2 9 "KindGuesser$NameSide" "letters" "[I"] ++ wsX40 ++ wsX20 ++ (vx_atS RX4 56 "java/lang/IllegalStateException" ["java/lang/RuntimeException", "java/lang/Exception"]).filter goodWord ++ (vx_atS RX4 213 "java/lang/IllegalArgumentException" ["java/lang/RuntimeException", "java/lang/Exception"]).filter goodWord)
def wsX4_put : List Cond := .code yX4_put cX4_put 2 (some .int) :: ([.classLink RX4 52 "java/lang/IllegalStateException", .initialized "java/lang/IllegalStateException", .fieldLink RX4 26 "KindGuesser" "byteSide" "LKindGuesser$ByteSide;", .methodLink RX4 65 yX4_requireRange, .static yX4_requireRange, .initialized RX4, .code yX4_requireRange cX4_requireRange 3 none, .methodLink RX4 69 yX4_requireArgument, .static yX4_requireArgument, .code yX4_requireArgument cX4_requireArgument 1 none, .classLink RX4 209 "java/lang/IllegalArgumentException", .initialized "java/lang/IllegalArgumentException", .methodLink RX4 135 yX0_isFullOfBytes, .instanceMethod yX0_isFullOfBytes, .selects RX0 yX0_isFullOfBytes yX0_isFullOfBytes, .initialized RX0, .code yX0_isFullOfBytes cX0_isFullOfBytes 1 (some .boolean), .fieldLink RX0 15 "KindGuesser$ByteSide" "byteCount" "I", .methodLink RX4 140 yX0_addByte, .instanceMethod yX0_addByte, .selects RX0 yX0_addByte yX0_addByte, .code yX0_addByte cX0_addByte 2 (some .int), .fieldLink RX0 9 "KindGuesser$ByteSide" "values" "[I"] ++ wsX40 ++ wsX00 ++ (vx_atS RX4 56 "java/lang/IllegalStateException" ["java/lang/RuntimeException", "java/lang/Exception"]).filter goodWord ++ (vx_atS RX4 213 "java/lang/IllegalArgumentException" ["java/lang/RuntimeException", "java/lang/Exception"]).filter goodWord)
def wsX4_empty : List Cond := .code yX4_empty cX4_empty 1 (some .int) :: ([.fieldLink RX4 19 "KindGuesser" "nameSide" "LKindGuesser$NameSide;", .fieldLink RX4 26 "KindGuesser" "byteSide" "LKindGuesser$ByteSide;", .methodLink RX4 143 yX2_clearName, .instanceMethod yX2_clearName, .selects RX2 yX2_clearName yX2_clearName, .initialized RX2, .code yX2_clearName cX2_clearName 2 (some .int), .fieldLink RX2 15 "KindGuesser$NameSide" "letterCount" "I", .methodLink RX4 146 yX0_clearBytes, .instanceMethod yX0_clearBytes, .selects RX0 yX0_clearBytes yX0_clearBytes, .initialized RX0, .code yX0_clearBytes cX0_clearBytes 2 (some .int), .fieldLink RX0 15 "KindGuesser$ByteSide" "byteCount" "I"] ++ wsX40 ++ wsX20 ++ wsX00)
def wsX4_fits_r1 : List Cond := [Cond.fieldLink RX4 19 "KindGuesser" "nameSide" "LKindGuesser$NameSide;", Cond.methodLink RX4 89 yX4_requirePattern, Cond.instanceMethod yX4_requirePattern, Cond.selects RX4 yX4_requirePattern yX4_requirePattern, Cond.initialized RX4, Cond.code yX4_requirePattern cX4_requirePattern 2 none, Cond.classLink RX4 41 "java/lang/IndexOutOfBoundsException", Cond.initialized "java/lang/IndexOutOfBoundsException", Cond.methodLink RX4 199 yX2_hasPattern, Cond.instanceMethod yX2_hasPattern, Cond.selects RX2 yX2_hasPattern yX2_hasPattern, Cond.initialized RX2, Cond.code yX2_hasPattern cX2_hasPattern 2 (some .boolean), Cond.fieldLink RX2 35 "KindGuesser$NameSide" "patternCount" "I", Cond.fieldLink RX2 28 "KindGuesser$NameSide" "there" "[Z", Cond.methodLink RX4 149 yX2_fitsName, Cond.instanceMethod yX2_fitsName, Cond.selects RX2 yX2_fitsName yX2_fitsName, Cond.code yX2_fitsName cX2_fitsName 5 (some .boolean), Cond.fieldLink RX2 25 "KindGuesser$NameSide" "lengths" "[I", Cond.fieldLink RX2 32 "KindGuesser$NameSide" "tokenRows" "[I", Cond.fieldLink RX2 15 "KindGuesser$NameSide" "letterCount" "I", Cond.methodLink RX2 64 yX2_reachedAfter, Cond.instanceMethod yX2_reachedAfter]
def wsX4_fits_r2 : List Cond := [Cond.selects RX2 yX2_reachedAfter yX2_reachedAfter, Cond.code yX2_reachedAfter cX2_reachedAfter 6 (some .int), Cond.methodLink RX2 68 yX2_isReached, Cond.static yX2_isReached, Cond.code yX2_isReached cX2_isReached 2 (some .boolean), Cond.methodLink RX2 71 yX2_standsFor, Cond.instanceMethod yX2_standsFor, Cond.selects RX2 yX2_standsFor yX2_standsFor, Cond.code yX2_standsFor cX2_standsFor 3 (some .boolean), Cond.fieldLink RX2 9 "KindGuesser$NameSide" "letters" "[I"]
def wsX4_fits : List Cond := .code yX4_fits cX4_fits 2 (some .boolean) :: ((wsX4_fits_r1 ++ wsX4_fits_r2) ++ wsX40 ++ wsX20 ++ (vx_atS RX4 45 "java/lang/IndexOutOfBoundsException" ["java/lang/RuntimeException", "java/lang/Exception"]).filter goodWord)
def wsX4_fitsByTable_r1 : List Cond := [Cond.fieldLink RX4 19 "KindGuesser" "nameSide" "LKindGuesser$NameSide;", Cond.methodLink RX4 89 yX4_requirePattern, Cond.instanceMethod yX4_requirePattern, Cond.selects RX4 yX4_requirePattern yX4_requirePattern, Cond.initialized RX4, Cond.code yX4_requirePattern cX4_requirePattern 2 none, Cond.classLink RX4 41 "java/lang/IndexOutOfBoundsException", Cond.initialized "java/lang/IndexOutOfBoundsException", Cond.methodLink RX4 199 yX2_hasPattern, Cond.instanceMethod yX2_hasPattern, Cond.selects RX2 yX2_hasPattern yX2_hasPattern, Cond.initialized RX2, Cond.code yX2_hasPattern cX2_hasPattern 2 (some .boolean), Cond.fieldLink RX2 35 "KindGuesser$NameSide" "patternCount" "I", Cond.fieldLink RX2 28 "KindGuesser$NameSide" "there" "[Z", Cond.methodLink RX4 152 yX2_fitsNameByTable, Cond.instanceMethod yX2_fitsNameByTable, Cond.selects RX2 yX2_fitsNameByTable yX2_fitsNameByTable, Cond.code yX2_fitsNameByTable cX2_fitsNameByTable 4 (some .boolean), Cond.fieldLink RX2 25 "KindGuesser$NameSide" "lengths" "[I", Cond.fieldLink RX2 41 "KindGuesser$NameSide" "table" "[Z", Cond.fieldLink RX2 32 "KindGuesser$NameSide" "tokenRows" "[I", Cond.fieldLink RX2 15 "KindGuesser$NameSide" "letterCount" "I", Cond.methodLink RX2 74 yX2_fillLine]
def wsX4_fitsByTable_r2 : List Cond := [Cond.instanceMethod yX2_fillLine, Cond.selects RX2 yX2_fillLine yX2_fillLine, Cond.code yX2_fillLine cX2_fillLine 6 none, Cond.methodLink RX2 71 yX2_standsFor, Cond.instanceMethod yX2_standsFor, Cond.selects RX2 yX2_standsFor yX2_standsFor, Cond.code yX2_standsFor cX2_standsFor 3 (some .boolean), Cond.fieldLink RX2 9 "KindGuesser$NameSide" "letters" "[I"]
def wsX4_fitsByTable : List Cond := .code yX4_fitsByTable cX4_fitsByTable 2 (some .boolean) :: ((wsX4_fitsByTable_r1 ++ wsX4_fitsByTable_r2) ++ wsX40 ++ wsX20 ++ (vx_atS RX4 45 "java/lang/IndexOutOfBoundsException" ["java/lang/RuntimeException", "java/lang/Exception"]).filter goodWord)
def wsX4_proves_r1 : List Cond := [Cond.fieldLink RX4 26 "KindGuesser" "byteSide" "LKindGuesser$ByteSide;", Cond.methodLink RX4 104 yX4_requireRule, Cond.instanceMethod yX4_requireRule, Cond.selects RX4 yX4_requireRule yX4_requireRule, Cond.initialized RX4, Cond.code yX4_requireRule cX4_requireRule 2 none, Cond.classLink RX4 41 "java/lang/IndexOutOfBoundsException", Cond.initialized "java/lang/IndexOutOfBoundsException", Cond.methodLink RX4 204 yX0_hasRule, Cond.instanceMethod yX0_hasRule, Cond.selects RX0 yX0_hasRule yX0_hasRule, Cond.initialized RX0, Cond.code yX0_hasRule cX0_hasRule 2 (some .boolean), Cond.fieldLink RX0 28 "KindGuesser$ByteSide" "ruleCount" "I", Cond.methodLink RX4 155 yX0_provesKind, Cond.instanceMethod yX0_provesKind, Cond.selects RX0 yX0_provesKind yX0_provesKind, Cond.code yX0_provesKind cX0_provesKind 6 (some .boolean), Cond.fieldLink RX0 25 "KindGuesser$ByteSide" "testCounts" "[I", Cond.fieldLink RX0 46 "KindGuesser$ByteSide" "leads" "[Z", Cond.fieldLink RX0 31 "KindGuesser$ByteSide" "levels" "[I", Cond.methodLink RX0 60 yX0_holds, Cond.instanceMethod yX0_holds, Cond.selects RX0 yX0_holds yX0_holds]
def wsX4_proves_r2 : List Cond := [Cond.code yX0_holds cX0_holds 3 (some .boolean), Cond.fieldLink RX0 34 "KindGuesser$ByteSide" "froms" "[I", Cond.fieldLink RX0 37 "KindGuesser$ByteSide" "tos" "[I", Cond.fieldLink RX0 15 "KindGuesser$ByteSide" "byteCount" "I", Cond.fieldLink RX0 9 "KindGuesser$ByteSide" "values" "[I", Cond.fieldLink RX0 43 "KindGuesser$ByteSide" "masks" "[I", Cond.fieldLink RX0 40 "KindGuesser$ByteSide" "wanted" "[I", Cond.methodLink RX0 63 yX0_leadsBelow, Cond.instanceMethod yX0_leadsBelow, Cond.selects RX0 yX0_leadsBelow yX0_leadsBelow, Cond.code yX0_leadsBelow cX0_leadsBelow 6 (some .boolean)]
def wsX4_proves : List Cond := .code yX4_proves cX4_proves 2 (some .boolean) :: ((wsX4_proves_r1 ++ wsX4_proves_r2) ++ wsX40 ++ wsX00 ++ (vx_atS RX4 45 "java/lang/IndexOutOfBoundsException" ["java/lang/RuntimeException", "java/lang/Exception"]).filter goodWord)
def wsX4_byName_r1 : List Cond := [Cond.fieldLink RX4 19 "KindGuesser" "nameSide" "LKindGuesser$NameSide;", Cond.fieldLink RX4 10 "KindGuesser" "tree" "LKindGuesser$KindTree;", Cond.methodLink RX4 158 yX2_firstFitting, Cond.instanceMethod yX2_firstFitting, Cond.selects RX2 yX2_firstFitting yX2_firstFitting, Cond.initialized RX2, Cond.code yX2_firstFitting cX2_firstFitting 6 (some .int), Cond.fieldLink RX2 35 "KindGuesser$NameSide" "patternCount" "I", Cond.fieldLink RX2 28 "KindGuesser$NameSide" "there" "[Z", Cond.methodLink RX2 48 yX2_isAhead, Cond.instanceMethod yX2_isAhead, Cond.selects RX2 yX2_isAhead yX2_isAhead, Cond.code yX2_isAhead cX2_isAhead 3 (some .boolean), Cond.fieldLink RX2 22 "KindGuesser$NameSide" "weights" "[I", Cond.fieldLink RX2 25 "KindGuesser$NameSide" "lengths" "[I", Cond.methodLink RX2 52 yX2_isOf, Cond.instanceMethod yX2_isOf, Cond.selects RX2 yX2_isOf yX2_isOf, Cond.code yX2_isOf cX2_isOf 4 (some .boolean), Cond.fieldLink RX2 19 "KindGuesser$NameSide" "kindsOfPatterns" "[I", Cond.methodLink RX2 59 yX1_leadsUp, Cond.instanceMethod yX1_leadsUp, Cond.selects RX1 yX1_leadsUp yX1_leadsUp, Cond.initialized RX1]
def wsX4_byName_r2 : List Cond := [Cond.code yX1_leadsUp cX1_leadsUp 5 (some .boolean), Cond.methodLink RX1 23 yX1_parentOf, Cond.instanceMethod yX1_parentOf, Cond.selects RX1 yX1_parentOf yX1_parentOf, Cond.code yX1_parentOf cX1_parentOf 2 (some .int), Cond.fieldLink RX1 9 "KindGuesser$KindTree" "parents" "[I", Cond.methodLink RX1 19 yX1_has, Cond.instanceMethod yX1_has, Cond.selects RX1 yX1_has yX1_has, Cond.code yX1_has cX1_has 2 (some .boolean), Cond.fieldLink RX1 15 "KindGuesser$KindTree" "count" "I", Cond.methodLink RX2 56 yX2_fitsName, Cond.instanceMethod yX2_fitsName, Cond.selects RX2 yX2_fitsName yX2_fitsName, Cond.code yX2_fitsName cX2_fitsName 5 (some .boolean), Cond.fieldLink RX2 32 "KindGuesser$NameSide" "tokenRows" "[I", Cond.fieldLink RX2 15 "KindGuesser$NameSide" "letterCount" "I", Cond.methodLink RX2 64 yX2_reachedAfter, Cond.instanceMethod yX2_reachedAfter, Cond.selects RX2 yX2_reachedAfter yX2_reachedAfter, Cond.code yX2_reachedAfter cX2_reachedAfter 6 (some .int), Cond.methodLink RX2 68 yX2_isReached, Cond.static yX2_isReached, Cond.code yX2_isReached cX2_isReached 2 (some .boolean)]
def wsX4_byName_r3 : List Cond := [Cond.methodLink RX2 71 yX2_standsFor, Cond.instanceMethod yX2_standsFor, Cond.selects RX2 yX2_standsFor yX2_standsFor, Cond.code yX2_standsFor cX2_standsFor 3 (some .boolean), Cond.fieldLink RX2 9 "KindGuesser$NameSide" "letters" "[I", Cond.methodLink RX4 162 yX2_kindOf, Cond.instanceMethod yX2_kindOf, Cond.selects RX2 yX2_kindOf yX2_kindOf, Cond.code yX2_kindOf cX2_kindOf 2 (some .int), Cond.methodLink RX2 44 yX2_hasPattern, Cond.instanceMethod yX2_hasPattern, Cond.selects RX2 yX2_hasPattern yX2_hasPattern, Cond.code yX2_hasPattern cX2_hasPattern 2 (some .boolean)]
def wsX4_byName : List Cond := .code yX4_byName cX4_byName 1 (some .int) :: ((wsX4_byName_r1 ++ (wsX4_byName_r2 ++ wsX4_byName_r3)) ++ wsX40 ++ wsX20 ++ wsX10)
def wsX4_byBytes_r1 : List Cond := [Cond.fieldLink RX4 26 "KindGuesser" "byteSide" "LKindGuesser$ByteSide;", Cond.methodLink RX4 165 yX0_provingRule, Cond.instanceMethod yX0_provingRule, Cond.selects RX0 yX0_provingRule yX0_provingRule, Cond.initialized RX0, Cond.code yX0_provingRule cX0_provingRule 4 (some .int), Cond.fieldLink RX0 28 "KindGuesser$ByteSide" "ruleCount" "I", Cond.fieldLink RX0 22 "KindGuesser$ByteSide" "priorities" "[I", Cond.methodLink RX0 57 yX0_provesKind, Cond.instanceMethod yX0_provesKind, Cond.selects RX0 yX0_provesKind yX0_provesKind, Cond.code yX0_provesKind cX0_provesKind 6 (some .boolean), Cond.fieldLink RX0 25 "KindGuesser$ByteSide" "testCounts" "[I", Cond.fieldLink RX0 46 "KindGuesser$ByteSide" "leads" "[Z", Cond.fieldLink RX0 31 "KindGuesser$ByteSide" "levels" "[I", Cond.methodLink RX0 60 yX0_holds, Cond.instanceMethod yX0_holds, Cond.selects RX0 yX0_holds yX0_holds, Cond.code yX0_holds cX0_holds 3 (some .boolean), Cond.fieldLink RX0 34 "KindGuesser$ByteSide" "froms" "[I", Cond.fieldLink RX0 37 "KindGuesser$ByteSide" "tos" "[I", Cond.fieldLink RX0 15 "KindGuesser$ByteSide" "byteCount" "I", Cond.fieldLink RX0 9 "KindGuesser$ByteSide" "values" "[I", Cond.fieldLink RX0 43 "KindGuesser$ByteSide" "masks" "[I"]
def wsX4_byBytes_r2 : List Cond := [Cond.fieldLink RX0 40 "KindGuesser$ByteSide" "wanted" "[I", Cond.methodLink RX0 63 yX0_leadsBelow, Cond.instanceMethod yX0_leadsBelow, Cond.selects RX0 yX0_leadsBelow yX0_leadsBelow, Cond.code yX0_leadsBelow cX0_leadsBelow 6 (some .boolean), Cond.methodLink RX4 168 yX0_kindOf, Cond.instanceMethod yX0_kindOf, Cond.selects RX0 yX0_kindOf yX0_kindOf, Cond.code yX0_kindOf cX0_kindOf 2 (some .int), Cond.fieldLink RX0 19 "KindGuesser$ByteSide" "kindsOfRules" "[I", Cond.methodLink RX0 54 yX0_hasRule, Cond.instanceMethod yX0_hasRule, Cond.selects RX0 yX0_hasRule yX0_hasRule, Cond.code yX0_hasRule cX0_hasRule 2 (some .boolean)]
def wsX4_byBytes : List Cond := .code yX4_byBytes cX4_byBytes 1 (some .int) :: ((wsX4_byBytes_r1 ++ wsX4_byBytes_r2) ++ wsX40 ++ wsX00)
def wsX4_guessWithBytes_r1 : List Cond := [Cond.fieldLink RX4 26 "KindGuesser" "byteSide" "LKindGuesser$ByteSide;", Cond.fieldLink RX4 19 "KindGuesser" "nameSide" "LKindGuesser$NameSide;", Cond.fieldLink RX4 10 "KindGuesser" "tree" "LKindGuesser$KindTree;", Cond.methodLink RX4 168 yX0_kindOf, Cond.instanceMethod yX0_kindOf, Cond.selects RX0 yX0_kindOf yX0_kindOf, Cond.initialized RX0, Cond.code yX0_kindOf cX0_kindOf 2 (some .int), Cond.fieldLink RX0 19 "KindGuesser$ByteSide" "kindsOfRules" "[I", Cond.methodLink RX0 54 yX0_hasRule, Cond.instanceMethod yX0_hasRule, Cond.selects RX0 yX0_hasRule yX0_hasRule, Cond.code yX0_hasRule cX0_hasRule 2 (some .boolean), Cond.fieldLink RX0 28 "KindGuesser$ByteSide" "ruleCount" "I", Cond.methodLink RX4 158 yX2_firstFitting, Cond.instanceMethod yX2_firstFitting, Cond.selects RX2 yX2_firstFitting yX2_firstFitting, Cond.initialized RX2, Cond.code yX2_firstFitting cX2_firstFitting 6 (some .int), Cond.fieldLink RX2 35 "KindGuesser$NameSide" "patternCount" "I", Cond.fieldLink RX2 28 "KindGuesser$NameSide" "there" "[Z", Cond.methodLink RX2 48 yX2_isAhead, Cond.instanceMethod yX2_isAhead, Cond.selects RX2 yX2_isAhead yX2_isAhead]
def wsX4_guessWithBytes_r2 : List Cond := [Cond.code yX2_isAhead cX2_isAhead 3 (some .boolean), Cond.fieldLink RX2 22 "KindGuesser$NameSide" "weights" "[I", Cond.fieldLink RX2 25 "KindGuesser$NameSide" "lengths" "[I", Cond.methodLink RX2 52 yX2_isOf, Cond.instanceMethod yX2_isOf, Cond.selects RX2 yX2_isOf yX2_isOf, Cond.code yX2_isOf cX2_isOf 4 (some .boolean), Cond.fieldLink RX2 19 "KindGuesser$NameSide" "kindsOfPatterns" "[I", Cond.methodLink RX2 59 yX1_leadsUp, Cond.instanceMethod yX1_leadsUp, Cond.selects RX1 yX1_leadsUp yX1_leadsUp, Cond.initialized RX1, Cond.code yX1_leadsUp cX1_leadsUp 5 (some .boolean), Cond.methodLink RX1 23 yX1_parentOf, Cond.instanceMethod yX1_parentOf, Cond.selects RX1 yX1_parentOf yX1_parentOf, Cond.code yX1_parentOf cX1_parentOf 2 (some .int), Cond.fieldLink RX1 9 "KindGuesser$KindTree" "parents" "[I", Cond.methodLink RX1 19 yX1_has, Cond.instanceMethod yX1_has, Cond.selects RX1 yX1_has yX1_has, Cond.code yX1_has cX1_has 2 (some .boolean), Cond.fieldLink RX1 15 "KindGuesser$KindTree" "count" "I", Cond.methodLink RX2 56 yX2_fitsName]
def wsX4_guessWithBytes_r3 : List Cond := [Cond.instanceMethod yX2_fitsName, Cond.selects RX2 yX2_fitsName yX2_fitsName, Cond.code yX2_fitsName cX2_fitsName 5 (some .boolean), Cond.fieldLink RX2 32 "KindGuesser$NameSide" "tokenRows" "[I", Cond.fieldLink RX2 15 "KindGuesser$NameSide" "letterCount" "I", Cond.methodLink RX2 64 yX2_reachedAfter, Cond.instanceMethod yX2_reachedAfter, Cond.selects RX2 yX2_reachedAfter yX2_reachedAfter, Cond.code yX2_reachedAfter cX2_reachedAfter 6 (some .int), Cond.methodLink RX2 68 yX2_isReached, Cond.static yX2_isReached, Cond.code yX2_isReached cX2_isReached 2 (some .boolean), Cond.methodLink RX2 71 yX2_standsFor, Cond.instanceMethod yX2_standsFor, Cond.selects RX2 yX2_standsFor yX2_standsFor, Cond.code yX2_standsFor cX2_standsFor 3 (some .boolean), Cond.fieldLink RX2 9 "KindGuesser$NameSide" "letters" "[I", Cond.methodLink RX4 162 yX2_kindOf, Cond.instanceMethod yX2_kindOf, Cond.selects RX2 yX2_kindOf yX2_kindOf, Cond.code yX2_kindOf cX2_kindOf 2 (some .int), Cond.methodLink RX2 44 yX2_hasPattern, Cond.instanceMethod yX2_hasPattern, Cond.selects RX2 yX2_hasPattern yX2_hasPattern]
def wsX4_guessWithBytes_r4 : List Cond := [Cond.code yX2_hasPattern cX2_hasPattern 2 (some .boolean), Cond.methodLink RX4 175 yX0_isStrong, Cond.instanceMethod yX0_isStrong, Cond.selects RX0 yX0_isStrong yX0_isStrong, Cond.code yX0_isStrong cX0_isStrong 2 (some .boolean), Cond.fieldLink RX0 22 "KindGuesser$ByteSide" "priorities" "[I"]
def wsX4_guessWithBytes : List Cond := .code yX4_guessWithBytes cX4_guessWithBytes 5 (some .int) :: ((wsX4_guessWithBytes_r1 ++ (wsX4_guessWithBytes_r2 ++ (wsX4_guessWithBytes_r3 ++ wsX4_guessWithBytes_r4))) ++ wsX40 ++ wsX00 ++ wsX20 ++ wsX10)
def wsX4_guess_r1 : List Cond := [Cond.fieldLink RX4 26 "KindGuesser" "byteSide" "LKindGuesser$ByteSide;", Cond.fieldLink RX4 19 "KindGuesser" "nameSide" "LKindGuesser$NameSide;", Cond.fieldLink RX4 10 "KindGuesser" "tree" "LKindGuesser$KindTree;", Cond.methodLink RX4 165 yX0_provingRule, Cond.instanceMethod yX0_provingRule, Cond.selects RX0 yX0_provingRule yX0_provingRule, Cond.initialized RX0, Cond.code yX0_provingRule cX0_provingRule 4 (some .int), Cond.fieldLink RX0 28 "KindGuesser$ByteSide" "ruleCount" "I", Cond.fieldLink RX0 22 "KindGuesser$ByteSide" "priorities" "[I", Cond.methodLink RX0 57 yX0_provesKind, Cond.instanceMethod yX0_provesKind, Cond.selects RX0 yX0_provesKind yX0_provesKind, Cond.code yX0_provesKind cX0_provesKind 6 (some .boolean), Cond.fieldLink RX0 25 "KindGuesser$ByteSide" "testCounts" "[I", Cond.fieldLink RX0 46 "KindGuesser$ByteSide" "leads" "[Z", Cond.fieldLink RX0 31 "KindGuesser$ByteSide" "levels" "[I", Cond.methodLink RX0 60 yX0_holds, Cond.instanceMethod yX0_holds, Cond.selects RX0 yX0_holds yX0_holds, Cond.code yX0_holds cX0_holds 3 (some .boolean), Cond.fieldLink RX0 34 "KindGuesser$ByteSide" "froms" "[I", Cond.fieldLink RX0 37 "KindGuesser$ByteSide" "tos" "[I", Cond.fieldLink RX0 15 "KindGuesser$ByteSide" "byteCount" "I"]
def wsX4_guess_r2 : List Cond := [Cond.fieldLink RX0 9 "KindGuesser$ByteSide" "values" "[I", Cond.fieldLink RX0 43 "KindGuesser$ByteSide" "masks" "[I", Cond.fieldLink RX0 40 "KindGuesser$ByteSide" "wanted" "[I", Cond.methodLink RX0 63 yX0_leadsBelow, Cond.instanceMethod yX0_leadsBelow, Cond.selects RX0 yX0_leadsBelow yX0_leadsBelow, Cond.code yX0_leadsBelow cX0_leadsBelow 6 (some .boolean), Cond.methodLink RX4 158 yX2_firstFitting, Cond.instanceMethod yX2_firstFitting, Cond.selects RX2 yX2_firstFitting yX2_firstFitting, Cond.initialized RX2, Cond.code yX2_firstFitting cX2_firstFitting 6 (some .int), Cond.fieldLink RX2 35 "KindGuesser$NameSide" "patternCount" "I", Cond.fieldLink RX2 28 "KindGuesser$NameSide" "there" "[Z", Cond.methodLink RX2 48 yX2_isAhead, Cond.instanceMethod yX2_isAhead, Cond.selects RX2 yX2_isAhead yX2_isAhead, Cond.code yX2_isAhead cX2_isAhead 3 (some .boolean), Cond.fieldLink RX2 22 "KindGuesser$NameSide" "weights" "[I", Cond.fieldLink RX2 25 "KindGuesser$NameSide" "lengths" "[I", Cond.methodLink RX2 52 yX2_isOf, Cond.instanceMethod yX2_isOf, Cond.selects RX2 yX2_isOf yX2_isOf, Cond.code yX2_isOf cX2_isOf 4 (some .boolean)]
def wsX4_guess_r3 : List Cond := [Cond.fieldLink RX2 19 "KindGuesser$NameSide" "kindsOfPatterns" "[I", Cond.methodLink RX2 59 yX1_leadsUp, Cond.instanceMethod yX1_leadsUp, Cond.selects RX1 yX1_leadsUp yX1_leadsUp, Cond.initialized RX1, Cond.code yX1_leadsUp cX1_leadsUp 5 (some .boolean), Cond.methodLink RX1 23 yX1_parentOf, Cond.instanceMethod yX1_parentOf, Cond.selects RX1 yX1_parentOf yX1_parentOf, Cond.code yX1_parentOf cX1_parentOf 2 (some .int), Cond.fieldLink RX1 9 "KindGuesser$KindTree" "parents" "[I", Cond.methodLink RX1 19 yX1_has, Cond.instanceMethod yX1_has, Cond.selects RX1 yX1_has yX1_has, Cond.code yX1_has cX1_has 2 (some .boolean), Cond.fieldLink RX1 15 "KindGuesser$KindTree" "count" "I", Cond.methodLink RX2 56 yX2_fitsName, Cond.instanceMethod yX2_fitsName, Cond.selects RX2 yX2_fitsName yX2_fitsName, Cond.code yX2_fitsName cX2_fitsName 5 (some .boolean), Cond.fieldLink RX2 32 "KindGuesser$NameSide" "tokenRows" "[I", Cond.fieldLink RX2 15 "KindGuesser$NameSide" "letterCount" "I", Cond.methodLink RX2 64 yX2_reachedAfter, Cond.instanceMethod yX2_reachedAfter]
def wsX4_guess_r4 : List Cond := [Cond.selects RX2 yX2_reachedAfter yX2_reachedAfter, Cond.code yX2_reachedAfter cX2_reachedAfter 6 (some .int), Cond.methodLink RX2 68 yX2_isReached, Cond.static yX2_isReached, Cond.code yX2_isReached cX2_isReached 2 (some .boolean), Cond.methodLink RX2 71 yX2_standsFor, Cond.instanceMethod yX2_standsFor, Cond.selects RX2 yX2_standsFor yX2_standsFor, Cond.code yX2_standsFor cX2_standsFor 3 (some .boolean), Cond.fieldLink RX2 9 "KindGuesser$NameSide" "letters" "[I", Cond.methodLink RX4 169 yX4_guessWithBytes, Cond.instanceMethod yX4_guessWithBytes, Cond.selects RX4 yX4_guessWithBytes yX4_guessWithBytes, Cond.initialized RX4, Cond.code yX4_guessWithBytes cX4_guessWithBytes 5 (some .int), Cond.methodLink RX4 168 yX0_kindOf, Cond.instanceMethod yX0_kindOf, Cond.selects RX0 yX0_kindOf yX0_kindOf, Cond.code yX0_kindOf cX0_kindOf 2 (some .int), Cond.fieldLink RX0 19 "KindGuesser$ByteSide" "kindsOfRules" "[I", Cond.methodLink RX0 54 yX0_hasRule, Cond.instanceMethod yX0_hasRule, Cond.selects RX0 yX0_hasRule yX0_hasRule, Cond.code yX0_hasRule cX0_hasRule 2 (some .boolean)]
def wsX4_guess_r5 : List Cond := [Cond.methodLink RX4 162 yX2_kindOf, Cond.instanceMethod yX2_kindOf, Cond.selects RX2 yX2_kindOf yX2_kindOf, Cond.code yX2_kindOf cX2_kindOf 2 (some .int), Cond.methodLink RX2 44 yX2_hasPattern, Cond.instanceMethod yX2_hasPattern, Cond.selects RX2 yX2_hasPattern yX2_hasPattern, Cond.code yX2_hasPattern cX2_hasPattern 2 (some .boolean), Cond.methodLink RX4 175 yX0_isStrong, Cond.instanceMethod yX0_isStrong, Cond.selects RX0 yX0_isStrong yX0_isStrong, Cond.code yX0_isStrong cX0_isStrong 2 (some .boolean), Cond.methodLink RX4 172 yX0_isText, Cond.instanceMethod yX0_isText, Cond.selects RX0 yX0_isText yX0_isText, Cond.code yX0_isText cX0_isText 2 (some .boolean), Cond.methodLink RX0 50 yX0_isTextByte, Cond.static yX0_isTextByte, Cond.code yX0_isTextByte cX0_isTextByte 1 (some .boolean)]
def wsX4_guess : List Cond := .code yX4_guess cX4_guess 3 (some .int) :: ((wsX4_guess_r1 ++ (wsX4_guess_r2 ++ (wsX4_guess_r3 ++ (wsX4_guess_r4 ++ wsX4_guess_r5)))) ++ wsX40 ++ wsX00 ++ wsX20 ++ wsX10)
def wsX4_program_r1 : List Cond := [Cond.fieldLink RX4 33 "KindGuesser" "programLists" "LKindGuesser$ProgramLists;", Cond.methodLink RX4 61 yX4_requireKind, Cond.instanceMethod yX4_requireKind, Cond.selects RX4 yX4_requireKind yX4_requireKind, Cond.initialized RX4, Cond.code yX4_requireKind cX4_requireKind 2 none, Cond.classLink RX4 41 "java/lang/IndexOutOfBoundsException", Cond.initialized "java/lang/IndexOutOfBoundsException", Cond.fieldLink RX4 10 "KindGuesser" "tree" "LKindGuesser$KindTree;", Cond.methodLink RX4 37 yX1_has, Cond.instanceMethod yX1_has, Cond.selects RX1 yX1_has yX1_has, Cond.initialized RX1, Cond.code yX1_has cX1_has 2 (some .boolean), Cond.fieldLink RX1 15 "KindGuesser$KindTree" "count" "I", Cond.methodLink RX4 65 yX4_requireRange, Cond.static yX4_requireRange, Cond.code yX4_requireRange cX4_requireRange 3 none, Cond.methodLink RX4 69 yX4_requireArgument, Cond.static yX4_requireArgument, Cond.code yX4_requireArgument cX4_requireArgument 1 none, Cond.classLink RX4 209 "java/lang/IllegalArgumentException", Cond.initialized "java/lang/IllegalArgumentException", Cond.methodLink RX4 178 yX3_setStanding]
def wsX4_program_r2 : List Cond := [Cond.instanceMethod yX3_setStanding, Cond.selects RX3 yX3_setStanding yX3_setStanding, Cond.initialized RX3, Cond.code yX3_setStanding cX3_setStanding 7 (some .int), Cond.fieldLink RX3 9 "KindGuesser$ProgramLists" "standings" "[I", Cond.methodLink RX3 24 yX3_placeOf, Cond.static yX3_placeOf, Cond.code yX3_placeOf cX3_placeOf 2 (some .int)]
def wsX4_program : List Cond := .code yX4_program cX4_program 5 (some .int) :: ((wsX4_program_r1 ++ wsX4_program_r2) ++ wsX40 ++ wsX10 ++ wsX30 ++ (vx_atS RX4 45 "java/lang/IndexOutOfBoundsException" ["java/lang/RuntimeException", "java/lang/Exception"]).filter goodWord ++ (vx_atS RX4 213 "java/lang/IllegalArgumentException" ["java/lang/RuntimeException", "java/lang/Exception"]).filter goodWord)
def wsX4_setDefault_r1 : List Cond := [Cond.fieldLink RX4 33 "KindGuesser" "programLists" "LKindGuesser$ProgramLists;", Cond.methodLink RX4 61 yX4_requireKind, Cond.instanceMethod yX4_requireKind, Cond.selects RX4 yX4_requireKind yX4_requireKind, Cond.initialized RX4, Cond.code yX4_requireKind cX4_requireKind 2 none, Cond.classLink RX4 41 "java/lang/IndexOutOfBoundsException", Cond.initialized "java/lang/IndexOutOfBoundsException", Cond.fieldLink RX4 10 "KindGuesser" "tree" "LKindGuesser$KindTree;", Cond.methodLink RX4 37 yX1_has, Cond.instanceMethod yX1_has, Cond.selects RX1 yX1_has yX1_has, Cond.initialized RX1, Cond.code yX1_has cX1_has 2 (some .boolean), Cond.fieldLink RX1 15 "KindGuesser$KindTree" "count" "I", Cond.methodLink RX4 65 yX4_requireRange, Cond.static yX4_requireRange, Cond.code yX4_requireRange cX4_requireRange 3 none, Cond.methodLink RX4 69 yX4_requireArgument, Cond.static yX4_requireArgument, Cond.code yX4_requireArgument cX4_requireArgument 1 none, Cond.classLink RX4 209 "java/lang/IllegalArgumentException", Cond.initialized "java/lang/IllegalArgumentException", Cond.methodLink RX4 182 yX3_setDefaultOf]
def wsX4_setDefault_r2 : List Cond := [Cond.instanceMethod yX3_setDefaultOf, Cond.selects RX3 yX3_setDefaultOf yX3_setDefaultOf, Cond.initialized RX3, Cond.code yX3_setDefaultOf cX3_setDefaultOf 6 (some .int), Cond.fieldLink RX3 15 "KindGuesser$ProgramLists" "defaults" "[I", Cond.methodLink RX3 24 yX3_placeOf, Cond.static yX3_placeOf, Cond.code yX3_placeOf cX3_placeOf 2 (some .int)]
def wsX4_setDefault : List Cond := .code yX4_setDefault cX4_setDefault 4 (some .int) :: ((wsX4_setDefault_r1 ++ wsX4_setDefault_r2) ++ wsX40 ++ wsX10 ++ wsX30 ++ (vx_atS RX4 45 "java/lang/IndexOutOfBoundsException" ["java/lang/RuntimeException", "java/lang/Exception"]).filter goodWord ++ (vx_atS RX4 213 "java/lang/IllegalArgumentException" ["java/lang/RuntimeException", "java/lang/Exception"]).filter goodWord)
def wsX4_programs_r1 : List Cond := [Cond.fieldLink RX4 33 "KindGuesser" "programLists" "LKindGuesser$ProgramLists;", Cond.fieldLink RX4 10 "KindGuesser" "tree" "LKindGuesser$KindTree;", Cond.methodLink RX4 61 yX4_requireKind, Cond.instanceMethod yX4_requireKind, Cond.selects RX4 yX4_requireKind yX4_requireKind, Cond.initialized RX4, Cond.code yX4_requireKind cX4_requireKind 2 none, Cond.classLink RX4 41 "java/lang/IndexOutOfBoundsException", Cond.initialized "java/lang/IndexOutOfBoundsException", Cond.methodLink RX4 37 yX1_has, Cond.instanceMethod yX1_has, Cond.selects RX1 yX1_has yX1_has, Cond.initialized RX1, Cond.code yX1_has cX1_has 2 (some .boolean), Cond.fieldLink RX1 15 "KindGuesser$KindTree" "count" "I", Cond.methodLink RX4 185 yX3_countPrograms, Cond.instanceMethod yX3_countPrograms, Cond.selects RX3 yX3_countPrograms yX3_countPrograms, Cond.initialized RX3, Cond.code yX3_countPrograms cX3_countPrograms 6 (some .int), Cond.methodLink RX3 32 yX3_openersOf, Cond.instanceMethod yX3_openersOf, Cond.selects RX3 yX3_openersOf yX3_openersOf, Cond.code yX3_openersOf cX3_openersOf 4 (some .int)]
def wsX4_programs_r2 : List Cond := [Cond.methodLink RX3 28 yX3_opens, Cond.instanceMethod yX3_opens, Cond.selects RX3 yX3_opens yX3_opens, Cond.code yX3_opens cX3_opens 5 (some .boolean), Cond.fieldLink RX3 9 "KindGuesser$ProgramLists" "standings" "[I", Cond.methodLink RX3 24 yX3_placeOf, Cond.static yX3_placeOf, Cond.code yX3_placeOf cX3_placeOf 2 (some .int), Cond.methodLink RX3 36 yX1_parentOf, Cond.instanceMethod yX1_parentOf, Cond.selects RX1 yX1_parentOf yX1_parentOf, Cond.code yX1_parentOf cX1_parentOf 2 (some .int), Cond.fieldLink RX1 9 "KindGuesser$KindTree" "parents" "[I", Cond.methodLink RX1 19 yX1_has, Cond.methodLink RX3 41 yJ6_bitCount_0f7a4, Cond.static yJ6_bitCount_0f7a4, Cond.initialized RJ6, Cond.code yJ6_bitCount_0f7a4 cJ6_bitCount_0f7a4 1 (some .int), Cond.constant RJ6 265 (1431655765), Cond.constant RJ6 266 (858993459), Cond.constant RJ6 267 (252645135)]
def wsX4_programs : List Cond := .code yX4_programs cX4_programs 2 (some .int) :: ((wsX4_programs_r1 ++ wsX4_programs_r2) ++ wsX40 ++ wsX10 ++ wsX30 ++ (vx_atS RX4 45 "java/lang/IndexOutOfBoundsException" ["java/lang/RuntimeException", "java/lang/Exception"]).filter goodWord)
def wsX4_programAt_r1 : List Cond := [Cond.classLink RX4 41 "java/lang/IndexOutOfBoundsException", Cond.initialized "java/lang/IndexOutOfBoundsException", Cond.fieldLink RX4 33 "KindGuesser" "programLists" "LKindGuesser$ProgramLists;", Cond.fieldLink RX4 10 "KindGuesser" "tree" "LKindGuesser$KindTree;", Cond.methodLink RX4 61 yX4_requireKind, Cond.instanceMethod yX4_requireKind, Cond.selects RX4 yX4_requireKind yX4_requireKind, Cond.initialized RX4, Cond.code yX4_requireKind cX4_requireKind 2 none, Cond.methodLink RX4 37 yX1_has, Cond.instanceMethod yX1_has, Cond.selects RX1 yX1_has yX1_has, Cond.initialized RX1, Cond.code yX1_has cX1_has 2 (some .boolean), Cond.fieldLink RX1 15 "KindGuesser$KindTree" "count" "I", Cond.methodLink RX4 188 yX3_programInOrder, Cond.instanceMethod yX3_programInOrder, Cond.selects RX3 yX3_programInOrder yX3_programInOrder, Cond.initialized RX3, Cond.code yX3_programInOrder cX3_programInOrder 9 (some .int), Cond.methodLink RX3 32 yX3_openersOf, Cond.instanceMethod yX3_openersOf, Cond.selects RX3 yX3_openersOf yX3_openersOf, Cond.code yX3_openersOf cX3_openersOf 4 (some .int)]
def wsX4_programAt_r2 : List Cond := [Cond.methodLink RX3 28 yX3_opens, Cond.instanceMethod yX3_opens, Cond.selects RX3 yX3_opens yX3_opens, Cond.code yX3_opens cX3_opens 5 (some .boolean), Cond.fieldLink RX3 9 "KindGuesser$ProgramLists" "standings" "[I", Cond.methodLink RX3 24 yX3_placeOf, Cond.static yX3_placeOf, Cond.code yX3_placeOf cX3_placeOf 2 (some .int), Cond.methodLink RX3 41 yJ6_bitCount_0f7a4, Cond.static yJ6_bitCount_0f7a4, Cond.initialized RJ6, Cond.code yJ6_bitCount_0f7a4 cJ6_bitCount_0f7a4 1 (some .int), Cond.constant RJ6 265 (1431655765), Cond.constant RJ6 266 (858993459), Cond.constant RJ6 267 (252645135), Cond.methodLink RX3 46 yX3_programOf, Cond.static yX3_programOf, Cond.code yX3_programOf cX3_programOf 4 (some .int), Cond.methodLink RX3 36 yX1_parentOf, Cond.instanceMethod yX1_parentOf, Cond.selects RX1 yX1_parentOf yX1_parentOf, Cond.code yX1_parentOf cX1_parentOf 2 (some .int), Cond.fieldLink RX1 9 "KindGuesser$KindTree" "parents" "[I", Cond.methodLink RX1 19 yX1_has]
def wsX4_programAt : List Cond := .code yX4_programAt cX4_programAt 4 (some .int) :: ((wsX4_programAt_r1 ++ wsX4_programAt_r2) ++ wsX40 ++ wsX10 ++ wsX30 ++ (vx_atS RX4 45 "java/lang/IndexOutOfBoundsException" ["java/lang/RuntimeException", "java/lang/Exception"]).filter goodWord)
def wsX4_opener_r1 : List Cond := [Cond.fieldLink RX4 33 "KindGuesser" "programLists" "LKindGuesser$ProgramLists;", Cond.fieldLink RX4 10 "KindGuesser" "tree" "LKindGuesser$KindTree;", Cond.methodLink RX4 61 yX4_requireKind, Cond.instanceMethod yX4_requireKind, Cond.selects RX4 yX4_requireKind yX4_requireKind, Cond.initialized RX4, Cond.code yX4_requireKind cX4_requireKind 2 none, Cond.classLink RX4 41 "java/lang/IndexOutOfBoundsException", Cond.initialized "java/lang/IndexOutOfBoundsException", Cond.methodLink RX4 37 yX1_has, Cond.instanceMethod yX1_has, Cond.selects RX1 yX1_has yX1_has, Cond.initialized RX1, Cond.code yX1_has cX1_has 2 (some .boolean), Cond.fieldLink RX1 15 "KindGuesser$KindTree" "count" "I", Cond.methodLink RX4 194 yX3_defaultUpward, Cond.instanceMethod yX3_defaultUpward, Cond.selects RX3 yX3_defaultUpward yX3_defaultUpward, Cond.initialized RX3, Cond.code yX3_defaultUpward cX3_defaultUpward 6 (some .int), Cond.methodLink RX3 49 yX3_defaultOf, Cond.instanceMethod yX3_defaultOf, Cond.selects RX3 yX3_defaultOf yX3_defaultOf, Cond.code yX3_defaultOf cX3_defaultOf 4 (some .int)]
def wsX4_opener_r2 : List Cond := [Cond.fieldLink RX3 15 "KindGuesser$ProgramLists" "defaults" "[I", Cond.methodLink RX3 24 yX3_placeOf, Cond.static yX3_placeOf, Cond.code yX3_placeOf cX3_placeOf 2 (some .int), Cond.methodLink RX3 28 yX3_opens, Cond.instanceMethod yX3_opens, Cond.selects RX3 yX3_opens yX3_opens, Cond.code yX3_opens cX3_opens 5 (some .boolean), Cond.fieldLink RX3 9 "KindGuesser$ProgramLists" "standings" "[I", Cond.methodLink RX3 36 yX1_parentOf, Cond.instanceMethod yX1_parentOf, Cond.selects RX1 yX1_parentOf yX1_parentOf, Cond.code yX1_parentOf cX1_parentOf 2 (some .int), Cond.fieldLink RX1 9 "KindGuesser$KindTree" "parents" "[I", Cond.methodLink RX1 19 yX1_has]
def wsX4_opener : List Cond := .code yX4_opener cX4_opener 2 (some .int) :: ((wsX4_opener_r1 ++ wsX4_opener_r2) ++ wsX40 ++ wsX10 ++ wsX30 ++ (vx_atS RX4 45 "java/lang/IndexOutOfBoundsException" ["java/lang/RuntimeException", "java/lang/Exception"]).filter goodWord)
def wsX5_init : List Cond := .code yX5_init cX5_init 1 none :: ([.methodLink RX5 1 objectInit, .instanceMethod objectInit, .code objectInit ⟨#[0xb1]⟩ 1 none, .arrayClass .int, .fieldLink RX5 7 "KindGuesserModel" "parent" "[I", .fieldLink RX5 13 "KindGuesserModel" "patternOf" "[I", .fieldLink RX5 16 "KindGuesserModel" "weight" "[I", .fieldLink RX5 19 "KindGuesserModel" "tokens" "[I", .fieldLink RX5 22 "KindGuesserModel" "token" "[I", .arrayClass .boolean, .fieldLink RX5 25 "KindGuesserModel" "dropped" "[Z", .fieldLink RX5 29 "KindGuesserModel" "ruleOf" "[I", .fieldLink RX5 32 "KindGuesserModel" "priority" "[I", .fieldLink RX5 35 "KindGuesserModel" "tests" "[I", .fieldLink RX5 38 "KindGuesserModel" "level" "[I", .fieldLink RX5 41 "KindGuesserModel" "from" "[I", .fieldLink RX5 44 "KindGuesserModel" "to" "[I", .fieldLink RX5 47 "KindGuesserModel" "value" "[I", .fieldLink RX5 50 "KindGuesserModel" "mask" "[I", .fieldLink RX5 53 "KindGuesserModel" "name" "[I", .fieldLink RX5 56 "KindGuesserModel" "data" "[I", .fieldLink RX5 59 "KindGuesserModel" "stand" "[I", .fieldLink RX5 62 "KindGuesserModel" "usual" "[I"] ++ wsX50)
def wsX5_thrown : List Cond := .code yX5_thrown cX5_thrown 1 (some .int) :: ([.fieldLink RX5 65 "KindGuesserModel" "thrown" "I"] ++ wsX50)
def wsX5_in : List Cond := .code yX5_in cX5_in 3 (some .boolean) :: ([])
def wsX5_asked : List Cond := .code yX5_asked cX5_asked 2 (some .boolean) :: ([.fieldLink RX5 65 "KindGuesserModel" "thrown" "I"] ++ wsX50)
def wsX5_asked_ : List Cond := .code yX5_asked_ cX5_asked_ 3 (some .boolean) :: ([.fieldLink RX5 65 "KindGuesserModel" "thrown" "I"] ++ wsX50)
def wsX5_asked__ : List Cond := .code yX5_asked__ cX5_asked__ 4 (some .boolean) :: ([.fieldLink RX5 65 "KindGuesserModel" "thrown" "I"] ++ wsX50)
def wsX5_told : List Cond := .code yX5_told cX5_told 2 (some .int) :: ([.fieldLink RX5 65 "KindGuesserModel" "thrown" "I"] ++ wsX50)
def wsX5_isKind : List Cond := .code yX5_isKind cX5_isKind 2 (some .boolean) :: ([.fieldLink RX5 69 "KindGuesserModel" "kinds" "I", .methodLink RX5 72 yX5_in, .static yX5_in, .initialized RX5, .code yX5_in cX5_in 3 (some .boolean)] ++ wsX50)
def wsX5_kind : List Cond := .code yX5_kind cX5_kind 2 (some .int) :: ([.fieldLink RX5 69 "KindGuesserModel" "kinds" "I", .fieldLink RX5 7 "KindGuesserModel" "parent" "[I", .methodLink RX5 76 yX5_isKind, .instanceMethod yX5_isKind, .selects RX5 yX5_isKind yX5_isKind, .initialized RX5, .code yX5_isKind cX5_isKind 2 (some .boolean), .methodLink RX5 72 yX5_in, .static yX5_in, .code yX5_in cX5_in 3 (some .boolean), .methodLink RX5 80 yX5_asked_, .instanceMethod yX5_asked_, .selects RX5 yX5_asked_ yX5_asked_, .code yX5_asked_ cX5_asked_ 3 (some .boolean), .fieldLink RX5 65 "KindGuesserModel" "thrown" "I"] ++ wsX50)
def wsX5_digits : List Cond := .code yX5_digits cX5_digits 5 (some .int) :: ([])
def wsX5_pattern : List Cond := .code yX5_pattern cX5_pattern 8 (some .int) :: ([.fieldLink RX5 88 "KindGuesserModel" "patterns" "I", .fieldLink RX5 13 "KindGuesserModel" "patternOf" "[I", .fieldLink RX5 16 "KindGuesserModel" "weight" "[I", .fieldLink RX5 19 "KindGuesserModel" "tokens" "[I", .fieldLink RX5 22 "KindGuesserModel" "token" "[I", .methodLink RX5 72 yX5_in, .static yX5_in, .initialized RX5, .code yX5_in cX5_in 3 (some .boolean), .methodLink RX5 84 yX5_digits, .static yX5_digits, .code yX5_digits cX5_digits 5 (some .int), .methodLink RX5 76 yX5_isKind, .instanceMethod yX5_isKind, .selects RX5 yX5_isKind yX5_isKind, .code yX5_isKind cX5_isKind 2 (some .boolean), .fieldLink RX5 69 "KindGuesserModel" "kinds" "I", .methodLink RX5 91 yX5_asked__, .instanceMethod yX5_asked__, .selects RX5 yX5_asked__ yX5_asked__, .code yX5_asked__ cX5_asked__ 4 (some .boolean), .fieldLink RX5 65 "KindGuesserModel" "thrown" "I"] ++ wsX50)
def wsX5_isThere : List Cond := .code yX5_isThere cX5_isThere 2 (some .boolean) :: ([.fieldLink RX5 88 "KindGuesserModel" "patterns" "I", .fieldLink RX5 25 "KindGuesserModel" "dropped" "[Z", .methodLink RX5 72 yX5_in, .static yX5_in, .initialized RX5, .code yX5_in cX5_in 3 (some .boolean)] ++ wsX50)
def wsX5_drop : List Cond := .code yX5_drop cX5_drop 4 (some .int) :: ([.fieldLink RX5 25 "KindGuesserModel" "dropped" "[Z", .fieldLink RX5 88 "KindGuesserModel" "patterns" "I", .methodLink RX5 94 yX5_isThere, .instanceMethod yX5_isThere, .selects RX5 yX5_isThere yX5_isThere, .initialized RX5, .code yX5_isThere cX5_isThere 2 (some .boolean), .methodLink RX5 72 yX5_in, .static yX5_in, .code yX5_in cX5_in 3 (some .boolean), .methodLink RX5 97 yX5_asked, .instanceMethod yX5_asked, .selects RX5 yX5_asked yX5_asked, .code yX5_asked cX5_asked 2 (some .boolean), .fieldLink RX5 65 "KindGuesserModel" "thrown" "I"] ++ wsX50)
def wsX5_rule : List Cond := .code yX5_rule cX5_rule 3 (some .int) :: ([.fieldLink RX5 100 "KindGuesserModel" "rules" "I", .fieldLink RX5 29 "KindGuesserModel" "ruleOf" "[I", .fieldLink RX5 32 "KindGuesserModel" "priority" "[I", .methodLink RX5 76 yX5_isKind, .instanceMethod yX5_isKind, .selects RX5 yX5_isKind yX5_isKind, .initialized RX5, .code yX5_isKind cX5_isKind 2 (some .boolean), .fieldLink RX5 69 "KindGuesserModel" "kinds" "I", .methodLink RX5 72 yX5_in, .static yX5_in, .code yX5_in cX5_in 3 (some .boolean), .methodLink RX5 91 yX5_asked__, .instanceMethod yX5_asked__, .selects RX5 yX5_asked__ yX5_asked__, .code yX5_asked__ cX5_asked__ 4 (some .boolean), .fieldLink RX5 65 "KindGuesserModel" "thrown" "I"] ++ wsX50)
def wsX5_isRule : List Cond := .code yX5_isRule cX5_isRule 2 (some .boolean) :: ([.fieldLink RX5 100 "KindGuesserModel" "rules" "I", .methodLink RX5 72 yX5_in, .static yX5_in, .initialized RX5, .code yX5_in cX5_in 3 (some .boolean)] ++ wsX50)
def wsX5_test : List Cond := .code yX5_test cX5_test 12 (some .int) :: ([.fieldLink RX5 35 "KindGuesserModel" "tests" "[I", .fieldLink RX5 38 "KindGuesserModel" "level" "[I", .fieldLink RX5 41 "KindGuesserModel" "from" "[I", .fieldLink RX5 44 "KindGuesserModel" "to" "[I", .fieldLink RX5 47 "KindGuesserModel" "value" "[I", .fieldLink RX5 50 "KindGuesserModel" "mask" "[I", .methodLink RX5 103 yX5_isRule, .instanceMethod yX5_isRule, .selects RX5 yX5_isRule yX5_isRule, .initialized RX5, .code yX5_isRule cX5_isRule 2 (some .boolean), .fieldLink RX5 100 "KindGuesserModel" "rules" "I", .methodLink RX5 72 yX5_in, .static yX5_in, .code yX5_in cX5_in 3 (some .boolean), .methodLink RX5 91 yX5_asked__, .instanceMethod yX5_asked__, .selects RX5 yX5_asked__ yX5_asked__, .code yX5_asked__ cX5_asked__ 4 (some .boolean), .fieldLink RX5 65 "KindGuesserModel" "thrown" "I"] ++ wsX50)
def wsX5_kinds : List Cond := .code yX5_kinds cX5_kinds 1 (some .int) :: ([.fieldLink RX5 69 "KindGuesserModel" "kinds" "I", .methodLink RX5 106 yX5_told, .instanceMethod yX5_told, .selects RX5 yX5_told yX5_told, .initialized RX5, .code yX5_told cX5_told 2 (some .int), .fieldLink RX5 65 "KindGuesserModel" "thrown" "I"] ++ wsX50)
def wsX5_special : List Cond := .code yX5_special cX5_special 4 (some .boolean) :: ([.fieldLink RX5 7 "KindGuesserModel" "parent" "[I"] ++ wsX50)
def wsX5_isSpecial : List Cond := .code yX5_isSpecial cX5_isSpecial 3 (some .boolean) :: ([.methodLink RX5 76 yX5_isKind, .instanceMethod yX5_isKind, .selects RX5 yX5_isKind yX5_isKind, .initialized RX5, .code yX5_isKind cX5_isKind 2 (some .boolean), .fieldLink RX5 69 "KindGuesserModel" "kinds" "I", .methodLink RX5 72 yX5_in, .static yX5_in, .code yX5_in cX5_in 3 (some .boolean), .methodLink RX5 97 yX5_asked, .instanceMethod yX5_asked, .selects RX5 yX5_asked yX5_asked, .code yX5_asked cX5_asked 2 (some .boolean), .fieldLink RX5 65 "KindGuesserModel" "thrown" "I", .methodLink RX5 110 yX5_special, .instanceMethod yX5_special, .selects RX5 yX5_special yX5_special, .code yX5_special cX5_special 4 (some .boolean), .fieldLink RX5 7 "KindGuesserModel" "parent" "[I"] ++ wsX50)
def wsX5_letter : List Cond := .code yX5_letter cX5_letter 2 (some .int) :: ([.fieldLink RX5 114 "KindGuesserModel" "letters" "I", .fieldLink RX5 53 "KindGuesserModel" "name" "[I", .methodLink RX5 72 yX5_in, .static yX5_in, .initialized RX5, .code yX5_in cX5_in 3 (some .boolean), .methodLink RX5 80 yX5_asked_, .instanceMethod yX5_asked_, .selects RX5 yX5_asked_ yX5_asked_, .code yX5_asked_ cX5_asked_ 3 (some .boolean), .fieldLink RX5 65 "KindGuesserModel" "thrown" "I"] ++ wsX50)
def wsX5_put : List Cond := .code yX5_put cX5_put 2 (some .int) :: ([.fieldLink RX5 117 "KindGuesserModel" "bytes" "I", .fieldLink RX5 56 "KindGuesserModel" "data" "[I", .methodLink RX5 72 yX5_in, .static yX5_in, .initialized RX5, .code yX5_in cX5_in 3 (some .boolean), .methodLink RX5 80 yX5_asked_, .instanceMethod yX5_asked_, .selects RX5 yX5_asked_ yX5_asked_, .code yX5_asked_ cX5_asked_ 3 (some .boolean), .fieldLink RX5 65 "KindGuesserModel" "thrown" "I"] ++ wsX50)
def wsX5_empty : List Cond := .code yX5_empty cX5_empty 2 (some .int) :: ([.fieldLink RX5 114 "KindGuesserModel" "letters" "I", .fieldLink RX5 117 "KindGuesserModel" "bytes" "I", .methodLink RX5 106 yX5_told, .instanceMethod yX5_told, .selects RX5 yX5_told yX5_told, .initialized RX5, .code yX5_told cX5_told 2 (some .int), .fieldLink RX5 65 "KindGuesserModel" "thrown" "I"] ++ wsX50)
def wsX5_fit : List Cond := .code yX5_fit cX5_fit 8 (some .boolean) :: ([.fieldLink RX5 19 "KindGuesserModel" "tokens" "[I", .fieldLink RX5 22 "KindGuesserModel" "token" "[I", .fieldLink RX5 114 "KindGuesserModel" "letters" "I", .fieldLink RX5 53 "KindGuesserModel" "name" "[I"] ++ wsX50)
def wsX5_fits : List Cond := .code yX5_fits cX5_fits 2 (some .boolean) :: ([.methodLink RX5 94 yX5_isThere, .instanceMethod yX5_isThere, .selects RX5 yX5_isThere yX5_isThere, .initialized RX5, .code yX5_isThere cX5_isThere 2 (some .boolean), .fieldLink RX5 88 "KindGuesserModel" "patterns" "I", .fieldLink RX5 25 "KindGuesserModel" "dropped" "[Z", .methodLink RX5 72 yX5_in, .static yX5_in, .code yX5_in cX5_in 3 (some .boolean), .methodLink RX5 97 yX5_asked, .instanceMethod yX5_asked, .selects RX5 yX5_asked yX5_asked, .code yX5_asked cX5_asked 2 (some .boolean), .fieldLink RX5 65 "KindGuesserModel" "thrown" "I", .methodLink RX5 120 yX5_fit, .instanceMethod yX5_fit, .selects RX5 yX5_fit yX5_fit, .code yX5_fit cX5_fit 8 (some .boolean), .fieldLink RX5 19 "KindGuesserModel" "tokens" "[I", .fieldLink RX5 22 "KindGuesserModel" "token" "[I", .fieldLink RX5 114 "KindGuesserModel" "letters" "I", .fieldLink RX5 53 "KindGuesserModel" "name" "[I"] ++ wsX50)
def wsX5_fitsByTable_r1 : List Cond := [Cond.methodLink RX5 123 yX5_fits, Cond.instanceMethod yX5_fits, Cond.selects RX5 yX5_fits yX5_fits, Cond.initialized RX5, Cond.code yX5_fits cX5_fits 2 (some .boolean), Cond.methodLink RX5 94 yX5_isThere, Cond.instanceMethod yX5_isThere, Cond.selects RX5 yX5_isThere yX5_isThere, Cond.code yX5_isThere cX5_isThere 2 (some .boolean), Cond.fieldLink RX5 88 "KindGuesserModel" "patterns" "I", Cond.fieldLink RX5 25 "KindGuesserModel" "dropped" "[Z", Cond.methodLink RX5 72 yX5_in, Cond.static yX5_in, Cond.code yX5_in cX5_in 3 (some .boolean), Cond.methodLink RX5 97 yX5_asked, Cond.instanceMethod yX5_asked, Cond.selects RX5 yX5_asked yX5_asked, Cond.code yX5_asked cX5_asked 2 (some .boolean), Cond.fieldLink RX5 65 "KindGuesserModel" "thrown" "I", Cond.methodLink RX5 120 yX5_fit, Cond.instanceMethod yX5_fit, Cond.selects RX5 yX5_fit yX5_fit, Cond.code yX5_fit cX5_fit 8 (some .boolean), Cond.fieldLink RX5 19 "KindGuesserModel" "tokens" "[I"]
def wsX5_fitsByTable_r2 : List Cond := [Cond.fieldLink RX5 22 "KindGuesserModel" "token" "[I", Cond.fieldLink RX5 114 "KindGuesserModel" "letters" "I", Cond.fieldLink RX5 53 "KindGuesserModel" "name" "[I"]
def wsX5_fitsByTable : List Cond := .code yX5_fitsByTable cX5_fitsByTable 2 (some .boolean) :: ((wsX5_fitsByTable_r1 ++ wsX5_fitsByTable_r2) ++ wsX50)
def wsX5_holds : List Cond := .code yX5_holds cX5_holds 4 (some .boolean) :: ([.fieldLink RX5 41 "KindGuesserModel" "from" "[I", .fieldLink RX5 44 "KindGuesserModel" "to" "[I", .fieldLink RX5 117 "KindGuesserModel" "bytes" "I", .fieldLink RX5 56 "KindGuesserModel" "data" "[I", .fieldLink RX5 50 "KindGuesserModel" "mask" "[I", .fieldLink RX5 47 "KindGuesserModel" "value" "[I"] ++ wsX50)
def wsX5_proof : List Cond := .code yX5_proof cX5_proof 10 (some .boolean) :: ([.fieldLink RX5 35 "KindGuesserModel" "tests" "[I", .fieldLink RX5 38 "KindGuesserModel" "level" "[I", .methodLink RX5 126 yX5_holds, .instanceMethod yX5_holds, .selects RX5 yX5_holds yX5_holds, .initialized RX5, .code yX5_holds cX5_holds 4 (some .boolean), .fieldLink RX5 41 "KindGuesserModel" "from" "[I", .fieldLink RX5 44 "KindGuesserModel" "to" "[I", .fieldLink RX5 117 "KindGuesserModel" "bytes" "I", .fieldLink RX5 56 "KindGuesserModel" "data" "[I", .fieldLink RX5 50 "KindGuesserModel" "mask" "[I", .fieldLink RX5 47 "KindGuesserModel" "value" "[I"] ++ wsX50)
def wsX5_proves_r1 : List Cond := [Cond.methodLink RX5 103 yX5_isRule, Cond.instanceMethod yX5_isRule, Cond.selects RX5 yX5_isRule yX5_isRule, Cond.initialized RX5, Cond.code yX5_isRule cX5_isRule 2 (some .boolean), Cond.fieldLink RX5 100 "KindGuesserModel" "rules" "I", Cond.methodLink RX5 72 yX5_in, Cond.static yX5_in, Cond.code yX5_in cX5_in 3 (some .boolean), Cond.methodLink RX5 97 yX5_asked, Cond.instanceMethod yX5_asked, Cond.selects RX5 yX5_asked yX5_asked, Cond.code yX5_asked cX5_asked 2 (some .boolean), Cond.fieldLink RX5 65 "KindGuesserModel" "thrown" "I", Cond.methodLink RX5 129 yX5_proof, Cond.instanceMethod yX5_proof, Cond.selects RX5 yX5_proof yX5_proof, Cond.code yX5_proof cX5_proof 10 (some .boolean), Cond.fieldLink RX5 35 "KindGuesserModel" "tests" "[I", Cond.fieldLink RX5 38 "KindGuesserModel" "level" "[I", Cond.methodLink RX5 126 yX5_holds, Cond.instanceMethod yX5_holds, Cond.selects RX5 yX5_holds yX5_holds, Cond.code yX5_holds cX5_holds 4 (some .boolean)]
def wsX5_proves_r2 : List Cond := [Cond.fieldLink RX5 41 "KindGuesserModel" "from" "[I", Cond.fieldLink RX5 44 "KindGuesserModel" "to" "[I", Cond.fieldLink RX5 117 "KindGuesserModel" "bytes" "I", Cond.fieldLink RX5 56 "KindGuesserModel" "data" "[I", Cond.fieldLink RX5 50 "KindGuesserModel" "mask" "[I", Cond.fieldLink RX5 47 "KindGuesserModel" "value" "[I"]
def wsX5_proves : List Cond := .code yX5_proves cX5_proves 2 (some .boolean) :: ((wsX5_proves_r1 ++ wsX5_proves_r2) ++ wsX50)
def wsX5_first : List Cond := .code yX5_first cX5_first 5 (some .int) :: ([.fieldLink RX5 88 "KindGuesserModel" "patterns" "I", .fieldLink RX5 25 "KindGuesserModel" "dropped" "[Z", .fieldLink RX5 13 "KindGuesserModel" "patternOf" "[I", .fieldLink RX5 16 "KindGuesserModel" "weight" "[I", .fieldLink RX5 19 "KindGuesserModel" "tokens" "[I", .methodLink RX5 120 yX5_fit, .instanceMethod yX5_fit, .selects RX5 yX5_fit yX5_fit, .initialized RX5, .code yX5_fit cX5_fit 8 (some .boolean), .fieldLink RX5 22 "KindGuesserModel" "token" "[I", .fieldLink RX5 114 "KindGuesserModel" "letters" "I", .fieldLink RX5 53 "KindGuesserModel" "name" "[I", .methodLink RX5 110 yX5_special, .instanceMethod yX5_special, .selects RX5 yX5_special yX5_special, .code yX5_special cX5_special 4 (some .boolean), .fieldLink RX5 7 "KindGuesserModel" "parent" "[I"] ++ wsX50)
def wsX5_named : List Cond := .code yX5_named cX5_named 2 (some .int) :: ([.fieldLink RX5 13 "KindGuesserModel" "patternOf" "[I", .methodLink RX5 132 yX5_first, .instanceMethod yX5_first, .selects RX5 yX5_first yX5_first, .initialized RX5, .code yX5_first cX5_first 5 (some .int), .fieldLink RX5 88 "KindGuesserModel" "patterns" "I", .fieldLink RX5 25 "KindGuesserModel" "dropped" "[Z", .fieldLink RX5 16 "KindGuesserModel" "weight" "[I", .fieldLink RX5 19 "KindGuesserModel" "tokens" "[I", .methodLink RX5 120 yX5_fit, .instanceMethod yX5_fit, .selects RX5 yX5_fit yX5_fit, .code yX5_fit cX5_fit 8 (some .boolean), .fieldLink RX5 22 "KindGuesserModel" "token" "[I", .fieldLink RX5 114 "KindGuesserModel" "letters" "I", .fieldLink RX5 53 "KindGuesserModel" "name" "[I", .methodLink RX5 110 yX5_special, .instanceMethod yX5_special, .selects RX5 yX5_special yX5_special, .code yX5_special cX5_special 4 (some .boolean), .fieldLink RX5 7 "KindGuesserModel" "parent" "[I"] ++ wsX50)
def wsX5_proven : List Cond := .code yX5_proven cX5_proven 3 (some .int) :: ([.fieldLink RX5 100 "KindGuesserModel" "rules" "I", .fieldLink RX5 32 "KindGuesserModel" "priority" "[I", .methodLink RX5 129 yX5_proof, .instanceMethod yX5_proof, .selects RX5 yX5_proof yX5_proof, .initialized RX5, .code yX5_proof cX5_proof 10 (some .boolean), .fieldLink RX5 35 "KindGuesserModel" "tests" "[I", .fieldLink RX5 38 "KindGuesserModel" "level" "[I", .methodLink RX5 126 yX5_holds, .instanceMethod yX5_holds, .selects RX5 yX5_holds yX5_holds, .code yX5_holds cX5_holds 4 (some .boolean), .fieldLink RX5 41 "KindGuesserModel" "from" "[I", .fieldLink RX5 44 "KindGuesserModel" "to" "[I", .fieldLink RX5 117 "KindGuesserModel" "bytes" "I", .fieldLink RX5 56 "KindGuesserModel" "data" "[I", .fieldLink RX5 50 "KindGuesserModel" "mask" "[I", .fieldLink RX5 47 "KindGuesserModel" "value" "[I"] ++ wsX50)
def wsX5_byName_r1 : List Cond := [Cond.methodLink RX5 135 yX5_named, Cond.instanceMethod yX5_named, Cond.selects RX5 yX5_named yX5_named, Cond.initialized RX5, Cond.code yX5_named cX5_named 2 (some .int), Cond.fieldLink RX5 13 "KindGuesserModel" "patternOf" "[I", Cond.methodLink RX5 132 yX5_first, Cond.instanceMethod yX5_first, Cond.selects RX5 yX5_first yX5_first, Cond.code yX5_first cX5_first 5 (some .int), Cond.fieldLink RX5 88 "KindGuesserModel" "patterns" "I", Cond.fieldLink RX5 25 "KindGuesserModel" "dropped" "[Z", Cond.fieldLink RX5 16 "KindGuesserModel" "weight" "[I", Cond.fieldLink RX5 19 "KindGuesserModel" "tokens" "[I", Cond.methodLink RX5 120 yX5_fit, Cond.instanceMethod yX5_fit, Cond.selects RX5 yX5_fit yX5_fit, Cond.code yX5_fit cX5_fit 8 (some .boolean), Cond.fieldLink RX5 22 "KindGuesserModel" "token" "[I", Cond.fieldLink RX5 114 "KindGuesserModel" "letters" "I", Cond.fieldLink RX5 53 "KindGuesserModel" "name" "[I", Cond.methodLink RX5 110 yX5_special, Cond.instanceMethod yX5_special, Cond.selects RX5 yX5_special yX5_special]
def wsX5_byName_r2 : List Cond := [Cond.code yX5_special cX5_special 4 (some .boolean), Cond.fieldLink RX5 7 "KindGuesserModel" "parent" "[I", Cond.methodLink RX5 106 yX5_told, Cond.instanceMethod yX5_told, Cond.selects RX5 yX5_told yX5_told, Cond.code yX5_told cX5_told 2 (some .int), Cond.fieldLink RX5 65 "KindGuesserModel" "thrown" "I"]
def wsX5_byName : List Cond := .code yX5_byName cX5_byName 1 (some .int) :: ((wsX5_byName_r1 ++ wsX5_byName_r2) ++ wsX50)
def wsX5_byBytes_r1 : List Cond := [Cond.fieldLink RX5 29 "KindGuesserModel" "ruleOf" "[I", Cond.methodLink RX5 139 yX5_proven, Cond.instanceMethod yX5_proven, Cond.selects RX5 yX5_proven yX5_proven, Cond.initialized RX5, Cond.code yX5_proven cX5_proven 3 (some .int), Cond.fieldLink RX5 100 "KindGuesserModel" "rules" "I", Cond.fieldLink RX5 32 "KindGuesserModel" "priority" "[I", Cond.methodLink RX5 129 yX5_proof, Cond.instanceMethod yX5_proof, Cond.selects RX5 yX5_proof yX5_proof, Cond.code yX5_proof cX5_proof 10 (some .boolean), Cond.fieldLink RX5 35 "KindGuesserModel" "tests" "[I", Cond.fieldLink RX5 38 "KindGuesserModel" "level" "[I", Cond.methodLink RX5 126 yX5_holds, Cond.instanceMethod yX5_holds, Cond.selects RX5 yX5_holds yX5_holds, Cond.code yX5_holds cX5_holds 4 (some .boolean), Cond.fieldLink RX5 41 "KindGuesserModel" "from" "[I", Cond.fieldLink RX5 44 "KindGuesserModel" "to" "[I", Cond.fieldLink RX5 117 "KindGuesserModel" "bytes" "I", Cond.fieldLink RX5 56 "KindGuesserModel" "data" "[I", Cond.fieldLink RX5 50 "KindGuesserModel" "mask" "[I", Cond.fieldLink RX5 47 "KindGuesserModel" "value" "[I"]
def wsX5_byBytes_r2 : List Cond := [Cond.methodLink RX5 106 yX5_told, Cond.instanceMethod yX5_told, Cond.selects RX5 yX5_told yX5_told, Cond.code yX5_told cX5_told 2 (some .int), Cond.fieldLink RX5 65 "KindGuesserModel" "thrown" "I"]
def wsX5_byBytes : List Cond := .code yX5_byBytes cX5_byBytes 2 (some .int) :: ((wsX5_byBytes_r1 ++ wsX5_byBytes_r2) ++ wsX50)
def wsX5_guess_r1 : List Cond := [Cond.fieldLink RX5 65 "KindGuesserModel" "thrown" "I", Cond.fieldLink RX5 29 "KindGuesserModel" "ruleOf" "[I", Cond.fieldLink RX5 13 "KindGuesserModel" "patternOf" "[I", Cond.fieldLink RX5 32 "KindGuesserModel" "priority" "[I", Cond.fieldLink RX5 117 "KindGuesserModel" "bytes" "I", Cond.fieldLink RX5 56 "KindGuesserModel" "data" "[I", Cond.methodLink RX5 139 yX5_proven, Cond.instanceMethod yX5_proven, Cond.selects RX5 yX5_proven yX5_proven, Cond.initialized RX5, Cond.code yX5_proven cX5_proven 3 (some .int), Cond.fieldLink RX5 100 "KindGuesserModel" "rules" "I", Cond.methodLink RX5 129 yX5_proof, Cond.instanceMethod yX5_proof, Cond.selects RX5 yX5_proof yX5_proof, Cond.code yX5_proof cX5_proof 10 (some .boolean), Cond.fieldLink RX5 35 "KindGuesserModel" "tests" "[I", Cond.fieldLink RX5 38 "KindGuesserModel" "level" "[I", Cond.methodLink RX5 126 yX5_holds, Cond.instanceMethod yX5_holds, Cond.selects RX5 yX5_holds yX5_holds, Cond.code yX5_holds cX5_holds 4 (some .boolean), Cond.fieldLink RX5 41 "KindGuesserModel" "from" "[I", Cond.fieldLink RX5 44 "KindGuesserModel" "to" "[I"]
def wsX5_guess_r2 : List Cond := [Cond.fieldLink RX5 50 "KindGuesserModel" "mask" "[I", Cond.fieldLink RX5 47 "KindGuesserModel" "value" "[I", Cond.methodLink RX5 135 yX5_named, Cond.instanceMethod yX5_named, Cond.selects RX5 yX5_named yX5_named, Cond.code yX5_named cX5_named 2 (some .int), Cond.methodLink RX5 132 yX5_first, Cond.instanceMethod yX5_first, Cond.selects RX5 yX5_first yX5_first, Cond.code yX5_first cX5_first 5 (some .int), Cond.fieldLink RX5 88 "KindGuesserModel" "patterns" "I", Cond.fieldLink RX5 25 "KindGuesserModel" "dropped" "[Z", Cond.fieldLink RX5 16 "KindGuesserModel" "weight" "[I", Cond.fieldLink RX5 19 "KindGuesserModel" "tokens" "[I", Cond.methodLink RX5 120 yX5_fit, Cond.instanceMethod yX5_fit, Cond.selects RX5 yX5_fit yX5_fit, Cond.code yX5_fit cX5_fit 8 (some .boolean), Cond.fieldLink RX5 22 "KindGuesserModel" "token" "[I", Cond.fieldLink RX5 114 "KindGuesserModel" "letters" "I", Cond.fieldLink RX5 53 "KindGuesserModel" "name" "[I", Cond.methodLink RX5 110 yX5_special, Cond.instanceMethod yX5_special, Cond.selects RX5 yX5_special yX5_special]
def wsX5_guess_r3 : List Cond := [Cond.code yX5_special cX5_special 4 (some .boolean), Cond.fieldLink RX5 7 "KindGuesserModel" "parent" "[I", Cond.methodLink RX5 72 yX5_in, Cond.static yX5_in, Cond.code yX5_in cX5_in 3 (some .boolean)]
def wsX5_guess : List Cond := .code yX5_guess cX5_guess 5 (some .int) :: ((wsX5_guess_r1 ++ (wsX5_guess_r2 ++ wsX5_guess_r3)) ++ wsX50)
def wsX5_isList : List Cond := .code yX5_isList cX5_isList 1 (some .boolean) :: ([.methodLink RX5 72 yX5_in, .static yX5_in, .initialized RX5, .code yX5_in cX5_in 3 (some .boolean)])
def wsX5_program : List Cond := .code yX5_program cX5_program 7 (some .int) :: ([.fieldLink RX5 59 "KindGuesserModel" "stand" "[I", .methodLink RX5 76 yX5_isKind, .instanceMethod yX5_isKind, .selects RX5 yX5_isKind yX5_isKind, .initialized RX5, .code yX5_isKind cX5_isKind 2 (some .boolean), .fieldLink RX5 69 "KindGuesserModel" "kinds" "I", .methodLink RX5 72 yX5_in, .static yX5_in, .code yX5_in cX5_in 3 (some .boolean), .methodLink RX5 142 yX5_isList, .static yX5_isList, .code yX5_isList cX5_isList 1 (some .boolean), .methodLink RX5 80 yX5_asked_, .instanceMethod yX5_asked_, .selects RX5 yX5_asked_ yX5_asked_, .code yX5_asked_ cX5_asked_ 3 (some .boolean), .fieldLink RX5 65 "KindGuesserModel" "thrown" "I"] ++ wsX50)
def wsX5_setDefault : List Cond := .code yX5_setDefault cX5_setDefault 5 (some .int) :: ([.fieldLink RX5 62 "KindGuesserModel" "usual" "[I", .methodLink RX5 76 yX5_isKind, .instanceMethod yX5_isKind, .selects RX5 yX5_isKind yX5_isKind, .initialized RX5, .code yX5_isKind cX5_isKind 2 (some .boolean), .fieldLink RX5 69 "KindGuesserModel" "kinds" "I", .methodLink RX5 72 yX5_in, .static yX5_in, .code yX5_in cX5_in 3 (some .boolean), .methodLink RX5 142 yX5_isList, .static yX5_isList, .code yX5_isList cX5_isList 1 (some .boolean), .methodLink RX5 80 yX5_asked_, .instanceMethod yX5_asked_, .selects RX5 yX5_asked_ yX5_asked_, .code yX5_asked_ cX5_asked_ 3 (some .boolean), .fieldLink RX5 65 "KindGuesserModel" "thrown" "I"] ++ wsX50)
def wsX5_opens : List Cond := .code yX5_opens cX5_opens 7 (some .boolean) :: ([.fieldLink RX5 59 "KindGuesserModel" "stand" "[I"] ++ wsX50)
def wsX5_listed : List Cond := .code yX5_listed cX5_listed 7 (some .int) :: ([.fieldLink RX5 7 "KindGuesserModel" "parent" "[I", .methodLink RX5 145 yX5_opens, .instanceMethod yX5_opens, .selects RX5 yX5_opens yX5_opens, .initialized RX5, .code yX5_opens cX5_opens 7 (some .boolean), .fieldLink RX5 59 "KindGuesserModel" "stand" "[I"] ++ wsX50)
def wsX5_programs : List Cond := .code yX5_programs cX5_programs 2 (some .int) :: ([.methodLink RX5 76 yX5_isKind, .instanceMethod yX5_isKind, .selects RX5 yX5_isKind yX5_isKind, .initialized RX5, .code yX5_isKind cX5_isKind 2 (some .boolean), .fieldLink RX5 69 "KindGuesserModel" "kinds" "I", .methodLink RX5 72 yX5_in, .static yX5_in, .code yX5_in cX5_in 3 (some .boolean), .methodLink RX5 97 yX5_asked, .instanceMethod yX5_asked, .selects RX5 yX5_asked yX5_asked, .code yX5_asked cX5_asked 2 (some .boolean), .fieldLink RX5 65 "KindGuesserModel" "thrown" "I", .methodLink RX5 148 yX5_listed, .instanceMethod yX5_listed, .selects RX5 yX5_listed yX5_listed, .code yX5_listed cX5_listed 7 (some .int), .fieldLink RX5 7 "KindGuesserModel" "parent" "[I", .methodLink RX5 145 yX5_opens, .instanceMethod yX5_opens, .selects RX5 yX5_opens yX5_opens, .code yX5_opens cX5_opens 7 (some .boolean), .fieldLink RX5 59 "KindGuesserModel" "stand" "[I"] ++ wsX50)
def wsX5_programAt : List Cond := .code yX5_programAt cX5_programAt 4 (some .int) :: ([.methodLink RX5 76 yX5_isKind, .instanceMethod yX5_isKind, .selects RX5 yX5_isKind yX5_isKind, .initialized RX5, .code yX5_isKind cX5_isKind 2 (some .boolean), .fieldLink RX5 69 "KindGuesserModel" "kinds" "I", .methodLink RX5 72 yX5_in, .static yX5_in, .code yX5_in cX5_in 3 (some .boolean), .methodLink RX5 148 yX5_listed, .instanceMethod yX5_listed, .selects RX5 yX5_listed yX5_listed, .code yX5_listed cX5_listed 7 (some .int), .fieldLink RX5 7 "KindGuesserModel" "parent" "[I", .methodLink RX5 145 yX5_opens, .instanceMethod yX5_opens, .selects RX5 yX5_opens yX5_opens, .code yX5_opens cX5_opens 7 (some .boolean), .fieldLink RX5 59 "KindGuesserModel" "stand" "[I", .methodLink RX5 97 yX5_asked, .instanceMethod yX5_asked, .selects RX5 yX5_asked yX5_asked, .code yX5_asked cX5_asked 2 (some .boolean), .fieldLink RX5 65 "KindGuesserModel" "thrown" "I"] ++ wsX50)
def wsX5_opener : List Cond := .code yX5_opener cX5_opener 5 (some .int) :: ([.fieldLink RX5 62 "KindGuesserModel" "usual" "[I", .fieldLink RX5 7 "KindGuesserModel" "parent" "[I", .methodLink RX5 76 yX5_isKind, .instanceMethod yX5_isKind, .selects RX5 yX5_isKind yX5_isKind, .initialized RX5, .code yX5_isKind cX5_isKind 2 (some .boolean), .fieldLink RX5 69 "KindGuesserModel" "kinds" "I", .methodLink RX5 72 yX5_in, .static yX5_in, .code yX5_in cX5_in 3 (some .boolean), .methodLink RX5 97 yX5_asked, .instanceMethod yX5_asked, .selects RX5 yX5_asked yX5_asked, .code yX5_asked cX5_asked 2 (some .boolean), .fieldLink RX5 65 "KindGuesserModel" "thrown" "I", .methodLink RX5 145 yX5_opens, .instanceMethod yX5_opens, .selects RX5 yX5_opens yX5_opens, .code yX5_opens cX5_opens 7 (some .boolean), .fieldLink RX5 59 "KindGuesserModel" "stand" "[I"] ++ wsX50)
def wsL_kind_r1 : List Cond := [Cond.classLink RL 13 "java/lang/IndexOutOfBoundsException", Cond.classLink RL 15 "java/lang/IllegalStateException", Cond.methodLink RL 7 yX4_kind, Cond.instanceMethod yX4_kind, Cond.selects RX4 yX4_kind yX4_kind, Cond.initialized RX4, Cond.code yX4_kind cX4_kind 2 (some .int), Cond.classLink RX4 41 "java/lang/IndexOutOfBoundsException", Cond.initialized "java/lang/IndexOutOfBoundsException", Cond.classLink RX4 52 "java/lang/IllegalStateException", Cond.initialized "java/lang/IllegalStateException", Cond.fieldLink RX4 10 "KindGuesser" "tree" "LKindGuesser$KindTree;", Cond.methodLink RX4 37 yX1_has, Cond.instanceMethod yX1_has, Cond.selects RX1 yX1_has yX1_has, Cond.initialized RX1, Cond.code yX1_has cX1_has 2 (some .boolean), Cond.fieldLink RX1 15 "KindGuesser$KindTree" "count" "I", Cond.methodLink RX4 48 yX1_isFull, Cond.instanceMethod yX1_isFull, Cond.selects RX1 yX1_isFull yX1_isFull, Cond.code yX1_isFull cX1_isFull 1 (some .boolean), Cond.methodLink RX4 57 yX1_add, Cond.instanceMethod yX1_add]
def wsL_kind_r2 : List Cond := [Cond.selects RX1 yX1_add yX1_add, Cond.code yX1_add cX1_add 2 (some .int), Cond.fieldLink RX1 9 "KindGuesser$KindTree" "parents" "[I"]
def wsL_kind : List Cond := .codeWith yL_kind cL_kind 4 (some .int) [(0, 9, 12, 13), (0, 9, 15, 15)] :: ((wsL_kind_r1 ++ wsL_kind_r2) ++ wsX40 ++ wsX10 ++ (vx_atS RX4 45 "java/lang/IndexOutOfBoundsException" ["java/lang/RuntimeException", "java/lang/Exception"]).filter goodWord ++ (vx_atS RX4 56 "java/lang/IllegalStateException" ["java/lang/RuntimeException", "java/lang/Exception"]).filter goodWord)
def wsL_pattern_r1 : List Cond := [Cond.classLink RL 13 "java/lang/IndexOutOfBoundsException", Cond.classLink RL 21 "java/lang/IllegalArgumentException", Cond.classLink RL 15 "java/lang/IllegalStateException", Cond.methodLink RL 17 yX4_pattern, Cond.instanceMethod yX4_pattern, Cond.selects RX4 yX4_pattern yX4_pattern, Cond.initialized RX4, Cond.code yX4_pattern cX4_pattern 7 (some .int), Cond.classLink RX4 52 "java/lang/IllegalStateException", Cond.initialized "java/lang/IllegalStateException", Cond.fieldLink RX4 19 "KindGuesser" "nameSide" "LKindGuesser$NameSide;", Cond.methodLink RX4 61 yX4_requireKind, Cond.instanceMethod yX4_requireKind, Cond.selects RX4 yX4_requireKind yX4_requireKind, Cond.code yX4_requireKind cX4_requireKind 2 none, Cond.classLink RX4 41 "java/lang/IndexOutOfBoundsException", Cond.initialized "java/lang/IndexOutOfBoundsException", Cond.fieldLink RX4 10 "KindGuesser" "tree" "LKindGuesser$KindTree;", Cond.methodLink RX4 37 yX1_has, Cond.instanceMethod yX1_has, Cond.selects RX1 yX1_has yX1_has, Cond.initialized RX1, Cond.code yX1_has cX1_has 2 (some .boolean), Cond.fieldLink RX1 15 "KindGuesser$KindTree" "count" "I"]
def wsL_pattern_r2 : List Cond := [Cond.methodLink RX4 65 yX4_requireRange, Cond.static yX4_requireRange, Cond.code yX4_requireRange cX4_requireRange 3 none, Cond.methodLink RX4 69 yX4_requireArgument, Cond.static yX4_requireArgument, Cond.code yX4_requireArgument cX4_requireArgument 1 none, Cond.classLink RX4 209 "java/lang/IllegalArgumentException", Cond.initialized "java/lang/IllegalArgumentException", Cond.methodLink RX4 73 yX4_tokenAt, Cond.static yX4_tokenAt, Cond.code yX4_tokenAt cX4_tokenAt 6 (some .int), Cond.methodLink RX4 77 yX2_isFullOfPatterns, Cond.instanceMethod yX2_isFullOfPatterns, Cond.selects RX2 yX2_isFullOfPatterns yX2_isFullOfPatterns, Cond.initialized RX2, Cond.code yX2_isFullOfPatterns cX2_isFullOfPatterns 1 (some .boolean), Cond.fieldLink RX2 35 "KindGuesser$NameSide" "patternCount" "I", Cond.methodLink RX4 82 yX2_writeToken, Cond.instanceMethod yX2_writeToken, Cond.selects RX2 yX2_writeToken yX2_writeToken, Cond.code yX2_writeToken cX2_writeToken 3 none, Cond.fieldLink RX2 32 "KindGuesser$NameSide" "tokenRows" "[I", Cond.methodLink RX4 86 yX2_addPattern, Cond.instanceMethod yX2_addPattern]
def wsL_pattern_r3 : List Cond := [Cond.selects RX2 yX2_addPattern yX2_addPattern, Cond.code yX2_addPattern cX2_addPattern 5 (some .int), Cond.fieldLink RX2 19 "KindGuesser$NameSide" "kindsOfPatterns" "[I", Cond.fieldLink RX2 22 "KindGuesser$NameSide" "weights" "[I", Cond.fieldLink RX2 25 "KindGuesser$NameSide" "lengths" "[I", Cond.fieldLink RX2 28 "KindGuesser$NameSide" "there" "[Z", Cond.fieldLink RX2 38 "KindGuesser$NameSide" "thereCount" "I"]
def wsL_pattern : List Cond := .codeWith yL_pattern cL_pattern 8 (some .int) [(0, 16, 19, 13), (0, 16, 23, 21), (0, 16, 27, 15)] :: ((wsL_pattern_r1 ++ (wsL_pattern_r2 ++ wsL_pattern_r3)) ++ wsX40 ++ wsX10 ++ wsX20 ++ (vx_atS RX4 56 "java/lang/IllegalStateException" ["java/lang/RuntimeException", "java/lang/Exception"]).filter goodWord ++ (vx_atS RX4 45 "java/lang/IndexOutOfBoundsException" ["java/lang/RuntimeException", "java/lang/Exception"]).filter goodWord ++ (vx_atS RX4 213 "java/lang/IllegalArgumentException" ["java/lang/RuntimeException", "java/lang/Exception"]).filter goodWord)
def wsL_drop_r1 : List Cond := [Cond.classLink RL 13 "java/lang/IndexOutOfBoundsException", Cond.methodLink RL 23 yX4_drop, Cond.instanceMethod yX4_drop, Cond.selects RX4 yX4_drop yX4_drop, Cond.initialized RX4, Cond.code yX4_drop cX4_drop 2 (some .int), Cond.fieldLink RX4 19 "KindGuesser" "nameSide" "LKindGuesser$NameSide;", Cond.methodLink RX4 89 yX4_requirePattern, Cond.instanceMethod yX4_requirePattern, Cond.selects RX4 yX4_requirePattern yX4_requirePattern, Cond.code yX4_requirePattern cX4_requirePattern 2 none, Cond.classLink RX4 41 "java/lang/IndexOutOfBoundsException", Cond.initialized "java/lang/IndexOutOfBoundsException", Cond.methodLink RX4 199 yX2_hasPattern, Cond.instanceMethod yX2_hasPattern, Cond.selects RX2 yX2_hasPattern yX2_hasPattern, Cond.initialized RX2, Cond.code yX2_hasPattern cX2_hasPattern 2 (some .boolean), Cond.fieldLink RX2 35 "KindGuesser$NameSide" "patternCount" "I", Cond.fieldLink RX2 28 "KindGuesser$NameSide" "there" "[Z", Cond.methodLink RX4 92 yX2_dropPattern, Cond.instanceMethod yX2_dropPattern, Cond.selects RX2 yX2_dropPattern yX2_dropPattern, Cond.code yX2_dropPattern cX2_dropPattern 2 (some .int)]
def wsL_drop_r2 : List Cond := [Cond.fieldLink RX2 38 "KindGuesser$NameSide" "thereCount" "I"]
def wsL_drop : List Cond := .codeWith yL_drop cL_drop 4 (some .int) [(0, 9, 12, 13)] :: ((wsL_drop_r1 ++ wsL_drop_r2) ++ wsX40 ++ wsX20 ++ (vx_atS RX4 45 "java/lang/IndexOutOfBoundsException" ["java/lang/RuntimeException", "java/lang/Exception"]).filter goodWord)
def wsL_rule_r1 : List Cond := [Cond.classLink RL 13 "java/lang/IndexOutOfBoundsException", Cond.classLink RL 21 "java/lang/IllegalArgumentException", Cond.classLink RL 15 "java/lang/IllegalStateException", Cond.methodLink RL 26 yX4_rule, Cond.instanceMethod yX4_rule, Cond.selects RX4 yX4_rule yX4_rule, Cond.initialized RX4, Cond.code yX4_rule cX4_rule 3 (some .int), Cond.classLink RX4 52 "java/lang/IllegalStateException", Cond.initialized "java/lang/IllegalStateException", Cond.fieldLink RX4 26 "KindGuesser" "byteSide" "LKindGuesser$ByteSide;", Cond.methodLink RX4 61 yX4_requireKind, Cond.instanceMethod yX4_requireKind, Cond.selects RX4 yX4_requireKind yX4_requireKind, Cond.code yX4_requireKind cX4_requireKind 2 none, Cond.classLink RX4 41 "java/lang/IndexOutOfBoundsException", Cond.initialized "java/lang/IndexOutOfBoundsException", Cond.fieldLink RX4 10 "KindGuesser" "tree" "LKindGuesser$KindTree;", Cond.methodLink RX4 37 yX1_has, Cond.instanceMethod yX1_has, Cond.selects RX1 yX1_has yX1_has, Cond.initialized RX1, Cond.code yX1_has cX1_has 2 (some .boolean), Cond.fieldLink RX1 15 "KindGuesser$KindTree" "count" "I"]
def wsL_rule_r2 : List Cond := [Cond.methodLink RX4 65 yX4_requireRange, Cond.static yX4_requireRange, Cond.code yX4_requireRange cX4_requireRange 3 none, Cond.methodLink RX4 69 yX4_requireArgument, Cond.static yX4_requireArgument, Cond.code yX4_requireArgument cX4_requireArgument 1 none, Cond.classLink RX4 209 "java/lang/IllegalArgumentException", Cond.initialized "java/lang/IllegalArgumentException", Cond.methodLink RX4 95 yX0_isFullOfRules, Cond.instanceMethod yX0_isFullOfRules, Cond.selects RX0 yX0_isFullOfRules yX0_isFullOfRules, Cond.initialized RX0, Cond.code yX0_isFullOfRules cX0_isFullOfRules 1 (some .boolean), Cond.fieldLink RX0 28 "KindGuesser$ByteSide" "ruleCount" "I", Cond.methodLink RX4 100 yX0_addRule, Cond.instanceMethod yX0_addRule, Cond.selects RX0 yX0_addRule yX0_addRule, Cond.code yX0_addRule cX0_addRule 3 (some .int), Cond.fieldLink RX0 19 "KindGuesser$ByteSide" "kindsOfRules" "[I", Cond.fieldLink RX0 22 "KindGuesser$ByteSide" "priorities" "[I"]
def wsL_rule : List Cond := .codeWith yL_rule cL_rule 5 (some .int) [(0, 10, 13, 13), (0, 10, 17, 21), (0, 10, 21, 15)] :: ((wsL_rule_r1 ++ wsL_rule_r2) ++ wsX40 ++ wsX10 ++ wsX00 ++ (vx_atS RX4 56 "java/lang/IllegalStateException" ["java/lang/RuntimeException", "java/lang/Exception"]).filter goodWord ++ (vx_atS RX4 45 "java/lang/IndexOutOfBoundsException" ["java/lang/RuntimeException", "java/lang/Exception"]).filter goodWord ++ (vx_atS RX4 213 "java/lang/IllegalArgumentException" ["java/lang/RuntimeException", "java/lang/Exception"]).filter goodWord)
def wsL_test_r1 : List Cond := [Cond.classLink RL 13 "java/lang/IndexOutOfBoundsException", Cond.classLink RL 21 "java/lang/IllegalArgumentException", Cond.classLink RL 15 "java/lang/IllegalStateException", Cond.methodLink RL 30 yX4_test, Cond.instanceMethod yX4_test, Cond.selects RX4 yX4_test yX4_test, Cond.initialized RX4, Cond.code yX4_test cX4_test 7 (some .int), Cond.classLink RX4 52 "java/lang/IllegalStateException", Cond.initialized "java/lang/IllegalStateException", Cond.fieldLink RX4 26 "KindGuesser" "byteSide" "LKindGuesser$ByteSide;", Cond.methodLink RX4 104 yX4_requireRule, Cond.instanceMethod yX4_requireRule, Cond.selects RX4 yX4_requireRule yX4_requireRule, Cond.code yX4_requireRule cX4_requireRule 2 none, Cond.classLink RX4 41 "java/lang/IndexOutOfBoundsException", Cond.initialized "java/lang/IndexOutOfBoundsException", Cond.methodLink RX4 204 yX0_hasRule, Cond.instanceMethod yX0_hasRule, Cond.selects RX0 yX0_hasRule yX0_hasRule, Cond.initialized RX0, Cond.code yX0_hasRule cX0_hasRule 2 (some .boolean), Cond.fieldLink RX0 28 "KindGuesser$ByteSide" "ruleCount" "I", Cond.methodLink RX4 107 yX0_greatestNextLevel]
def wsL_test_r2 : List Cond := [Cond.instanceMethod yX0_greatestNextLevel, Cond.selects RX0 yX0_greatestNextLevel yX0_greatestNextLevel, Cond.code yX0_greatestNextLevel cX0_greatestNextLevel 3 (some .int), Cond.fieldLink RX0 25 "KindGuesser$ByteSide" "testCounts" "[I", Cond.fieldLink RX0 31 "KindGuesser$ByteSide" "levels" "[I", Cond.methodLink RX4 65 yX4_requireRange, Cond.static yX4_requireRange, Cond.code yX4_requireRange cX4_requireRange 3 none, Cond.methodLink RX4 69 yX4_requireArgument, Cond.static yX4_requireArgument, Cond.code yX4_requireArgument cX4_requireArgument 1 none, Cond.classLink RX4 209 "java/lang/IllegalArgumentException", Cond.initialized "java/lang/IllegalArgumentException", Cond.methodLink RX4 110 yX0_isFullOfTests, Cond.instanceMethod yX0_isFullOfTests, Cond.selects RX0 yX0_isFullOfTests yX0_isFullOfTests, Cond.code yX0_isFullOfTests cX0_isFullOfTests 2 (some .boolean), Cond.methodLink RX4 115 yX0_addTest, Cond.instanceMethod yX0_addTest, Cond.selects RX0 yX0_addTest yX0_addTest, Cond.code yX0_addTest cX0_addTest 8 (some .int), Cond.fieldLink RX0 34 "KindGuesser$ByteSide" "froms" "[I", Cond.fieldLink RX0 37 "KindGuesser$ByteSide" "tos" "[I", Cond.fieldLink RX0 40 "KindGuesser$ByteSide" "wanted" "[I"]
def wsL_test_r3 : List Cond := [Cond.fieldLink RX0 43 "KindGuesser$ByteSide" "masks" "[I"]
def wsL_test : List Cond := .codeWith yL_test cL_test 9 (some .int) [(0, 18, 21, 13), (0, 18, 25, 21), (0, 18, 29, 15)] :: ((wsL_test_r1 ++ (wsL_test_r2 ++ wsL_test_r3)) ++ wsX40 ++ wsX00 ++ (vx_atS RX4 56 "java/lang/IllegalStateException" ["java/lang/RuntimeException", "java/lang/Exception"]).filter goodWord ++ (vx_atS RX4 45 "java/lang/IndexOutOfBoundsException" ["java/lang/RuntimeException", "java/lang/Exception"]).filter goodWord ++ (vx_atS RX4 213 "java/lang/IllegalArgumentException" ["java/lang/RuntimeException", "java/lang/Exception"]).filter goodWord)
def wsL_isSpecial_r1 : List Cond := [Cond.classLink RL 13 "java/lang/IndexOutOfBoundsException", Cond.methodLink RL 34 yX4_isSpecial, Cond.instanceMethod yX4_isSpecial, Cond.selects RX4 yX4_isSpecial yX4_isSpecial, Cond.initialized RX4, Cond.code yX4_isSpecial cX4_isSpecial 3 (some .boolean), Cond.fieldLink RX4 10 "KindGuesser" "tree" "LKindGuesser$KindTree;", Cond.methodLink RX4 61 yX4_requireKind, Cond.instanceMethod yX4_requireKind, Cond.selects RX4 yX4_requireKind yX4_requireKind, Cond.code yX4_requireKind cX4_requireKind 2 none, Cond.classLink RX4 41 "java/lang/IndexOutOfBoundsException", Cond.initialized "java/lang/IndexOutOfBoundsException", Cond.methodLink RX4 37 yX1_has, Cond.instanceMethod yX1_has, Cond.selects RX1 yX1_has yX1_has, Cond.initialized RX1, Cond.code yX1_has cX1_has 2 (some .boolean), Cond.fieldLink RX1 15 "KindGuesser$KindTree" "count" "I", Cond.methodLink RX4 123 yX1_leadsUp, Cond.instanceMethod yX1_leadsUp, Cond.selects RX1 yX1_leadsUp yX1_leadsUp, Cond.code yX1_leadsUp cX1_leadsUp 5 (some .boolean), Cond.methodLink RX1 23 yX1_parentOf]
def wsL_isSpecial_r2 : List Cond := [Cond.instanceMethod yX1_parentOf, Cond.selects RX1 yX1_parentOf yX1_parentOf, Cond.code yX1_parentOf cX1_parentOf 2 (some .int), Cond.fieldLink RX1 9 "KindGuesser$KindTree" "parents" "[I", Cond.methodLink RX1 19 yX1_has]
def wsL_isSpecial : List Cond := .codeWith yL_isSpecial cL_isSpecial 5 (some .int) [(0, 17, 20, 13)] :: ((wsL_isSpecial_r1 ++ wsL_isSpecial_r2) ++ wsX40 ++ wsX10 ++ (vx_atS RX4 45 "java/lang/IndexOutOfBoundsException" ["java/lang/RuntimeException", "java/lang/Exception"]).filter goodWord)
def wsL_letter_r1 : List Cond := [Cond.classLink RL 21 "java/lang/IllegalArgumentException", Cond.classLink RL 15 "java/lang/IllegalStateException", Cond.methodLink RL 38 yX4_letter, Cond.instanceMethod yX4_letter, Cond.selects RX4 yX4_letter yX4_letter, Cond.initialized RX4, Cond.code yX4_letter cX4_letter 2 (some .int), Cond.classLink RX4 52 "java/lang/IllegalStateException", Cond.initialized "java/lang/IllegalStateException", Cond.fieldLink RX4 19 "KindGuesser" "nameSide" "LKindGuesser$NameSide;", Cond.methodLink RX4 65 yX4_requireRange, Cond.static yX4_requireRange, Cond.code yX4_requireRange cX4_requireRange 3 none, Cond.methodLink RX4 69 yX4_requireArgument, Cond.static yX4_requireArgument, Cond.code yX4_requireArgument cX4_requireArgument 1 none, Cond.classLink RX4 209 "java/lang/IllegalArgumentException", Cond.initialized "java/lang/IllegalArgumentException", Cond.methodLink RX4 127 yX2_isFullOfLetters, Cond.instanceMethod yX2_isFullOfLetters, Cond.selects RX2 yX2_isFullOfLetters yX2_isFullOfLetters, Cond.initialized RX2, Cond.code yX2_isFullOfLetters cX2_isFullOfLetters 1 (some .boolean), Cond.fieldLink RX2 15 "KindGuesser$NameSide" "letterCount" "I"]
def wsL_letter_r2 : List Cond := [Cond.methodLink RX4 132 yX2_addLetter, Cond.instanceMethod yX2_addLetter, Cond.selects RX2 yX2_addLetter yX2_addLetter, Cond.code yX2_addLetter cX2_addLetter 2 (some .int), Cond.fieldLink RX2 9 "KindGuesser$NameSide" "letters" "[I"]
def wsL_letter : List Cond := .codeWith yL_letter cL_letter 4 (some .int) [(0, 9, 12, 21), (0, 9, 15, 15)] :: ((wsL_letter_r1 ++ wsL_letter_r2) ++ wsX40 ++ wsX20 ++ (vx_atS RX4 56 "java/lang/IllegalStateException" ["java/lang/RuntimeException", "java/lang/Exception"]).filter goodWord ++ (vx_atS RX4 213 "java/lang/IllegalArgumentException" ["java/lang/RuntimeException", "java/lang/Exception"]).filter goodWord)
def wsL_put_r1 : List Cond := [Cond.classLink RL 21 "java/lang/IllegalArgumentException", Cond.classLink RL 15 "java/lang/IllegalStateException", Cond.methodLink RL 41 yX4_put, Cond.instanceMethod yX4_put, Cond.selects RX4 yX4_put yX4_put, Cond.initialized RX4, Cond.code yX4_put cX4_put 2 (some .int), Cond.classLink RX4 52 "java/lang/IllegalStateException", Cond.initialized "java/lang/IllegalStateException", Cond.fieldLink RX4 26 "KindGuesser" "byteSide" "LKindGuesser$ByteSide;", Cond.methodLink RX4 65 yX4_requireRange, Cond.static yX4_requireRange, Cond.code yX4_requireRange cX4_requireRange 3 none, Cond.methodLink RX4 69 yX4_requireArgument, Cond.static yX4_requireArgument, Cond.code yX4_requireArgument cX4_requireArgument 1 none, Cond.classLink RX4 209 "java/lang/IllegalArgumentException", Cond.initialized "java/lang/IllegalArgumentException", Cond.methodLink RX4 135 yX0_isFullOfBytes, Cond.instanceMethod yX0_isFullOfBytes, Cond.selects RX0 yX0_isFullOfBytes yX0_isFullOfBytes, Cond.initialized RX0, Cond.code yX0_isFullOfBytes cX0_isFullOfBytes 1 (some .boolean), Cond.fieldLink RX0 15 "KindGuesser$ByteSide" "byteCount" "I"]
def wsL_put_r2 : List Cond := [Cond.methodLink RX4 140 yX0_addByte, Cond.instanceMethod yX0_addByte, Cond.selects RX0 yX0_addByte yX0_addByte, Cond.code yX0_addByte cX0_addByte 2 (some .int), Cond.fieldLink RX0 9 "KindGuesser$ByteSide" "values" "[I"]
def wsL_put : List Cond := .codeWith yL_put cL_put 4 (some .int) [(0, 9, 12, 21), (0, 9, 15, 15)] :: ((wsL_put_r1 ++ wsL_put_r2) ++ wsX40 ++ wsX00 ++ (vx_atS RX4 56 "java/lang/IllegalStateException" ["java/lang/RuntimeException", "java/lang/Exception"]).filter goodWord ++ (vx_atS RX4 213 "java/lang/IllegalArgumentException" ["java/lang/RuntimeException", "java/lang/Exception"]).filter goodWord)
def wsL_fits_r1 : List Cond := [Cond.classLink RL 13 "java/lang/IndexOutOfBoundsException", Cond.methodLink RL 44 yX4_fits, Cond.instanceMethod yX4_fits, Cond.selects RX4 yX4_fits yX4_fits, Cond.initialized RX4, Cond.code yX4_fits cX4_fits 2 (some .boolean), Cond.fieldLink RX4 19 "KindGuesser" "nameSide" "LKindGuesser$NameSide;", Cond.methodLink RX4 89 yX4_requirePattern, Cond.instanceMethod yX4_requirePattern, Cond.selects RX4 yX4_requirePattern yX4_requirePattern, Cond.code yX4_requirePattern cX4_requirePattern 2 none, Cond.classLink RX4 41 "java/lang/IndexOutOfBoundsException", Cond.initialized "java/lang/IndexOutOfBoundsException", Cond.methodLink RX4 199 yX2_hasPattern, Cond.instanceMethod yX2_hasPattern, Cond.selects RX2 yX2_hasPattern yX2_hasPattern, Cond.initialized RX2, Cond.code yX2_hasPattern cX2_hasPattern 2 (some .boolean), Cond.fieldLink RX2 35 "KindGuesser$NameSide" "patternCount" "I", Cond.fieldLink RX2 28 "KindGuesser$NameSide" "there" "[Z", Cond.methodLink RX4 149 yX2_fitsName, Cond.instanceMethod yX2_fitsName, Cond.selects RX2 yX2_fitsName yX2_fitsName, Cond.code yX2_fitsName cX2_fitsName 5 (some .boolean)]
def wsL_fits_r2 : List Cond := [Cond.fieldLink RX2 25 "KindGuesser$NameSide" "lengths" "[I", Cond.fieldLink RX2 32 "KindGuesser$NameSide" "tokenRows" "[I", Cond.fieldLink RX2 15 "KindGuesser$NameSide" "letterCount" "I", Cond.methodLink RX2 64 yX2_reachedAfter, Cond.instanceMethod yX2_reachedAfter, Cond.selects RX2 yX2_reachedAfter yX2_reachedAfter, Cond.code yX2_reachedAfter cX2_reachedAfter 6 (some .int), Cond.methodLink RX2 68 yX2_isReached, Cond.static yX2_isReached, Cond.code yX2_isReached cX2_isReached 2 (some .boolean), Cond.methodLink RX2 71 yX2_standsFor, Cond.instanceMethod yX2_standsFor, Cond.selects RX2 yX2_standsFor yX2_standsFor, Cond.code yX2_standsFor cX2_standsFor 3 (some .boolean), Cond.fieldLink RX2 9 "KindGuesser$NameSide" "letters" "[I"]
def wsL_fits : List Cond := .codeWith yL_fits cL_fits 4 (some .int) [(0, 16, 19, 13)] :: ((wsL_fits_r1 ++ wsL_fits_r2) ++ wsX40 ++ wsX20 ++ (vx_atS RX4 45 "java/lang/IndexOutOfBoundsException" ["java/lang/RuntimeException", "java/lang/Exception"]).filter goodWord)
def wsL_fitsByTable_r1 : List Cond := [Cond.classLink RL 13 "java/lang/IndexOutOfBoundsException", Cond.methodLink RL 48 yX4_fitsByTable, Cond.instanceMethod yX4_fitsByTable, Cond.selects RX4 yX4_fitsByTable yX4_fitsByTable, Cond.initialized RX4, Cond.code yX4_fitsByTable cX4_fitsByTable 2 (some .boolean), Cond.fieldLink RX4 19 "KindGuesser" "nameSide" "LKindGuesser$NameSide;", Cond.methodLink RX4 89 yX4_requirePattern, Cond.instanceMethod yX4_requirePattern, Cond.selects RX4 yX4_requirePattern yX4_requirePattern, Cond.code yX4_requirePattern cX4_requirePattern 2 none, Cond.classLink RX4 41 "java/lang/IndexOutOfBoundsException", Cond.initialized "java/lang/IndexOutOfBoundsException", Cond.methodLink RX4 199 yX2_hasPattern, Cond.instanceMethod yX2_hasPattern, Cond.selects RX2 yX2_hasPattern yX2_hasPattern, Cond.initialized RX2, Cond.code yX2_hasPattern cX2_hasPattern 2 (some .boolean), Cond.fieldLink RX2 35 "KindGuesser$NameSide" "patternCount" "I", Cond.fieldLink RX2 28 "KindGuesser$NameSide" "there" "[Z", Cond.methodLink RX4 152 yX2_fitsNameByTable, Cond.instanceMethod yX2_fitsNameByTable, Cond.selects RX2 yX2_fitsNameByTable yX2_fitsNameByTable, Cond.code yX2_fitsNameByTable cX2_fitsNameByTable 4 (some .boolean)]
def wsL_fitsByTable_r2 : List Cond := [Cond.fieldLink RX2 25 "KindGuesser$NameSide" "lengths" "[I", Cond.fieldLink RX2 41 "KindGuesser$NameSide" "table" "[Z", Cond.fieldLink RX2 32 "KindGuesser$NameSide" "tokenRows" "[I", Cond.fieldLink RX2 15 "KindGuesser$NameSide" "letterCount" "I", Cond.methodLink RX2 74 yX2_fillLine, Cond.instanceMethod yX2_fillLine, Cond.selects RX2 yX2_fillLine yX2_fillLine, Cond.code yX2_fillLine cX2_fillLine 6 none, Cond.methodLink RX2 71 yX2_standsFor, Cond.instanceMethod yX2_standsFor, Cond.selects RX2 yX2_standsFor yX2_standsFor, Cond.code yX2_standsFor cX2_standsFor 3 (some .boolean), Cond.fieldLink RX2 9 "KindGuesser$NameSide" "letters" "[I"]
def wsL_fitsByTable : List Cond := .codeWith yL_fitsByTable cL_fitsByTable 4 (some .int) [(0, 16, 19, 13)] :: ((wsL_fitsByTable_r1 ++ wsL_fitsByTable_r2) ++ wsX40 ++ wsX20 ++ (vx_atS RX4 45 "java/lang/IndexOutOfBoundsException" ["java/lang/RuntimeException", "java/lang/Exception"]).filter goodWord)
def wsL_proves_r1 : List Cond := [Cond.classLink RL 13 "java/lang/IndexOutOfBoundsException", Cond.methodLink RL 51 yX4_proves, Cond.instanceMethod yX4_proves, Cond.selects RX4 yX4_proves yX4_proves, Cond.initialized RX4, Cond.code yX4_proves cX4_proves 2 (some .boolean), Cond.fieldLink RX4 26 "KindGuesser" "byteSide" "LKindGuesser$ByteSide;", Cond.methodLink RX4 104 yX4_requireRule, Cond.instanceMethod yX4_requireRule, Cond.selects RX4 yX4_requireRule yX4_requireRule, Cond.code yX4_requireRule cX4_requireRule 2 none, Cond.classLink RX4 41 "java/lang/IndexOutOfBoundsException", Cond.initialized "java/lang/IndexOutOfBoundsException", Cond.methodLink RX4 204 yX0_hasRule, Cond.instanceMethod yX0_hasRule, Cond.selects RX0 yX0_hasRule yX0_hasRule, Cond.initialized RX0, Cond.code yX0_hasRule cX0_hasRule 2 (some .boolean), Cond.fieldLink RX0 28 "KindGuesser$ByteSide" "ruleCount" "I", Cond.methodLink RX4 155 yX0_provesKind, Cond.instanceMethod yX0_provesKind, Cond.selects RX0 yX0_provesKind yX0_provesKind, Cond.code yX0_provesKind cX0_provesKind 6 (some .boolean), Cond.fieldLink RX0 25 "KindGuesser$ByteSide" "testCounts" "[I"]
def wsL_proves_r2 : List Cond := [Cond.fieldLink RX0 46 "KindGuesser$ByteSide" "leads" "[Z", Cond.fieldLink RX0 31 "KindGuesser$ByteSide" "levels" "[I", Cond.methodLink RX0 60 yX0_holds, Cond.instanceMethod yX0_holds, Cond.selects RX0 yX0_holds yX0_holds, Cond.code yX0_holds cX0_holds 3 (some .boolean), Cond.fieldLink RX0 34 "KindGuesser$ByteSide" "froms" "[I", Cond.fieldLink RX0 37 "KindGuesser$ByteSide" "tos" "[I", Cond.fieldLink RX0 15 "KindGuesser$ByteSide" "byteCount" "I", Cond.fieldLink RX0 9 "KindGuesser$ByteSide" "values" "[I", Cond.fieldLink RX0 43 "KindGuesser$ByteSide" "masks" "[I", Cond.fieldLink RX0 40 "KindGuesser$ByteSide" "wanted" "[I", Cond.methodLink RX0 63 yX0_leadsBelow, Cond.instanceMethod yX0_leadsBelow, Cond.selects RX0 yX0_leadsBelow yX0_leadsBelow, Cond.code yX0_leadsBelow cX0_leadsBelow 6 (some .boolean)]
def wsL_proves : List Cond := .codeWith yL_proves cL_proves 4 (some .int) [(0, 16, 19, 13)] :: ((wsL_proves_r1 ++ wsL_proves_r2) ++ wsX40 ++ wsX00 ++ (vx_atS RX4 45 "java/lang/IndexOutOfBoundsException" ["java/lang/RuntimeException", "java/lang/Exception"]).filter goodWord)
def wsL_program_r1 : List Cond := [Cond.classLink RL 13 "java/lang/IndexOutOfBoundsException", Cond.classLink RL 21 "java/lang/IllegalArgumentException", Cond.methodLink RL 54 yX4_program, Cond.instanceMethod yX4_program, Cond.selects RX4 yX4_program yX4_program, Cond.initialized RX4, Cond.code yX4_program cX4_program 5 (some .int), Cond.fieldLink RX4 33 "KindGuesser" "programLists" "LKindGuesser$ProgramLists;", Cond.methodLink RX4 61 yX4_requireKind, Cond.instanceMethod yX4_requireKind, Cond.selects RX4 yX4_requireKind yX4_requireKind, Cond.code yX4_requireKind cX4_requireKind 2 none, Cond.classLink RX4 41 "java/lang/IndexOutOfBoundsException", Cond.initialized "java/lang/IndexOutOfBoundsException", Cond.fieldLink RX4 10 "KindGuesser" "tree" "LKindGuesser$KindTree;", Cond.methodLink RX4 37 yX1_has, Cond.instanceMethod yX1_has, Cond.selects RX1 yX1_has yX1_has, Cond.initialized RX1, Cond.code yX1_has cX1_has 2 (some .boolean), Cond.fieldLink RX1 15 "KindGuesser$KindTree" "count" "I", Cond.methodLink RX4 65 yX4_requireRange, Cond.static yX4_requireRange, Cond.code yX4_requireRange cX4_requireRange 3 none]
def wsL_program_r2 : List Cond := [Cond.methodLink RX4 69 yX4_requireArgument, Cond.static yX4_requireArgument, Cond.code yX4_requireArgument cX4_requireArgument 1 none, Cond.classLink RX4 209 "java/lang/IllegalArgumentException", Cond.initialized "java/lang/IllegalArgumentException", Cond.methodLink RX4 178 yX3_setStanding, Cond.instanceMethod yX3_setStanding, Cond.selects RX3 yX3_setStanding yX3_setStanding, Cond.initialized RX3, Cond.code yX3_setStanding cX3_setStanding 7 (some .int), Cond.fieldLink RX3 9 "KindGuesser$ProgramLists" "standings" "[I", Cond.methodLink RX3 24 yX3_placeOf, Cond.static yX3_placeOf, Cond.code yX3_placeOf cX3_placeOf 2 (some .int)]
def wsL_program : List Cond := .codeWith yL_program cL_program 7 (some .int) [(0, 14, 17, 13), (0, 14, 21, 21)] :: ((wsL_program_r1 ++ wsL_program_r2) ++ wsX40 ++ wsX10 ++ wsX30 ++ (vx_atS RX4 45 "java/lang/IndexOutOfBoundsException" ["java/lang/RuntimeException", "java/lang/Exception"]).filter goodWord ++ (vx_atS RX4 213 "java/lang/IllegalArgumentException" ["java/lang/RuntimeException", "java/lang/Exception"]).filter goodWord)
def wsL_setDefault_r1 : List Cond := [Cond.classLink RL 13 "java/lang/IndexOutOfBoundsException", Cond.classLink RL 21 "java/lang/IllegalArgumentException", Cond.methodLink RL 58 yX4_setDefault, Cond.instanceMethod yX4_setDefault, Cond.selects RX4 yX4_setDefault yX4_setDefault, Cond.initialized RX4, Cond.code yX4_setDefault cX4_setDefault 4 (some .int), Cond.fieldLink RX4 33 "KindGuesser" "programLists" "LKindGuesser$ProgramLists;", Cond.methodLink RX4 61 yX4_requireKind, Cond.instanceMethod yX4_requireKind, Cond.selects RX4 yX4_requireKind yX4_requireKind, Cond.code yX4_requireKind cX4_requireKind 2 none, Cond.classLink RX4 41 "java/lang/IndexOutOfBoundsException", Cond.initialized "java/lang/IndexOutOfBoundsException", Cond.fieldLink RX4 10 "KindGuesser" "tree" "LKindGuesser$KindTree;", Cond.methodLink RX4 37 yX1_has, Cond.instanceMethod yX1_has, Cond.selects RX1 yX1_has yX1_has, Cond.initialized RX1, Cond.code yX1_has cX1_has 2 (some .boolean), Cond.fieldLink RX1 15 "KindGuesser$KindTree" "count" "I", Cond.methodLink RX4 65 yX4_requireRange, Cond.static yX4_requireRange, Cond.code yX4_requireRange cX4_requireRange 3 none]
def wsL_setDefault_r2 : List Cond := [Cond.methodLink RX4 69 yX4_requireArgument, Cond.static yX4_requireArgument, Cond.code yX4_requireArgument cX4_requireArgument 1 none, Cond.classLink RX4 209 "java/lang/IllegalArgumentException", Cond.initialized "java/lang/IllegalArgumentException", Cond.methodLink RX4 182 yX3_setDefaultOf, Cond.instanceMethod yX3_setDefaultOf, Cond.selects RX3 yX3_setDefaultOf yX3_setDefaultOf, Cond.initialized RX3, Cond.code yX3_setDefaultOf cX3_setDefaultOf 6 (some .int), Cond.fieldLink RX3 15 "KindGuesser$ProgramLists" "defaults" "[I", Cond.methodLink RX3 24 yX3_placeOf, Cond.static yX3_placeOf, Cond.code yX3_placeOf cX3_placeOf 2 (some .int)]
def wsL_setDefault : List Cond := .codeWith yL_setDefault cL_setDefault 6 (some .int) [(0, 12, 15, 13), (0, 12, 19, 21)] :: ((wsL_setDefault_r1 ++ wsL_setDefault_r2) ++ wsX40 ++ wsX10 ++ wsX30 ++ (vx_atS RX4 45 "java/lang/IndexOutOfBoundsException" ["java/lang/RuntimeException", "java/lang/Exception"]).filter goodWord ++ (vx_atS RX4 213 "java/lang/IllegalArgumentException" ["java/lang/RuntimeException", "java/lang/Exception"]).filter goodWord)
def wsL_programs_r1 : List Cond := [Cond.classLink RL 13 "java/lang/IndexOutOfBoundsException", Cond.methodLink RL 62 yX4_programs, Cond.instanceMethod yX4_programs, Cond.selects RX4 yX4_programs yX4_programs, Cond.initialized RX4, Cond.code yX4_programs cX4_programs 2 (some .int), Cond.fieldLink RX4 33 "KindGuesser" "programLists" "LKindGuesser$ProgramLists;", Cond.fieldLink RX4 10 "KindGuesser" "tree" "LKindGuesser$KindTree;", Cond.methodLink RX4 61 yX4_requireKind, Cond.instanceMethod yX4_requireKind, Cond.selects RX4 yX4_requireKind yX4_requireKind, Cond.code yX4_requireKind cX4_requireKind 2 none, Cond.classLink RX4 41 "java/lang/IndexOutOfBoundsException", Cond.initialized "java/lang/IndexOutOfBoundsException", Cond.methodLink RX4 37 yX1_has, Cond.instanceMethod yX1_has, Cond.selects RX1 yX1_has yX1_has, Cond.initialized RX1, Cond.code yX1_has cX1_has 2 (some .boolean), Cond.fieldLink RX1 15 "KindGuesser$KindTree" "count" "I", Cond.methodLink RX4 185 yX3_countPrograms, Cond.instanceMethod yX3_countPrograms, Cond.selects RX3 yX3_countPrograms yX3_countPrograms, Cond.initialized RX3]
def wsL_programs_r2 : List Cond := [Cond.code yX3_countPrograms cX3_countPrograms 6 (some .int), Cond.methodLink RX3 32 yX3_openersOf, Cond.instanceMethod yX3_openersOf, Cond.selects RX3 yX3_openersOf yX3_openersOf, Cond.code yX3_openersOf cX3_openersOf 4 (some .int), Cond.methodLink RX3 28 yX3_opens, Cond.instanceMethod yX3_opens, Cond.selects RX3 yX3_opens yX3_opens, Cond.code yX3_opens cX3_opens 5 (some .boolean), Cond.fieldLink RX3 9 "KindGuesser$ProgramLists" "standings" "[I", Cond.methodLink RX3 24 yX3_placeOf, Cond.static yX3_placeOf, Cond.code yX3_placeOf cX3_placeOf 2 (some .int), Cond.methodLink RX3 36 yX1_parentOf, Cond.instanceMethod yX1_parentOf, Cond.selects RX1 yX1_parentOf yX1_parentOf, Cond.code yX1_parentOf cX1_parentOf 2 (some .int), Cond.fieldLink RX1 9 "KindGuesser$KindTree" "parents" "[I", Cond.methodLink RX1 19 yX1_has, Cond.methodLink RX3 41 yJ6_bitCount_0f7a4, Cond.static yJ6_bitCount_0f7a4, Cond.initialized RJ6, Cond.code yJ6_bitCount_0f7a4 cJ6_bitCount_0f7a4 1 (some .int), Cond.constant RJ6 265 (1431655765)]
def wsL_programs_r3 : List Cond := [Cond.constant RJ6 266 (858993459), Cond.constant RJ6 267 (252645135)]
def wsL_programs : List Cond := .codeWith yL_programs cL_programs 4 (some .int) [(0, 9, 12, 13)] :: ((wsL_programs_r1 ++ (wsL_programs_r2 ++ wsL_programs_r3)) ++ wsX40 ++ wsX10 ++ wsX30 ++ (vx_atS RX4 45 "java/lang/IndexOutOfBoundsException" ["java/lang/RuntimeException", "java/lang/Exception"]).filter goodWord)
def wsL_programAt_r1 : List Cond := [Cond.classLink RL 13 "java/lang/IndexOutOfBoundsException", Cond.methodLink RL 65 yX4_programAt, Cond.instanceMethod yX4_programAt, Cond.selects RX4 yX4_programAt yX4_programAt, Cond.initialized RX4, Cond.code yX4_programAt cX4_programAt 4 (some .int), Cond.classLink RX4 41 "java/lang/IndexOutOfBoundsException", Cond.initialized "java/lang/IndexOutOfBoundsException", Cond.fieldLink RX4 33 "KindGuesser" "programLists" "LKindGuesser$ProgramLists;", Cond.fieldLink RX4 10 "KindGuesser" "tree" "LKindGuesser$KindTree;", Cond.methodLink RX4 61 yX4_requireKind, Cond.instanceMethod yX4_requireKind, Cond.selects RX4 yX4_requireKind yX4_requireKind, Cond.code yX4_requireKind cX4_requireKind 2 none, Cond.methodLink RX4 37 yX1_has, Cond.instanceMethod yX1_has, Cond.selects RX1 yX1_has yX1_has, Cond.initialized RX1, Cond.code yX1_has cX1_has 2 (some .boolean), Cond.fieldLink RX1 15 "KindGuesser$KindTree" "count" "I", Cond.methodLink RX4 188 yX3_programInOrder, Cond.instanceMethod yX3_programInOrder, Cond.selects RX3 yX3_programInOrder yX3_programInOrder, Cond.initialized RX3]
def wsL_programAt_r2 : List Cond := [Cond.code yX3_programInOrder cX3_programInOrder 9 (some .int), Cond.methodLink RX3 32 yX3_openersOf, Cond.instanceMethod yX3_openersOf, Cond.selects RX3 yX3_openersOf yX3_openersOf, Cond.code yX3_openersOf cX3_openersOf 4 (some .int), Cond.methodLink RX3 28 yX3_opens, Cond.instanceMethod yX3_opens, Cond.selects RX3 yX3_opens yX3_opens, Cond.code yX3_opens cX3_opens 5 (some .boolean), Cond.fieldLink RX3 9 "KindGuesser$ProgramLists" "standings" "[I", Cond.methodLink RX3 24 yX3_placeOf, Cond.static yX3_placeOf, Cond.code yX3_placeOf cX3_placeOf 2 (some .int), Cond.methodLink RX3 41 yJ6_bitCount_0f7a4, Cond.static yJ6_bitCount_0f7a4, Cond.initialized RJ6, Cond.code yJ6_bitCount_0f7a4 cJ6_bitCount_0f7a4 1 (some .int), Cond.constant RJ6 265 (1431655765), Cond.constant RJ6 266 (858993459), Cond.constant RJ6 267 (252645135), Cond.methodLink RX3 46 yX3_programOf, Cond.static yX3_programOf, Cond.code yX3_programOf cX3_programOf 4 (some .int), Cond.methodLink RX3 36 yX1_parentOf]
def wsL_programAt_r3 : List Cond := [Cond.instanceMethod yX1_parentOf, Cond.selects RX1 yX1_parentOf yX1_parentOf, Cond.code yX1_parentOf cX1_parentOf 2 (some .int), Cond.fieldLink RX1 9 "KindGuesser$KindTree" "parents" "[I", Cond.methodLink RX1 19 yX1_has]
def wsL_programAt : List Cond := .codeWith yL_programAt cL_programAt 5 (some .int) [(0, 10, 13, 13)] :: ((wsL_programAt_r1 ++ (wsL_programAt_r2 ++ wsL_programAt_r3)) ++ wsX40 ++ wsX10 ++ wsX30 ++ (vx_atS RX4 45 "java/lang/IndexOutOfBoundsException" ["java/lang/RuntimeException", "java/lang/Exception"]).filter goodWord)
def wsL_opener_r1 : List Cond := [Cond.classLink RL 13 "java/lang/IndexOutOfBoundsException", Cond.methodLink RL 68 yX4_opener, Cond.instanceMethod yX4_opener, Cond.selects RX4 yX4_opener yX4_opener, Cond.initialized RX4, Cond.code yX4_opener cX4_opener 2 (some .int), Cond.fieldLink RX4 33 "KindGuesser" "programLists" "LKindGuesser$ProgramLists;", Cond.fieldLink RX4 10 "KindGuesser" "tree" "LKindGuesser$KindTree;", Cond.methodLink RX4 61 yX4_requireKind, Cond.instanceMethod yX4_requireKind, Cond.selects RX4 yX4_requireKind yX4_requireKind, Cond.code yX4_requireKind cX4_requireKind 2 none, Cond.classLink RX4 41 "java/lang/IndexOutOfBoundsException", Cond.initialized "java/lang/IndexOutOfBoundsException", Cond.methodLink RX4 37 yX1_has, Cond.instanceMethod yX1_has, Cond.selects RX1 yX1_has yX1_has, Cond.initialized RX1, Cond.code yX1_has cX1_has 2 (some .boolean), Cond.fieldLink RX1 15 "KindGuesser$KindTree" "count" "I", Cond.methodLink RX4 194 yX3_defaultUpward, Cond.instanceMethod yX3_defaultUpward, Cond.selects RX3 yX3_defaultUpward yX3_defaultUpward, Cond.initialized RX3]
def wsL_opener_r2 : List Cond := [Cond.code yX3_defaultUpward cX3_defaultUpward 6 (some .int), Cond.methodLink RX3 49 yX3_defaultOf, Cond.instanceMethod yX3_defaultOf, Cond.selects RX3 yX3_defaultOf yX3_defaultOf, Cond.code yX3_defaultOf cX3_defaultOf 4 (some .int), Cond.fieldLink RX3 15 "KindGuesser$ProgramLists" "defaults" "[I", Cond.methodLink RX3 24 yX3_placeOf, Cond.static yX3_placeOf, Cond.code yX3_placeOf cX3_placeOf 2 (some .int), Cond.methodLink RX3 28 yX3_opens, Cond.instanceMethod yX3_opens, Cond.selects RX3 yX3_opens yX3_opens, Cond.code yX3_opens cX3_opens 5 (some .boolean), Cond.fieldLink RX3 9 "KindGuesser$ProgramLists" "standings" "[I", Cond.methodLink RX3 36 yX1_parentOf, Cond.instanceMethod yX1_parentOf, Cond.selects RX1 yX1_parentOf yX1_parentOf, Cond.code yX1_parentOf cX1_parentOf 2 (some .int), Cond.fieldLink RX1 9 "KindGuesser$KindTree" "parents" "[I", Cond.methodLink RX1 19 yX1_has]
def wsL_opener : List Cond := .codeWith yL_opener cL_opener 4 (some .int) [(0, 9, 12, 13)] :: ((wsL_opener_r1 ++ wsL_opener_r2) ++ wsX40 ++ wsX10 ++ wsX30 ++ (vx_atS RX4 45 "java/lang/IndexOutOfBoundsException" ["java/lang/RuntimeException", "java/lang/Exception"]).filter goodWord)
def wsL_law0_r1 : List Cond := [Cond.classLink RL 8 RX4, Cond.instantiable RX4 4, Cond.initialized RX4, Cond.classLink RL 72 RX5, Cond.instantiable RX5 24, Cond.initialized RX5, Cond.arrayClass .long, Cond.methodLink RL 71 yX4_init, Cond.instanceMethod yX4_init, Cond.code yX4_init cX4_init 1 none, Cond.methodLink RX4 1 objectInit, Cond.instanceMethod objectInit, Cond.code objectInit ⟨#[0xb1]⟩ 1 none, Cond.classLink RX4 7 RX1, Cond.instantiable RX1 2, Cond.initialized RX1, Cond.fieldLink RX4 10 "KindGuesser" "tree" "LKindGuesser$KindTree;", Cond.classLink RX4 16 RX2, Cond.instantiable RX2 10, Cond.initialized RX2, Cond.fieldLink RX4 19 "KindGuesser" "nameSide" "LKindGuesser$NameSide;", Cond.classLink RX4 23 RX0, Cond.instantiable RX0 12, Cond.initialized RX0]
def wsL_law0_r2 : List Cond := [Cond.fieldLink RX4 26 "KindGuesser" "byteSide" "LKindGuesser$ByteSide;", Cond.classLink RX4 30 RX3, Cond.instantiable RX3 2, Cond.initialized RX3, Cond.fieldLink RX4 33 "KindGuesser" "programLists" "LKindGuesser$ProgramLists;", Cond.instanceMethod yX1_init, Cond.code yX1_init cX1_init 1 none, Cond.methodLink RX1 3 objectInit, Cond.arrayClass .int, Cond.fieldLink RX1 9 "KindGuesser$KindTree" "parents" "[I", Cond.fieldLink RX1 15 "KindGuesser$KindTree" "count" "I", Cond.instanceMethod yX2_init, Cond.code yX2_init cX2_init 1 none, Cond.methodLink RX2 3 objectInit, Cond.fieldLink RX2 9 "KindGuesser$NameSide" "letters" "[I", Cond.fieldLink RX2 15 "KindGuesser$NameSide" "letterCount" "I", Cond.fieldLink RX2 19 "KindGuesser$NameSide" "kindsOfPatterns" "[I", Cond.fieldLink RX2 22 "KindGuesser$NameSide" "weights" "[I", Cond.fieldLink RX2 25 "KindGuesser$NameSide" "lengths" "[I", Cond.arrayClass .boolean, Cond.fieldLink RX2 28 "KindGuesser$NameSide" "there" "[Z", Cond.fieldLink RX2 32 "KindGuesser$NameSide" "tokenRows" "[I", Cond.fieldLink RX2 35 "KindGuesser$NameSide" "patternCount" "I", Cond.fieldLink RX2 38 "KindGuesser$NameSide" "thereCount" "I"]
def wsL_law0_r3 : List Cond := [Cond.fieldLink RX2 41 "KindGuesser$NameSide" "table" "[Z", Cond.instanceMethod yX0_init, Cond.code yX0_init cX0_init 1 none, Cond.methodLink RX0 3 objectInit, Cond.fieldLink RX0 9 "KindGuesser$ByteSide" "values" "[I", Cond.fieldLink RX0 15 "KindGuesser$ByteSide" "byteCount" "I", Cond.fieldLink RX0 19 "KindGuesser$ByteSide" "kindsOfRules" "[I", Cond.fieldLink RX0 22 "KindGuesser$ByteSide" "priorities" "[I", Cond.fieldLink RX0 25 "KindGuesser$ByteSide" "testCounts" "[I", Cond.fieldLink RX0 28 "KindGuesser$ByteSide" "ruleCount" "I", Cond.fieldLink RX0 31 "KindGuesser$ByteSide" "levels" "[I", Cond.fieldLink RX0 34 "KindGuesser$ByteSide" "froms" "[I", Cond.fieldLink RX0 37 "KindGuesser$ByteSide" "tos" "[I", Cond.fieldLink RX0 40 "KindGuesser$ByteSide" "wanted" "[I", Cond.fieldLink RX0 43 "KindGuesser$ByteSide" "masks" "[I", Cond.fieldLink RX0 46 "KindGuesser$ByteSide" "leads" "[Z", Cond.methodLink RX4 32 yX3_init, Cond.instanceMethod yX3_init, Cond.code yX3_init cX3_init 1 none, Cond.methodLink RX3 3 objectInit, Cond.fieldLink RX3 9 "KindGuesser$ProgramLists" "standings" "[I", Cond.fieldLink RX3 15 "KindGuesser$ProgramLists" "defaults" "[I", Cond.methodLink RX3 18 yJ7_fill_53178, Cond.static yJ7_fill_53178]
def wsL_law0_r4 : List Cond := [Cond.initialized RJ7, Cond.code yJ7_fill_53178 cJ7_fill_53178 4 none, Cond.methodLink RL 74 yX5_init, Cond.instanceMethod yX5_init, Cond.code yX5_init cX5_init 1 none, Cond.methodLink RX5 1 objectInit, Cond.fieldLink RX5 7 "KindGuesserModel" "parent" "[I", Cond.fieldLink RX5 13 "KindGuesserModel" "patternOf" "[I", Cond.fieldLink RX5 16 "KindGuesserModel" "weight" "[I", Cond.fieldLink RX5 19 "KindGuesserModel" "tokens" "[I", Cond.fieldLink RX5 22 "KindGuesserModel" "token" "[I", Cond.fieldLink RX5 25 "KindGuesserModel" "dropped" "[Z", Cond.fieldLink RX5 29 "KindGuesserModel" "ruleOf" "[I", Cond.fieldLink RX5 32 "KindGuesserModel" "priority" "[I", Cond.fieldLink RX5 35 "KindGuesserModel" "tests" "[I", Cond.fieldLink RX5 38 "KindGuesserModel" "level" "[I", Cond.fieldLink RX5 41 "KindGuesserModel" "from" "[I", Cond.fieldLink RX5 44 "KindGuesserModel" "to" "[I", Cond.fieldLink RX5 47 "KindGuesserModel" "value" "[I", Cond.fieldLink RX5 50 "KindGuesserModel" "mask" "[I", Cond.fieldLink RX5 53 "KindGuesserModel" "name" "[I", Cond.fieldLink RX5 56 "KindGuesserModel" "data" "[I", Cond.fieldLink RX5 59 "KindGuesserModel" "stand" "[I", Cond.fieldLink RX5 62 "KindGuesserModel" "usual" "[I"]
def wsL_law0_r5 : List Cond := [Cond.methodLink RL 75 yL_kind, Cond.static yL_kind, Cond.initialized RL, Cond.codeWith yL_kind cL_kind 4 (some .int) [(0, 9, 12, 13), (0, 9, 15, 15)], Cond.classLink RL 13 "java/lang/IndexOutOfBoundsException", Cond.classLink RL 15 "java/lang/IllegalStateException", Cond.methodLink RL 7 yX4_kind, Cond.instanceMethod yX4_kind, Cond.selects RX4 yX4_kind yX4_kind, Cond.code yX4_kind cX4_kind 2 (some .int), Cond.classLink RX4 41 "java/lang/IndexOutOfBoundsException", Cond.initialized "java/lang/IndexOutOfBoundsException", Cond.classLink RX4 52 "java/lang/IllegalStateException", Cond.initialized "java/lang/IllegalStateException", Cond.methodLink RX4 37 yX1_has, Cond.instanceMethod yX1_has, Cond.selects RX1 yX1_has yX1_has, Cond.code yX1_has cX1_has 2 (some .boolean), Cond.methodLink RX4 48 yX1_isFull, Cond.instanceMethod yX1_isFull, Cond.selects RX1 yX1_isFull yX1_isFull, Cond.code yX1_isFull cX1_isFull 1 (some .boolean), Cond.methodLink RX4 57 yX1_add, Cond.instanceMethod yX1_add]
def wsL_law0_r6 : List Cond := [Cond.selects RX1 yX1_add yX1_add, Cond.code yX1_add cX1_add 2 (some .int), Cond.methodLink RL 80 yX5_kind, Cond.instanceMethod yX5_kind, Cond.selects RX5 yX5_kind yX5_kind, Cond.code yX5_kind cX5_kind 2 (some .int), Cond.fieldLink RX5 69 "KindGuesserModel" "kinds" "I", Cond.methodLink RX5 76 yX5_isKind, Cond.instanceMethod yX5_isKind, Cond.selects RX5 yX5_isKind yX5_isKind, Cond.code yX5_isKind cX5_isKind 2 (some .boolean), Cond.methodLink RX5 72 yX5_in, Cond.static yX5_in, Cond.code yX5_in cX5_in 3 (some .boolean), Cond.methodLink RX5 80 yX5_asked_, Cond.instanceMethod yX5_asked_, Cond.selects RX5 yX5_asked_ yX5_asked_, Cond.code yX5_asked_ cX5_asked_ 3 (some .boolean), Cond.fieldLink RX5 65 "KindGuesserModel" "thrown" "I", Cond.methodLink RL 81 yX5_thrown, Cond.instanceMethod yX5_thrown, Cond.selects RX5 yX5_thrown yX5_thrown, Cond.code yX5_thrown cX5_thrown 1 (some .int), Cond.methodLink RL 85 yL_pattern]
def wsL_law0_r7 : List Cond := [Cond.static yL_pattern, Cond.codeWith yL_pattern cL_pattern 8 (some .int) [(0, 16, 19, 13), (0, 16, 23, 21), (0, 16, 27, 15)], Cond.classLink RL 21 "java/lang/IllegalArgumentException", Cond.methodLink RL 17 yX4_pattern, Cond.instanceMethod yX4_pattern, Cond.selects RX4 yX4_pattern yX4_pattern, Cond.code yX4_pattern cX4_pattern 7 (some .int), Cond.methodLink RX4 61 yX4_requireKind, Cond.instanceMethod yX4_requireKind, Cond.selects RX4 yX4_requireKind yX4_requireKind, Cond.code yX4_requireKind cX4_requireKind 2 none, Cond.methodLink RX4 65 yX4_requireRange, Cond.static yX4_requireRange, Cond.code yX4_requireRange cX4_requireRange 3 none, Cond.methodLink RX4 69 yX4_requireArgument, Cond.static yX4_requireArgument, Cond.code yX4_requireArgument cX4_requireArgument 1 none, Cond.classLink RX4 209 "java/lang/IllegalArgumentException", Cond.initialized "java/lang/IllegalArgumentException", Cond.methodLink RX4 73 yX4_tokenAt, Cond.static yX4_tokenAt, Cond.code yX4_tokenAt cX4_tokenAt 6 (some .int), Cond.methodLink RX4 77 yX2_isFullOfPatterns, Cond.instanceMethod yX2_isFullOfPatterns]
def wsL_law0_r8 : List Cond := [Cond.selects RX2 yX2_isFullOfPatterns yX2_isFullOfPatterns, Cond.code yX2_isFullOfPatterns cX2_isFullOfPatterns 1 (some .boolean), Cond.methodLink RX4 82 yX2_writeToken, Cond.instanceMethod yX2_writeToken, Cond.selects RX2 yX2_writeToken yX2_writeToken, Cond.code yX2_writeToken cX2_writeToken 3 none, Cond.methodLink RX4 86 yX2_addPattern, Cond.instanceMethod yX2_addPattern, Cond.selects RX2 yX2_addPattern yX2_addPattern, Cond.code yX2_addPattern cX2_addPattern 5 (some .int), Cond.methodLink RL 88 yX5_pattern, Cond.instanceMethod yX5_pattern, Cond.selects RX5 yX5_pattern yX5_pattern, Cond.code yX5_pattern cX5_pattern 8 (some .int), Cond.fieldLink RX5 88 "KindGuesserModel" "patterns" "I", Cond.methodLink RX5 84 yX5_digits, Cond.static yX5_digits, Cond.code yX5_digits cX5_digits 5 (some .int), Cond.methodLink RX5 91 yX5_asked__, Cond.instanceMethod yX5_asked__, Cond.selects RX5 yX5_asked__ yX5_asked__, Cond.code yX5_asked__ cX5_asked__ 4 (some .boolean), Cond.methodLink RL 89 yL_drop, Cond.static yL_drop]
def wsL_law0_r9 : List Cond := [Cond.codeWith yL_drop cL_drop 4 (some .int) [(0, 9, 12, 13)], Cond.methodLink RL 23 yX4_drop, Cond.instanceMethod yX4_drop, Cond.selects RX4 yX4_drop yX4_drop, Cond.code yX4_drop cX4_drop 2 (some .int), Cond.methodLink RX4 89 yX4_requirePattern, Cond.instanceMethod yX4_requirePattern, Cond.selects RX4 yX4_requirePattern yX4_requirePattern, Cond.code yX4_requirePattern cX4_requirePattern 2 none, Cond.methodLink RX4 199 yX2_hasPattern, Cond.instanceMethod yX2_hasPattern, Cond.selects RX2 yX2_hasPattern yX2_hasPattern, Cond.code yX2_hasPattern cX2_hasPattern 2 (some .boolean), Cond.methodLink RX4 92 yX2_dropPattern, Cond.instanceMethod yX2_dropPattern, Cond.selects RX2 yX2_dropPattern yX2_dropPattern, Cond.code yX2_dropPattern cX2_dropPattern 2 (some .int), Cond.methodLink RL 91 yX5_drop, Cond.instanceMethod yX5_drop, Cond.selects RX5 yX5_drop yX5_drop, Cond.code yX5_drop cX5_drop 4 (some .int), Cond.methodLink RX5 94 yX5_isThere, Cond.instanceMethod yX5_isThere, Cond.selects RX5 yX5_isThere yX5_isThere]
def wsL_law0_r10 : List Cond := [Cond.code yX5_isThere cX5_isThere 2 (some .boolean), Cond.methodLink RX5 97 yX5_asked, Cond.instanceMethod yX5_asked, Cond.selects RX5 yX5_asked yX5_asked, Cond.code yX5_asked cX5_asked 2 (some .boolean), Cond.methodLink RL 92 yL_rule, Cond.static yL_rule, Cond.codeWith yL_rule cL_rule 5 (some .int) [(0, 10, 13, 13), (0, 10, 17, 21), (0, 10, 21, 15)], Cond.methodLink RL 26 yX4_rule, Cond.instanceMethod yX4_rule, Cond.selects RX4 yX4_rule yX4_rule, Cond.code yX4_rule cX4_rule 3 (some .int), Cond.methodLink RX4 95 yX0_isFullOfRules, Cond.instanceMethod yX0_isFullOfRules, Cond.selects RX0 yX0_isFullOfRules yX0_isFullOfRules, Cond.code yX0_isFullOfRules cX0_isFullOfRules 1 (some .boolean), Cond.methodLink RX4 100 yX0_addRule, Cond.instanceMethod yX0_addRule, Cond.selects RX0 yX0_addRule yX0_addRule, Cond.code yX0_addRule cX0_addRule 3 (some .int), Cond.methodLink RL 95 yX5_rule, Cond.instanceMethod yX5_rule, Cond.selects RX5 yX5_rule yX5_rule, Cond.code yX5_rule cX5_rule 3 (some .int)]
def wsL_law0_r11 : List Cond := [Cond.fieldLink RX5 100 "KindGuesserModel" "rules" "I", Cond.methodLink RL 96 yL_test, Cond.static yL_test, Cond.codeWith yL_test cL_test 9 (some .int) [(0, 18, 21, 13), (0, 18, 25, 21), (0, 18, 29, 15)], Cond.methodLink RL 30 yX4_test, Cond.instanceMethod yX4_test, Cond.selects RX4 yX4_test yX4_test, Cond.code yX4_test cX4_test 7 (some .int), Cond.methodLink RX4 104 yX4_requireRule, Cond.instanceMethod yX4_requireRule, Cond.selects RX4 yX4_requireRule yX4_requireRule, Cond.code yX4_requireRule cX4_requireRule 2 none, Cond.methodLink RX4 204 yX0_hasRule, Cond.instanceMethod yX0_hasRule, Cond.selects RX0 yX0_hasRule yX0_hasRule, Cond.code yX0_hasRule cX0_hasRule 2 (some .boolean), Cond.methodLink RX4 107 yX0_greatestNextLevel, Cond.instanceMethod yX0_greatestNextLevel, Cond.selects RX0 yX0_greatestNextLevel yX0_greatestNextLevel, Cond.code yX0_greatestNextLevel cX0_greatestNextLevel 3 (some .int), Cond.methodLink RX4 110 yX0_isFullOfTests, Cond.instanceMethod yX0_isFullOfTests, Cond.selects RX0 yX0_isFullOfTests yX0_isFullOfTests, Cond.code yX0_isFullOfTests cX0_isFullOfTests 2 (some .boolean)]
def wsL_law0_r12 : List Cond := [Cond.methodLink RX4 115 yX0_addTest, Cond.instanceMethod yX0_addTest, Cond.selects RX0 yX0_addTest yX0_addTest, Cond.code yX0_addTest cX0_addTest 8 (some .int), Cond.methodLink RL 99 yX5_test, Cond.instanceMethod yX5_test, Cond.selects RX5 yX5_test yX5_test, Cond.code yX5_test cX5_test 12 (some .int), Cond.methodLink RX5 103 yX5_isRule, Cond.instanceMethod yX5_isRule, Cond.selects RX5 yX5_isRule yX5_isRule, Cond.code yX5_isRule cX5_isRule 2 (some .boolean), Cond.methodLink RL 100 yX4_kinds, Cond.instanceMethod yX4_kinds, Cond.selects RX4 yX4_kinds yX4_kinds, Cond.code yX4_kinds cX4_kinds 1 (some .int), Cond.methodLink RX4 119 yX1_size, Cond.instanceMethod yX1_size, Cond.selects RX1 yX1_size yX1_size, Cond.code yX1_size cX1_size 1 (some .int), Cond.methodLink RL 103 yX5_kinds, Cond.instanceMethod yX5_kinds, Cond.selects RX5 yX5_kinds yX5_kinds, Cond.code yX5_kinds cX5_kinds 1 (some .int)]
def wsL_law0_r13 : List Cond := [Cond.methodLink RX5 106 yX5_told, Cond.instanceMethod yX5_told, Cond.selects RX5 yX5_told yX5_told, Cond.code yX5_told cX5_told 2 (some .int), Cond.methodLink RL 104 yL_isSpecial, Cond.static yL_isSpecial, Cond.codeWith yL_isSpecial cL_isSpecial 5 (some .int) [(0, 17, 20, 13)], Cond.methodLink RL 34 yX4_isSpecial, Cond.instanceMethod yX4_isSpecial, Cond.selects RX4 yX4_isSpecial yX4_isSpecial, Cond.code yX4_isSpecial cX4_isSpecial 3 (some .boolean), Cond.methodLink RX4 123 yX1_leadsUp, Cond.instanceMethod yX1_leadsUp, Cond.selects RX1 yX1_leadsUp yX1_leadsUp, Cond.code yX1_leadsUp cX1_leadsUp 5 (some .boolean), Cond.methodLink RX1 23 yX1_parentOf, Cond.instanceMethod yX1_parentOf, Cond.selects RX1 yX1_parentOf yX1_parentOf, Cond.code yX1_parentOf cX1_parentOf 2 (some .int), Cond.methodLink RX1 19 yX1_has, Cond.methodLink RL 106 yX5_isSpecial, Cond.instanceMethod yX5_isSpecial, Cond.selects RX5 yX5_isSpecial yX5_isSpecial, Cond.code yX5_isSpecial cX5_isSpecial 3 (some .boolean)]
def wsL_law0_r14 : List Cond := [Cond.methodLink RX5 110 yX5_special, Cond.instanceMethod yX5_special, Cond.selects RX5 yX5_special yX5_special, Cond.code yX5_special cX5_special 4 (some .boolean), Cond.methodLink RL 107 yL_letter, Cond.static yL_letter, Cond.codeWith yL_letter cL_letter 4 (some .int) [(0, 9, 12, 21), (0, 9, 15, 15)], Cond.methodLink RL 38 yX4_letter, Cond.instanceMethod yX4_letter, Cond.selects RX4 yX4_letter yX4_letter, Cond.code yX4_letter cX4_letter 2 (some .int), Cond.methodLink RX4 127 yX2_isFullOfLetters, Cond.instanceMethod yX2_isFullOfLetters, Cond.selects RX2 yX2_isFullOfLetters yX2_isFullOfLetters, Cond.code yX2_isFullOfLetters cX2_isFullOfLetters 1 (some .boolean), Cond.methodLink RX4 132 yX2_addLetter, Cond.instanceMethod yX2_addLetter, Cond.selects RX2 yX2_addLetter yX2_addLetter, Cond.code yX2_addLetter cX2_addLetter 2 (some .int), Cond.methodLink RL 109 yX5_letter, Cond.instanceMethod yX5_letter, Cond.selects RX5 yX5_letter yX5_letter, Cond.code yX5_letter cX5_letter 2 (some .int), Cond.fieldLink RX5 114 "KindGuesserModel" "letters" "I"]
def wsL_law0_r15 : List Cond := [Cond.methodLink RL 110 yL_put, Cond.static yL_put, Cond.codeWith yL_put cL_put 4 (some .int) [(0, 9, 12, 21), (0, 9, 15, 15)], Cond.methodLink RL 41 yX4_put, Cond.instanceMethod yX4_put, Cond.selects RX4 yX4_put yX4_put, Cond.code yX4_put cX4_put 2 (some .int), Cond.methodLink RX4 135 yX0_isFullOfBytes, Cond.instanceMethod yX0_isFullOfBytes, Cond.selects RX0 yX0_isFullOfBytes yX0_isFullOfBytes, Cond.code yX0_isFullOfBytes cX0_isFullOfBytes 1 (some .boolean), Cond.methodLink RX4 140 yX0_addByte, Cond.instanceMethod yX0_addByte, Cond.selects RX0 yX0_addByte yX0_addByte, Cond.code yX0_addByte cX0_addByte 2 (some .int), Cond.methodLink RL 112 yX5_put, Cond.instanceMethod yX5_put, Cond.selects RX5 yX5_put yX5_put, Cond.code yX5_put cX5_put 2 (some .int), Cond.fieldLink RX5 117 "KindGuesserModel" "bytes" "I", Cond.methodLink RL 113 yX4_empty, Cond.instanceMethod yX4_empty, Cond.selects RX4 yX4_empty yX4_empty, Cond.code yX4_empty cX4_empty 1 (some .int)]
def wsL_law0_r16 : List Cond := [Cond.methodLink RX4 143 yX2_clearName, Cond.instanceMethod yX2_clearName, Cond.selects RX2 yX2_clearName yX2_clearName, Cond.code yX2_clearName cX2_clearName 2 (some .int), Cond.methodLink RX4 146 yX0_clearBytes, Cond.instanceMethod yX0_clearBytes, Cond.selects RX0 yX0_clearBytes yX0_clearBytes, Cond.code yX0_clearBytes cX0_clearBytes 2 (some .int), Cond.methodLink RL 116 yX5_empty, Cond.instanceMethod yX5_empty, Cond.selects RX5 yX5_empty yX5_empty, Cond.code yX5_empty cX5_empty 2 (some .int), Cond.methodLink RL 117 yL_fits, Cond.static yL_fits, Cond.codeWith yL_fits cL_fits 4 (some .int) [(0, 16, 19, 13)], Cond.methodLink RL 44 yX4_fits, Cond.instanceMethod yX4_fits, Cond.selects RX4 yX4_fits yX4_fits, Cond.code yX4_fits cX4_fits 2 (some .boolean), Cond.methodLink RX4 149 yX2_fitsName, Cond.instanceMethod yX2_fitsName, Cond.selects RX2 yX2_fitsName yX2_fitsName, Cond.code yX2_fitsName cX2_fitsName 5 (some .boolean), Cond.methodLink RX2 64 yX2_reachedAfter]
def wsL_law0_r17 : List Cond := [Cond.instanceMethod yX2_reachedAfter, Cond.selects RX2 yX2_reachedAfter yX2_reachedAfter, Cond.code yX2_reachedAfter cX2_reachedAfter 6 (some .int), Cond.methodLink RX2 68 yX2_isReached, Cond.static yX2_isReached, Cond.code yX2_isReached cX2_isReached 2 (some .boolean), Cond.methodLink RX2 71 yX2_standsFor, Cond.instanceMethod yX2_standsFor, Cond.selects RX2 yX2_standsFor yX2_standsFor, Cond.code yX2_standsFor cX2_standsFor 3 (some .boolean), Cond.methodLink RL 119 yX5_fits, Cond.instanceMethod yX5_fits, Cond.selects RX5 yX5_fits yX5_fits, Cond.code yX5_fits cX5_fits 2 (some .boolean), Cond.methodLink RX5 120 yX5_fit, Cond.instanceMethod yX5_fit, Cond.selects RX5 yX5_fit yX5_fit, Cond.code yX5_fit cX5_fit 8 (some .boolean), Cond.methodLink RL 120 yL_fitsByTable, Cond.static yL_fitsByTable, Cond.codeWith yL_fitsByTable cL_fitsByTable 4 (some .int) [(0, 16, 19, 13)], Cond.methodLink RL 48 yX4_fitsByTable, Cond.instanceMethod yX4_fitsByTable, Cond.selects RX4 yX4_fitsByTable yX4_fitsByTable]
def wsL_law0_r18 : List Cond := [Cond.code yX4_fitsByTable cX4_fitsByTable 2 (some .boolean), Cond.methodLink RX4 152 yX2_fitsNameByTable, Cond.instanceMethod yX2_fitsNameByTable, Cond.selects RX2 yX2_fitsNameByTable yX2_fitsNameByTable, Cond.code yX2_fitsNameByTable cX2_fitsNameByTable 4 (some .boolean), Cond.methodLink RX2 74 yX2_fillLine, Cond.instanceMethod yX2_fillLine, Cond.selects RX2 yX2_fillLine yX2_fillLine, Cond.code yX2_fillLine cX2_fillLine 6 none, Cond.methodLink RL 122 yX5_fitsByTable, Cond.instanceMethod yX5_fitsByTable, Cond.selects RX5 yX5_fitsByTable yX5_fitsByTable, Cond.code yX5_fitsByTable cX5_fitsByTable 2 (some .boolean), Cond.methodLink RX5 123 yX5_fits, Cond.methodLink RL 123 yL_proves, Cond.static yL_proves, Cond.codeWith yL_proves cL_proves 4 (some .int) [(0, 16, 19, 13)], Cond.methodLink RL 51 yX4_proves, Cond.instanceMethod yX4_proves, Cond.selects RX4 yX4_proves yX4_proves, Cond.code yX4_proves cX4_proves 2 (some .boolean), Cond.methodLink RX4 155 yX0_provesKind, Cond.instanceMethod yX0_provesKind, Cond.selects RX0 yX0_provesKind yX0_provesKind]
def wsL_law0_r19 : List Cond := [Cond.code yX0_provesKind cX0_provesKind 6 (some .boolean), Cond.methodLink RX0 60 yX0_holds, Cond.instanceMethod yX0_holds, Cond.selects RX0 yX0_holds yX0_holds, Cond.code yX0_holds cX0_holds 3 (some .boolean), Cond.methodLink RX0 63 yX0_leadsBelow, Cond.instanceMethod yX0_leadsBelow, Cond.selects RX0 yX0_leadsBelow yX0_leadsBelow, Cond.code yX0_leadsBelow cX0_leadsBelow 6 (some .boolean), Cond.methodLink RL 125 yX5_proves, Cond.instanceMethod yX5_proves, Cond.selects RX5 yX5_proves yX5_proves, Cond.code yX5_proves cX5_proves 2 (some .boolean), Cond.methodLink RX5 129 yX5_proof, Cond.instanceMethod yX5_proof, Cond.selects RX5 yX5_proof yX5_proof, Cond.code yX5_proof cX5_proof 10 (some .boolean), Cond.methodLink RX5 126 yX5_holds, Cond.instanceMethod yX5_holds, Cond.selects RX5 yX5_holds yX5_holds, Cond.code yX5_holds cX5_holds 4 (some .boolean), Cond.methodLink RL 126 yX4_byName, Cond.instanceMethod yX4_byName, Cond.selects RX4 yX4_byName yX4_byName]
def wsL_law0_r20 : List Cond := [Cond.code yX4_byName cX4_byName 1 (some .int), Cond.methodLink RX4 158 yX2_firstFitting, Cond.instanceMethod yX2_firstFitting, Cond.selects RX2 yX2_firstFitting yX2_firstFitting, Cond.code yX2_firstFitting cX2_firstFitting 6 (some .int), Cond.methodLink RX2 48 yX2_isAhead, Cond.instanceMethod yX2_isAhead, Cond.selects RX2 yX2_isAhead yX2_isAhead, Cond.code yX2_isAhead cX2_isAhead 3 (some .boolean), Cond.methodLink RX2 52 yX2_isOf, Cond.instanceMethod yX2_isOf, Cond.selects RX2 yX2_isOf yX2_isOf, Cond.code yX2_isOf cX2_isOf 4 (some .boolean), Cond.methodLink RX2 59 yX1_leadsUp, Cond.methodLink RX2 56 yX2_fitsName, Cond.methodLink RX4 162 yX2_kindOf, Cond.instanceMethod yX2_kindOf, Cond.selects RX2 yX2_kindOf yX2_kindOf, Cond.code yX2_kindOf cX2_kindOf 2 (some .int), Cond.methodLink RX2 44 yX2_hasPattern, Cond.methodLink RL 129 yX5_byName, Cond.instanceMethod yX5_byName, Cond.selects RX5 yX5_byName yX5_byName, Cond.code yX5_byName cX5_byName 1 (some .int)]
def wsL_law0_r21 : List Cond := [Cond.methodLink RX5 135 yX5_named, Cond.instanceMethod yX5_named, Cond.selects RX5 yX5_named yX5_named, Cond.code yX5_named cX5_named 2 (some .int), Cond.methodLink RX5 132 yX5_first, Cond.instanceMethod yX5_first, Cond.selects RX5 yX5_first yX5_first, Cond.code yX5_first cX5_first 5 (some .int), Cond.methodLink RL 130 yX4_byBytes, Cond.instanceMethod yX4_byBytes, Cond.selects RX4 yX4_byBytes yX4_byBytes, Cond.code yX4_byBytes cX4_byBytes 1 (some .int), Cond.methodLink RX4 165 yX0_provingRule, Cond.instanceMethod yX0_provingRule, Cond.selects RX0 yX0_provingRule yX0_provingRule, Cond.code yX0_provingRule cX0_provingRule 4 (some .int), Cond.methodLink RX0 57 yX0_provesKind, Cond.methodLink RX4 168 yX0_kindOf, Cond.instanceMethod yX0_kindOf, Cond.selects RX0 yX0_kindOf yX0_kindOf, Cond.code yX0_kindOf cX0_kindOf 2 (some .int), Cond.methodLink RX0 54 yX0_hasRule, Cond.methodLink RL 133 yX5_byBytes, Cond.instanceMethod yX5_byBytes]
def wsL_law0_r22 : List Cond := [Cond.selects RX5 yX5_byBytes yX5_byBytes, Cond.code yX5_byBytes cX5_byBytes 2 (some .int), Cond.methodLink RX5 139 yX5_proven, Cond.instanceMethod yX5_proven, Cond.selects RX5 yX5_proven yX5_proven, Cond.code yX5_proven cX5_proven 3 (some .int), Cond.methodLink RL 134 yX4_guess, Cond.instanceMethod yX4_guess, Cond.selects RX4 yX4_guess yX4_guess, Cond.code yX4_guess cX4_guess 3 (some .int), Cond.methodLink RX4 169 yX4_guessWithBytes, Cond.instanceMethod yX4_guessWithBytes, Cond.selects RX4 yX4_guessWithBytes yX4_guessWithBytes, Cond.code yX4_guessWithBytes cX4_guessWithBytes 5 (some .int), Cond.methodLink RX4 175 yX0_isStrong, Cond.instanceMethod yX0_isStrong, Cond.selects RX0 yX0_isStrong yX0_isStrong, Cond.code yX0_isStrong cX0_isStrong 2 (some .boolean), Cond.methodLink RX4 172 yX0_isText, Cond.instanceMethod yX0_isText, Cond.selects RX0 yX0_isText yX0_isText, Cond.code yX0_isText cX0_isText 2 (some .boolean), Cond.methodLink RX0 50 yX0_isTextByte, Cond.static yX0_isTextByte]
def wsL_law0_r23 : List Cond := [Cond.code yX0_isTextByte cX0_isTextByte 1 (some .boolean), Cond.methodLink RL 137 yX5_guess, Cond.instanceMethod yX5_guess, Cond.selects RX5 yX5_guess yX5_guess, Cond.code yX5_guess cX5_guess 5 (some .int), Cond.methodLink RL 138 yL_program, Cond.static yL_program, Cond.codeWith yL_program cL_program 7 (some .int) [(0, 14, 17, 13), (0, 14, 21, 21)], Cond.methodLink RL 54 yX4_program, Cond.instanceMethod yX4_program, Cond.selects RX4 yX4_program yX4_program, Cond.code yX4_program cX4_program 5 (some .int), Cond.methodLink RX4 178 yX3_setStanding, Cond.instanceMethod yX3_setStanding, Cond.selects RX3 yX3_setStanding yX3_setStanding, Cond.code yX3_setStanding cX3_setStanding 7 (some .int), Cond.methodLink RX3 24 yX3_placeOf, Cond.static yX3_placeOf, Cond.code yX3_placeOf cX3_placeOf 2 (some .int), Cond.methodLink RL 141 yX5_program, Cond.instanceMethod yX5_program, Cond.selects RX5 yX5_program yX5_program, Cond.code yX5_program cX5_program 7 (some .int), Cond.methodLink RX5 142 yX5_isList]
def wsL_law0_r24 : List Cond := [Cond.static yX5_isList, Cond.code yX5_isList cX5_isList 1 (some .boolean), Cond.methodLink RL 142 yL_setDefault, Cond.static yL_setDefault, Cond.codeWith yL_setDefault cL_setDefault 6 (some .int) [(0, 12, 15, 13), (0, 12, 19, 21)], Cond.methodLink RL 58 yX4_setDefault, Cond.instanceMethod yX4_setDefault, Cond.selects RX4 yX4_setDefault yX4_setDefault, Cond.code yX4_setDefault cX4_setDefault 4 (some .int), Cond.methodLink RX4 182 yX3_setDefaultOf, Cond.instanceMethod yX3_setDefaultOf, Cond.selects RX3 yX3_setDefaultOf yX3_setDefaultOf, Cond.code yX3_setDefaultOf cX3_setDefaultOf 6 (some .int), Cond.methodLink RL 145 yX5_setDefault, Cond.instanceMethod yX5_setDefault, Cond.selects RX5 yX5_setDefault yX5_setDefault, Cond.code yX5_setDefault cX5_setDefault 5 (some .int), Cond.methodLink RL 146 yL_programs, Cond.static yL_programs, Cond.codeWith yL_programs cL_programs 4 (some .int) [(0, 9, 12, 13)], Cond.methodLink RL 62 yX4_programs, Cond.instanceMethod yX4_programs, Cond.selects RX4 yX4_programs yX4_programs, Cond.code yX4_programs cX4_programs 2 (some .int)]
def wsL_law0_r25 : List Cond := [Cond.methodLink RX4 185 yX3_countPrograms, Cond.instanceMethod yX3_countPrograms, Cond.selects RX3 yX3_countPrograms yX3_countPrograms, Cond.code yX3_countPrograms cX3_countPrograms 6 (some .int), Cond.methodLink RX3 32 yX3_openersOf, Cond.instanceMethod yX3_openersOf, Cond.selects RX3 yX3_openersOf yX3_openersOf, Cond.code yX3_openersOf cX3_openersOf 4 (some .int), Cond.methodLink RX3 28 yX3_opens, Cond.instanceMethod yX3_opens, Cond.selects RX3 yX3_opens yX3_opens, Cond.code yX3_opens cX3_opens 5 (some .boolean), Cond.methodLink RX3 36 yX1_parentOf, Cond.methodLink RX3 41 yJ6_bitCount_0f7a4, Cond.static yJ6_bitCount_0f7a4, Cond.initialized RJ6, Cond.code yJ6_bitCount_0f7a4 cJ6_bitCount_0f7a4 1 (some .int), Cond.constant RJ6 265 (1431655765), Cond.constant RJ6 266 (858993459), Cond.constant RJ6 267 (252645135), Cond.methodLink RL 148 yX5_programs, Cond.instanceMethod yX5_programs, Cond.selects RX5 yX5_programs yX5_programs, Cond.code yX5_programs cX5_programs 2 (some .int)]
def wsL_law0_r26 : List Cond := [Cond.methodLink RX5 148 yX5_listed, Cond.instanceMethod yX5_listed, Cond.selects RX5 yX5_listed yX5_listed, Cond.code yX5_listed cX5_listed 7 (some .int), Cond.methodLink RX5 145 yX5_opens, Cond.instanceMethod yX5_opens, Cond.selects RX5 yX5_opens yX5_opens, Cond.code yX5_opens cX5_opens 7 (some .boolean), Cond.methodLink RL 149 yL_programAt, Cond.static yL_programAt, Cond.codeWith yL_programAt cL_programAt 5 (some .int) [(0, 10, 13, 13)], Cond.methodLink RL 65 yX4_programAt, Cond.instanceMethod yX4_programAt, Cond.selects RX4 yX4_programAt yX4_programAt, Cond.code yX4_programAt cX4_programAt 4 (some .int), Cond.methodLink RX4 188 yX3_programInOrder, Cond.instanceMethod yX3_programInOrder, Cond.selects RX3 yX3_programInOrder yX3_programInOrder, Cond.code yX3_programInOrder cX3_programInOrder 9 (some .int), Cond.methodLink RX3 46 yX3_programOf, Cond.static yX3_programOf, Cond.code yX3_programOf cX3_programOf 4 (some .int), Cond.methodLink RL 151 yX5_programAt, Cond.instanceMethod yX5_programAt]
def wsL_law0_r27 : List Cond := [Cond.selects RX5 yX5_programAt yX5_programAt, Cond.code yX5_programAt cX5_programAt 4 (some .int), Cond.methodLink RL 152 yL_opener, Cond.static yL_opener, Cond.codeWith yL_opener cL_opener 4 (some .int) [(0, 9, 12, 13)], Cond.methodLink RL 68 yX4_opener, Cond.instanceMethod yX4_opener, Cond.selects RX4 yX4_opener yX4_opener, Cond.code yX4_opener cX4_opener 2 (some .int), Cond.methodLink RX4 194 yX3_defaultUpward, Cond.instanceMethod yX3_defaultUpward, Cond.selects RX3 yX3_defaultUpward yX3_defaultUpward, Cond.code yX3_defaultUpward cX3_defaultUpward 6 (some .int), Cond.methodLink RX3 49 yX3_defaultOf, Cond.instanceMethod yX3_defaultOf, Cond.selects RX3 yX3_defaultOf yX3_defaultOf, Cond.code yX3_defaultOf cX3_defaultOf 4 (some .int), Cond.methodLink RL 154 yX5_opener, Cond.instanceMethod yX5_opener, Cond.selects RX5 yX5_opener yX5_opener, Cond.code yX5_opener cX5_opener 5 (some .int)]
def wsL_law0 : List Cond := (wsL_law0_r1 ++ (wsL_law0_r2 ++ (wsL_law0_r3 ++ (wsL_law0_r4 ++ (wsL_law0_r5 ++ (wsL_law0_r6 ++ (wsL_law0_r7 ++ (wsL_law0_r8 ++ (wsL_law0_r9 ++ (wsL_law0_r10 ++ (wsL_law0_r11 ++ (wsL_law0_r12 ++ (wsL_law0_r13 ++ (wsL_law0_r14 ++ (wsL_law0_r15 ++ (wsL_law0_r16 ++ (wsL_law0_r17 ++ (wsL_law0_r18 ++ (wsL_law0_r19 ++ (wsL_law0_r20 ++ (wsL_law0_r21 ++ (wsL_law0_r22 ++ (wsL_law0_r23 ++ (wsL_law0_r24 ++ (wsL_law0_r25 ++ (wsL_law0_r26 ++ wsL_law0_r27)))))))))))))))))))))))))) ++ wsX40 ++ wsX50 ++ wsX10 ++ wsX20 ++ wsX00 ++ wsX30 ++ ([] : List Cond)
def wsL_law : List Cond := wsL_law0 ++ (vx_atS RX4 45 "java/lang/IndexOutOfBoundsException" ["java/lang/RuntimeException", "java/lang/Exception"]).filter goodWord ++ (vx_atS RX4 56 "java/lang/IllegalStateException" ["java/lang/RuntimeException", "java/lang/Exception"]).filter goodWord ++ (vx_atS RX4 213 "java/lang/IllegalArgumentException" ["java/lang/RuntimeException", "java/lang/Exception"]).filter goodWord
abbrev vwCl : List vw_C := [(RX0, TX0, 12), (RX1, TX1, 2), (RX2, TX2, 10), (RX3, TX3, 2), (RX4, TX4, 4), (RX5, TX5, 24)]
end
section
theorem dX0_init_0 : decode cX0_init 0 = .ok (.aload_n 0, 1) := by decide +kernel
theorem dX0_init_1 : decode cX0_init 1 = .ok (.invokespecial 3, 3) := by decide +kernel
theorem dX0_init_4 : decode cX0_init 4 = .ok (.aload_n 0, 1) := by decide +kernel
theorem dX0_init_5 : decode cX0_init 5 = .ok (.bipush 16, 2) := by decide +kernel
theorem dX0_init_7 : decode cX0_init 7 = .ok (.newarray .int, 2) := by decide +kernel
theorem dX0_init_9 : decode cX0_init 9 = .ok (.putfield 9, 3) := by decide +kernel
theorem dX0_init_12 : decode cX0_init 12 = .ok (.aload_n 0, 1) := by decide +kernel
theorem dX0_init_13 : decode cX0_init 13 = .ok (.iconst 0, 1) := by decide +kernel
theorem dX0_init_14 : decode cX0_init 14 = .ok (.putfield 15, 3) := by decide +kernel
theorem dX0_init_17 : decode cX0_init 17 = .ok (.aload_n 0, 1) := by decide +kernel
theorem dX0_init_18 : decode cX0_init 18 = .ok (.bipush 12, 2) := by decide +kernel
theorem dX0_init_20 : decode cX0_init 20 = .ok (.newarray .int, 2) := by decide +kernel
theorem dX0_init_22 : decode cX0_init 22 = .ok (.putfield 19, 3) := by decide +kernel
theorem dX0_init_25 : decode cX0_init 25 = .ok (.aload_n 0, 1) := by decide +kernel
theorem dX0_init_26 : decode cX0_init 26 = .ok (.bipush 12, 2) := by decide +kernel
theorem dX0_init_28 : decode cX0_init 28 = .ok (.newarray .int, 2) := by decide +kernel
theorem dX0_init_30 : decode cX0_init 30 = .ok (.putfield 22, 3) := by decide +kernel
theorem dX0_init_33 : decode cX0_init 33 = .ok (.aload_n 0, 1) := by decide +kernel
theorem dX0_init_34 : decode cX0_init 34 = .ok (.bipush 12, 2) := by decide +kernel
theorem dX0_init_36 : decode cX0_init 36 = .ok (.newarray .int, 2) := by decide +kernel
theorem dX0_init_38 : decode cX0_init 38 = .ok (.putfield 25, 3) := by decide +kernel
theorem dX0_init_41 : decode cX0_init 41 = .ok (.aload_n 0, 1) := by decide +kernel
theorem dX0_init_42 : decode cX0_init 42 = .ok (.iconst 0, 1) := by decide +kernel
theorem dX0_init_43 : decode cX0_init 43 = .ok (.putfield 28, 3) := by decide +kernel
theorem dX0_init_46 : decode cX0_init 46 = .ok (.aload_n 0, 1) := by decide +kernel
theorem dX0_init_47 : decode cX0_init 47 = .ok (.bipush 72, 2) := by decide +kernel
theorem dX0_init_49 : decode cX0_init 49 = .ok (.newarray .int, 2) := by decide +kernel
theorem dX0_init_51 : decode cX0_init 51 = .ok (.putfield 31, 3) := by decide +kernel
theorem dX0_init_54 : decode cX0_init 54 = .ok (.aload_n 0, 1) := by decide +kernel
theorem dX0_init_55 : decode cX0_init 55 = .ok (.bipush 72, 2) := by decide +kernel
theorem dX0_init_57 : decode cX0_init 57 = .ok (.newarray .int, 2) := by decide +kernel
theorem dX0_init_59 : decode cX0_init 59 = .ok (.putfield 34, 3) := by decide +kernel
theorem dX0_init_62 : decode cX0_init 62 = .ok (.aload_n 0, 1) := by decide +kernel
theorem dX0_init_63 : decode cX0_init 63 = .ok (.bipush 72, 2) := by decide +kernel
theorem dX0_init_65 : decode cX0_init 65 = .ok (.newarray .int, 2) := by decide +kernel
theorem dX0_init_67 : decode cX0_init 67 = .ok (.putfield 37, 3) := by decide +kernel
theorem dX0_init_70 : decode cX0_init 70 = .ok (.aload_n 0, 1) := by decide +kernel
theorem dX0_init_71 : decode cX0_init 71 = .ok (.bipush 72, 2) := by decide +kernel
theorem dX0_init_73 : decode cX0_init 73 = .ok (.newarray .int, 2) := by decide +kernel
theorem dX0_init_75 : decode cX0_init 75 = .ok (.putfield 40, 3) := by decide +kernel
theorem dX0_init_78 : decode cX0_init 78 = .ok (.aload_n 0, 1) := by decide +kernel
theorem dX0_init_79 : decode cX0_init 79 = .ok (.bipush 72, 2) := by decide +kernel
theorem dX0_init_81 : decode cX0_init 81 = .ok (.newarray .int, 2) := by decide +kernel
theorem dX0_init_83 : decode cX0_init 83 = .ok (.putfield 43, 3) := by decide +kernel
theorem dX0_init_86 : decode cX0_init 86 = .ok (.aload_n 0, 1) := by decide +kernel
theorem dX0_init_87 : decode cX0_init 87 = .ok (.bipush 72, 2) := by decide +kernel
theorem dX0_init_89 : decode cX0_init 89 = .ok (.newarray .boolean, 2) := by decide +kernel
theorem dX0_init_91 : decode cX0_init 91 = .ok (.putfield 46, 3) := by decide +kernel
theorem dX0_init_94 : decode cX0_init 94 = .ok (.return_, 1) := by decide +kernel
theorem dX0_isFullOfBytes_0 : decode cX0_isFullOfBytes 0 = .ok (.aload_n 0, 1) := by decide +kernel
theorem dX0_isFullOfBytes_1 : decode cX0_isFullOfBytes 1 = .ok (.getfield 15, 3) := by decide +kernel
theorem dX0_isFullOfBytes_4 : decode cX0_isFullOfBytes 4 = .ok (.bipush 16, 2) := by decide +kernel
theorem dX0_isFullOfBytes_6 : decode cX0_isFullOfBytes 6 = .ok (.if_icmp .lt 7, 3) := by decide +kernel
theorem dX0_isFullOfBytes_9 : decode cX0_isFullOfBytes 9 = .ok (.iconst 1, 1) := by decide +kernel
theorem dX0_isFullOfBytes_10 : decode cX0_isFullOfBytes 10 = .ok (.goto 4, 3) := by decide +kernel
theorem dX0_isFullOfBytes_13 : decode cX0_isFullOfBytes 13 = .ok (.iconst 0, 1) := by decide +kernel
theorem dX0_isFullOfBytes_14 : decode cX0_isFullOfBytes 14 = .ok (.ireturn, 1) := by decide +kernel
theorem dX0_addByte_0 : decode cX0_addByte 0 = .ok (.aload_n 0, 1) := by decide +kernel
theorem dX0_addByte_1 : decode cX0_addByte 1 = .ok (.getfield 9, 3) := by decide +kernel
theorem dX0_addByte_4 : decode cX0_addByte 4 = .ok (.aload_n 0, 1) := by decide +kernel
theorem dX0_addByte_5 : decode cX0_addByte 5 = .ok (.getfield 15, 3) := by decide +kernel
theorem dX0_addByte_8 : decode cX0_addByte 8 = .ok (.iload_n 1, 1) := by decide +kernel
theorem dX0_addByte_9 : decode cX0_addByte 9 = .ok (.iastore, 1) := by decide +kernel
theorem dX0_addByte_10 : decode cX0_addByte 10 = .ok (.aload_n 0, 1) := by decide +kernel
theorem dX0_addByte_11 : decode cX0_addByte 11 = .ok (.dup, 1) := by decide +kernel
theorem dX0_addByte_12 : decode cX0_addByte 12 = .ok (.getfield 15, 3) := by decide +kernel
theorem dX0_addByte_15 : decode cX0_addByte 15 = .ok (.iconst 1, 1) := by decide +kernel
theorem dX0_addByte_16 : decode cX0_addByte 16 = .ok (.iadd, 1) := by decide +kernel
theorem dX0_addByte_17 : decode cX0_addByte 17 = .ok (.putfield 15, 3) := by decide +kernel
theorem dX0_addByte_20 : decode cX0_addByte 20 = .ok (.aload_n 0, 1) := by decide +kernel
theorem dX0_addByte_21 : decode cX0_addByte 21 = .ok (.getfield 15, 3) := by decide +kernel
theorem dX0_addByte_24 : decode cX0_addByte 24 = .ok (.ireturn, 1) := by decide +kernel
theorem dX0_clearBytes_0 : decode cX0_clearBytes 0 = .ok (.aload_n 0, 1) := by decide +kernel
theorem dX0_clearBytes_1 : decode cX0_clearBytes 1 = .ok (.getfield 15, 3) := by decide +kernel
theorem dX0_clearBytes_4 : decode cX0_clearBytes 4 = .ok (.istore_n 1, 1) := by decide +kernel
theorem dX0_clearBytes_5 : decode cX0_clearBytes 5 = .ok (.aload_n 0, 1) := by decide +kernel
theorem dX0_clearBytes_6 : decode cX0_clearBytes 6 = .ok (.iconst 0, 1) := by decide +kernel
theorem dX0_clearBytes_7 : decode cX0_clearBytes 7 = .ok (.putfield 15, 3) := by decide +kernel
theorem dX0_clearBytes_10 : decode cX0_clearBytes 10 = .ok (.iload_n 1, 1) := by decide +kernel
theorem dX0_clearBytes_11 : decode cX0_clearBytes 11 = .ok (.ireturn, 1) := by decide +kernel
set_option maxRecDepth 20000 in
theorem ggX0_isText_X0_isTextByte : GoodIn wsX0_isText wsX0_isTextByte := goodIn_r _ [6] (by decide +kernel) (by decide +kernel)
set_option maxRecDepth 20000 in
theorem gX0_isText_X0_isTextByte : GoodIn wsX0_isText (va_wsS RX0 50 yX0_isTextByte wsX0_isTextByte) := goodIn_app (goodIn_of _ (by decide +kernel)) ggX0_isText_X0_isTextByte
theorem dX0_isText_0 : decode cX0_isText 0 = .ok (.iconst 0, 1) := by decide +kernel
theorem dX0_isText_1 : decode cX0_isText 1 = .ok (.istore_n 1, 1) := by decide +kernel
theorem dX0_isText_2 : decode cX0_isText 2 = .ok (.iload_n 1, 1) := by decide +kernel
theorem dX0_isText_3 : decode cX0_isText 3 = .ok (.aload_n 0, 1) := by decide +kernel
theorem dX0_isText_4 : decode cX0_isText 4 = .ok (.getfield 15, 3) := by decide +kernel
theorem dX0_isText_7 : decode cX0_isText 7 = .ok (.if_icmp .ge 23, 3) := by decide +kernel
theorem dX0_isText_10 : decode cX0_isText 10 = .ok (.aload_n 0, 1) := by decide +kernel
theorem dX0_isText_11 : decode cX0_isText 11 = .ok (.getfield 9, 3) := by decide +kernel
theorem dX0_isText_14 : decode cX0_isText 14 = .ok (.iload_n 1, 1) := by decide +kernel
theorem dX0_isText_15 : decode cX0_isText 15 = .ok (.iaload, 1) := by decide +kernel
theorem dX0_isText_16 : decode cX0_isText 16 = .ok (.invokestatic 50, 3) := by decide +kernel
theorem dX0_isText_19 : decode cX0_isText 19 = .ok (.ifCond .ne 5, 3) := by decide +kernel
theorem dX0_isText_22 : decode cX0_isText 22 = .ok (.iconst 0, 1) := by decide +kernel
theorem dX0_isText_23 : decode cX0_isText 23 = .ok (.ireturn, 1) := by decide +kernel
theorem dX0_isText_24 : decode cX0_isText 24 = .ok (.iinc 1 1, 3) := by decide +kernel
theorem dX0_isText_27 : decode cX0_isText 27 = .ok (.goto (-25), 3) := by decide +kernel
theorem dX0_isText_30 : decode cX0_isText 30 = .ok (.iconst 1, 1) := by decide +kernel
theorem dX0_isText_31 : decode cX0_isText 31 = .ok (.ireturn, 1) := by decide +kernel
theorem dX0_isTextByte_0 : decode cX0_isTextByte 0 = .ok (.iload_n 0, 1) := by decide +kernel
theorem dX0_isTextByte_1 : decode cX0_isTextByte 1 = .ok (.bipush 32, 2) := by decide +kernel
theorem dX0_isTextByte_3 : decode cX0_isTextByte 3 = .ok (.if_icmp .lt 9, 3) := by decide +kernel
theorem dX0_isTextByte_6 : decode cX0_isTextByte 6 = .ok (.iload_n 0, 1) := by decide +kernel
theorem dX0_isTextByte_7 : decode cX0_isTextByte 7 = .ok (.bipush 126, 2) := by decide +kernel
theorem dX0_isTextByte_9 : decode cX0_isTextByte 9 = .ok (.if_icmp .le 21, 3) := by decide +kernel
theorem dX0_isTextByte_12 : decode cX0_isTextByte 12 = .ok (.iload_n 0, 1) := by decide +kernel
theorem dX0_isTextByte_13 : decode cX0_isTextByte 13 = .ok (.bipush 9, 2) := by decide +kernel
theorem dX0_isTextByte_15 : decode cX0_isTextByte 15 = .ok (.if_icmp .eq 15, 3) := by decide +kernel
theorem dX0_isTextByte_18 : decode cX0_isTextByte 18 = .ok (.iload_n 0, 1) := by decide +kernel
theorem dX0_isTextByte_19 : decode cX0_isTextByte 19 = .ok (.bipush 10, 2) := by decide +kernel
theorem dX0_isTextByte_21 : decode cX0_isTextByte 21 = .ok (.if_icmp .eq 9, 3) := by decide +kernel
theorem dX0_isTextByte_24 : decode cX0_isTextByte 24 = .ok (.iload_n 0, 1) := by decide +kernel
theorem dX0_isTextByte_25 : decode cX0_isTextByte 25 = .ok (.bipush 13, 2) := by decide +kernel
theorem dX0_isTextByte_27 : decode cX0_isTextByte 27 = .ok (.if_icmp .ne 7, 3) := by decide +kernel
theorem dX0_isTextByte_30 : decode cX0_isTextByte 30 = .ok (.iconst 1, 1) := by decide +kernel
theorem dX0_isTextByte_31 : decode cX0_isTextByte 31 = .ok (.goto 4, 3) := by decide +kernel
theorem dX0_isTextByte_34 : decode cX0_isTextByte 34 = .ok (.iconst 0, 1) := by decide +kernel
theorem dX0_isTextByte_35 : decode cX0_isTextByte 35 = .ok (.ireturn, 1) := by decide +kernel
theorem dX0_hasRule_0 : decode cX0_hasRule 0 = .ok (.iload_n 1, 1) := by decide +kernel
theorem dX0_hasRule_1 : decode cX0_hasRule 1 = .ok (.ifCond .lt 15, 3) := by decide +kernel
theorem dX0_hasRule_4 : decode cX0_hasRule 4 = .ok (.iload_n 1, 1) := by decide +kernel
theorem dX0_hasRule_5 : decode cX0_hasRule 5 = .ok (.aload_n 0, 1) := by decide +kernel
theorem dX0_hasRule_6 : decode cX0_hasRule 6 = .ok (.getfield 28, 3) := by decide +kernel
theorem dX0_hasRule_9 : decode cX0_hasRule 9 = .ok (.if_icmp .ge 7, 3) := by decide +kernel
theorem dX0_hasRule_12 : decode cX0_hasRule 12 = .ok (.iconst 1, 1) := by decide +kernel
theorem dX0_hasRule_13 : decode cX0_hasRule 13 = .ok (.goto 4, 3) := by decide +kernel
theorem dX0_hasRule_16 : decode cX0_hasRule 16 = .ok (.iconst 0, 1) := by decide +kernel
theorem dX0_hasRule_17 : decode cX0_hasRule 17 = .ok (.ireturn, 1) := by decide +kernel
theorem dX0_isFullOfRules_0 : decode cX0_isFullOfRules 0 = .ok (.aload_n 0, 1) := by decide +kernel
theorem dX0_isFullOfRules_1 : decode cX0_isFullOfRules 1 = .ok (.getfield 28, 3) := by decide +kernel
theorem dX0_isFullOfRules_4 : decode cX0_isFullOfRules 4 = .ok (.bipush 12, 2) := by decide +kernel
theorem dX0_isFullOfRules_6 : decode cX0_isFullOfRules 6 = .ok (.if_icmp .lt 7, 3) := by decide +kernel
theorem dX0_isFullOfRules_9 : decode cX0_isFullOfRules 9 = .ok (.iconst 1, 1) := by decide +kernel
theorem dX0_isFullOfRules_10 : decode cX0_isFullOfRules 10 = .ok (.goto 4, 3) := by decide +kernel
theorem dX0_isFullOfRules_13 : decode cX0_isFullOfRules 13 = .ok (.iconst 0, 1) := by decide +kernel
theorem dX0_isFullOfRules_14 : decode cX0_isFullOfRules 14 = .ok (.ireturn, 1) := by decide +kernel
theorem dX0_addRule_0 : decode cX0_addRule 0 = .ok (.aload_n 0, 1) := by decide +kernel
theorem dX0_addRule_1 : decode cX0_addRule 1 = .ok (.getfield 19, 3) := by decide +kernel
theorem dX0_addRule_4 : decode cX0_addRule 4 = .ok (.aload_n 0, 1) := by decide +kernel
theorem dX0_addRule_5 : decode cX0_addRule 5 = .ok (.getfield 28, 3) := by decide +kernel
theorem dX0_addRule_8 : decode cX0_addRule 8 = .ok (.iload_n 1, 1) := by decide +kernel
theorem dX0_addRule_9 : decode cX0_addRule 9 = .ok (.iastore, 1) := by decide +kernel
theorem dX0_addRule_10 : decode cX0_addRule 10 = .ok (.aload_n 0, 1) := by decide +kernel
theorem dX0_addRule_11 : decode cX0_addRule 11 = .ok (.getfield 22, 3) := by decide +kernel
theorem dX0_addRule_14 : decode cX0_addRule 14 = .ok (.aload_n 0, 1) := by decide +kernel
theorem dX0_addRule_15 : decode cX0_addRule 15 = .ok (.getfield 28, 3) := by decide +kernel
theorem dX0_addRule_18 : decode cX0_addRule 18 = .ok (.iload_n 2, 1) := by decide +kernel
theorem dX0_addRule_19 : decode cX0_addRule 19 = .ok (.iastore, 1) := by decide +kernel
theorem dX0_addRule_20 : decode cX0_addRule 20 = .ok (.aload_n 0, 1) := by decide +kernel
theorem dX0_addRule_21 : decode cX0_addRule 21 = .ok (.dup, 1) := by decide +kernel
theorem dX0_addRule_22 : decode cX0_addRule 22 = .ok (.getfield 28, 3) := by decide +kernel
theorem dX0_addRule_25 : decode cX0_addRule 25 = .ok (.iconst 1, 1) := by decide +kernel
theorem dX0_addRule_26 : decode cX0_addRule 26 = .ok (.iadd, 1) := by decide +kernel
theorem dX0_addRule_27 : decode cX0_addRule 27 = .ok (.putfield 28, 3) := by decide +kernel
theorem dX0_addRule_30 : decode cX0_addRule 30 = .ok (.aload_n 0, 1) := by decide +kernel
theorem dX0_addRule_31 : decode cX0_addRule 31 = .ok (.getfield 28, 3) := by decide +kernel
theorem dX0_addRule_34 : decode cX0_addRule 34 = .ok (.iconst 1, 1) := by decide +kernel
theorem dX0_addRule_35 : decode cX0_addRule 35 = .ok (.isub, 1) := by decide +kernel
theorem dX0_addRule_36 : decode cX0_addRule 36 = .ok (.ireturn, 1) := by decide +kernel
theorem dX0_greatestNextLevel_0 : decode cX0_greatestNextLevel 0 = .ok (.aload_n 0, 1) := by decide +kernel
theorem dX0_greatestNextLevel_1 : decode cX0_greatestNextLevel 1 = .ok (.getfield 25, 3) := by decide +kernel
theorem dX0_greatestNextLevel_4 : decode cX0_greatestNextLevel 4 = .ok (.iload_n 1, 1) := by decide +kernel
theorem dX0_greatestNextLevel_5 : decode cX0_greatestNextLevel 5 = .ok (.iaload, 1) := by decide +kernel
theorem dX0_greatestNextLevel_6 : decode cX0_greatestNextLevel 6 = .ok (.istore_n 2, 1) := by decide +kernel
theorem dX0_greatestNextLevel_7 : decode cX0_greatestNextLevel 7 = .ok (.iload_n 2, 1) := by decide +kernel
theorem dX0_greatestNextLevel_8 : decode cX0_greatestNextLevel 8 = .ok (.ifCond .ne 7, 3) := by decide +kernel
theorem dX0_greatestNextLevel_11 : decode cX0_greatestNextLevel 11 = .ok (.iconst 0, 1) := by decide +kernel
theorem dX0_greatestNextLevel_12 : decode cX0_greatestNextLevel 12 = .ok (.goto 18, 3) := by decide +kernel
theorem dX0_greatestNextLevel_15 : decode cX0_greatestNextLevel 15 = .ok (.aload_n 0, 1) := by decide +kernel
theorem dX0_greatestNextLevel_16 : decode cX0_greatestNextLevel 16 = .ok (.getfield 31, 3) := by decide +kernel
theorem dX0_greatestNextLevel_19 : decode cX0_greatestNextLevel 19 = .ok (.iload_n 1, 1) := by decide +kernel
theorem dX0_greatestNextLevel_20 : decode cX0_greatestNextLevel 20 = .ok (.bipush 6, 2) := by decide +kernel
theorem dX0_greatestNextLevel_22 : decode cX0_greatestNextLevel 22 = .ok (.imul, 1) := by decide +kernel
theorem dX0_greatestNextLevel_23 : decode cX0_greatestNextLevel 23 = .ok (.iload_n 2, 1) := by decide +kernel
theorem dX0_greatestNextLevel_24 : decode cX0_greatestNextLevel 24 = .ok (.iadd, 1) := by decide +kernel
theorem dX0_greatestNextLevel_25 : decode cX0_greatestNextLevel 25 = .ok (.iconst 1, 1) := by decide +kernel
theorem dX0_greatestNextLevel_26 : decode cX0_greatestNextLevel 26 = .ok (.isub, 1) := by decide +kernel
theorem dX0_greatestNextLevel_27 : decode cX0_greatestNextLevel 27 = .ok (.iaload, 1) := by decide +kernel
theorem dX0_greatestNextLevel_28 : decode cX0_greatestNextLevel 28 = .ok (.iconst 1, 1) := by decide +kernel
theorem dX0_greatestNextLevel_29 : decode cX0_greatestNextLevel 29 = .ok (.iadd, 1) := by decide +kernel
theorem dX0_greatestNextLevel_30 : decode cX0_greatestNextLevel 30 = .ok (.ireturn, 1) := by decide +kernel
theorem dX0_isFullOfTests_0 : decode cX0_isFullOfTests 0 = .ok (.aload_n 0, 1) := by decide +kernel
theorem dX0_isFullOfTests_1 : decode cX0_isFullOfTests 1 = .ok (.getfield 25, 3) := by decide +kernel
theorem dX0_isFullOfTests_4 : decode cX0_isFullOfTests 4 = .ok (.iload_n 1, 1) := by decide +kernel
theorem dX0_isFullOfTests_5 : decode cX0_isFullOfTests 5 = .ok (.iaload, 1) := by decide +kernel
theorem dX0_isFullOfTests_6 : decode cX0_isFullOfTests 6 = .ok (.bipush 6, 2) := by decide +kernel
theorem dX0_isFullOfTests_8 : decode cX0_isFullOfTests 8 = .ok (.if_icmp .lt 7, 3) := by decide +kernel
theorem dX0_isFullOfTests_11 : decode cX0_isFullOfTests 11 = .ok (.iconst 1, 1) := by decide +kernel
theorem dX0_isFullOfTests_12 : decode cX0_isFullOfTests 12 = .ok (.goto 4, 3) := by decide +kernel
theorem dX0_isFullOfTests_15 : decode cX0_isFullOfTests 15 = .ok (.iconst 0, 1) := by decide +kernel
theorem dX0_isFullOfTests_16 : decode cX0_isFullOfTests 16 = .ok (.ireturn, 1) := by decide +kernel
theorem dX0_addTest_0 : decode cX0_addTest 0 = .ok (.iload_n 1, 1) := by decide +kernel
theorem dX0_addTest_1 : decode cX0_addTest 1 = .ok (.bipush 6, 2) := by decide +kernel
theorem dX0_addTest_3 : decode cX0_addTest 3 = .ok (.imul, 1) := by decide +kernel
theorem dX0_addTest_4 : decode cX0_addTest 4 = .ok (.aload_n 0, 1) := by decide +kernel
theorem dX0_addTest_5 : decode cX0_addTest 5 = .ok (.getfield 25, 3) := by decide +kernel
theorem dX0_addTest_8 : decode cX0_addTest 8 = .ok (.iload_n 1, 1) := by decide +kernel
theorem dX0_addTest_9 : decode cX0_addTest 9 = .ok (.iaload, 1) := by decide +kernel
theorem dX0_addTest_10 : decode cX0_addTest 10 = .ok (.iadd, 1) := by decide +kernel
theorem dX0_addTest_11 : decode cX0_addTest 11 = .ok (.istore 7, 2) := by decide +kernel
theorem dX0_addTest_13 : decode cX0_addTest 13 = .ok (.aload_n 0, 1) := by decide +kernel
theorem dX0_addTest_14 : decode cX0_addTest 14 = .ok (.getfield 31, 3) := by decide +kernel
theorem dX0_addTest_17 : decode cX0_addTest 17 = .ok (.iload 7, 2) := by decide +kernel
theorem dX0_addTest_19 : decode cX0_addTest 19 = .ok (.iload_n 2, 1) := by decide +kernel
theorem dX0_addTest_20 : decode cX0_addTest 20 = .ok (.iastore, 1) := by decide +kernel
theorem dX0_addTest_21 : decode cX0_addTest 21 = .ok (.aload_n 0, 1) := by decide +kernel
theorem dX0_addTest_22 : decode cX0_addTest 22 = .ok (.getfield 34, 3) := by decide +kernel
theorem dX0_addTest_25 : decode cX0_addTest 25 = .ok (.iload 7, 2) := by decide +kernel
theorem dX0_addTest_27 : decode cX0_addTest 27 = .ok (.iload_n 3, 1) := by decide +kernel
theorem dX0_addTest_28 : decode cX0_addTest 28 = .ok (.iastore, 1) := by decide +kernel
theorem dX0_addTest_29 : decode cX0_addTest 29 = .ok (.aload_n 0, 1) := by decide +kernel
theorem dX0_addTest_30 : decode cX0_addTest 30 = .ok (.getfield 37, 3) := by decide +kernel
theorem dX0_addTest_33 : decode cX0_addTest 33 = .ok (.iload 7, 2) := by decide +kernel
theorem dX0_addTest_35 : decode cX0_addTest 35 = .ok (.iload 4, 2) := by decide +kernel
theorem dX0_addTest_37 : decode cX0_addTest 37 = .ok (.iastore, 1) := by decide +kernel
theorem dX0_addTest_38 : decode cX0_addTest 38 = .ok (.aload_n 0, 1) := by decide +kernel
theorem dX0_addTest_39 : decode cX0_addTest 39 = .ok (.getfield 40, 3) := by decide +kernel
theorem dX0_addTest_42 : decode cX0_addTest 42 = .ok (.iload 7, 2) := by decide +kernel
theorem dX0_addTest_44 : decode cX0_addTest 44 = .ok (.iload 5, 2) := by decide +kernel
theorem dX0_addTest_46 : decode cX0_addTest 46 = .ok (.iastore, 1) := by decide +kernel
theorem dX0_addTest_47 : decode cX0_addTest 47 = .ok (.aload_n 0, 1) := by decide +kernel
theorem dX0_addTest_48 : decode cX0_addTest 48 = .ok (.getfield 43, 3) := by decide +kernel
theorem dX0_addTest_51 : decode cX0_addTest 51 = .ok (.iload 7, 2) := by decide +kernel
theorem dX0_addTest_53 : decode cX0_addTest 53 = .ok (.iload 6, 2) := by decide +kernel
theorem dX0_addTest_55 : decode cX0_addTest 55 = .ok (.iastore, 1) := by decide +kernel
theorem dX0_addTest_56 : decode cX0_addTest 56 = .ok (.aload_n 0, 1) := by decide +kernel
theorem dX0_addTest_57 : decode cX0_addTest 57 = .ok (.getfield 25, 3) := by decide +kernel
theorem dX0_addTest_60 : decode cX0_addTest 60 = .ok (.iload_n 1, 1) := by decide +kernel
theorem dX0_addTest_61 : decode cX0_addTest 61 = .ok (.dup2, 1) := by decide +kernel
theorem dX0_addTest_62 : decode cX0_addTest 62 = .ok (.iaload, 1) := by decide +kernel
theorem dX0_addTest_63 : decode cX0_addTest 63 = .ok (.iconst 1, 1) := by decide +kernel
theorem dX0_addTest_64 : decode cX0_addTest 64 = .ok (.iadd, 1) := by decide +kernel
theorem dX0_addTest_65 : decode cX0_addTest 65 = .ok (.iastore, 1) := by decide +kernel
theorem dX0_addTest_66 : decode cX0_addTest 66 = .ok (.aload_n 0, 1) := by decide +kernel
theorem dX0_addTest_67 : decode cX0_addTest 67 = .ok (.getfield 25, 3) := by decide +kernel
theorem dX0_addTest_70 : decode cX0_addTest 70 = .ok (.iload_n 1, 1) := by decide +kernel
theorem dX0_addTest_71 : decode cX0_addTest 71 = .ok (.iaload, 1) := by decide +kernel
theorem dX0_addTest_72 : decode cX0_addTest 72 = .ok (.ireturn, 1) := by decide +kernel
set_option maxRecDepth 20000 in
theorem ggX0_kindOf_X0_hasRule : GoodIn wsX0_kindOf wsX0_hasRule := goodIn_r _ [6, 7, 8, 9, 10, 11, 12, 13, 14, 15, 16, 17, 18, 19] (by decide +kernel) (by decide +kernel)
set_option maxRecDepth 20000 in
theorem gX0_kindOf_X0_hasRule : GoodIn wsX0_kindOf (wsV RX0 54 RX0 yX0_hasRule wsX0_hasRule) := goodIn_app (goodIn_of _ (by decide +kernel)) ggX0_kindOf_X0_hasRule
theorem dX0_kindOf_0 : decode cX0_kindOf 0 = .ok (.aload_n 0, 1) := by decide +kernel
theorem dX0_kindOf_1 : decode cX0_kindOf 1 = .ok (.iload_n 1, 1) := by decide +kernel
theorem dX0_kindOf_2 : decode cX0_kindOf 2 = .ok (.invokevirtual 54, 3) := by decide +kernel
theorem dX0_kindOf_5 : decode cX0_kindOf 5 = .ok (.ifCond .eq 12, 3) := by decide +kernel
theorem dX0_kindOf_8 : decode cX0_kindOf 8 = .ok (.aload_n 0, 1) := by decide +kernel
theorem dX0_kindOf_9 : decode cX0_kindOf 9 = .ok (.getfield 19, 3) := by decide +kernel
theorem dX0_kindOf_12 : decode cX0_kindOf 12 = .ok (.iload_n 1, 1) := by decide +kernel
theorem dX0_kindOf_13 : decode cX0_kindOf 13 = .ok (.iaload, 1) := by decide +kernel
theorem dX0_kindOf_14 : decode cX0_kindOf 14 = .ok (.goto 4, 3) := by decide +kernel
theorem dX0_kindOf_17 : decode cX0_kindOf 17 = .ok (.iconst (-1), 1) := by decide +kernel
theorem dX0_kindOf_18 : decode cX0_kindOf 18 = .ok (.ireturn, 1) := by decide +kernel
set_option maxRecDepth 20000 in
theorem ggX0_isStrong_X0_hasRule : GoodIn wsX0_isStrong wsX0_hasRule := goodIn_r _ [6, 7, 8, 9, 10, 11, 12, 13, 14, 15, 16, 17, 18, 19] (by decide +kernel) (by decide +kernel)
set_option maxRecDepth 20000 in
theorem gX0_isStrong_X0_hasRule : GoodIn wsX0_isStrong (wsV RX0 54 RX0 yX0_hasRule wsX0_hasRule) := goodIn_app (goodIn_of _ (by decide +kernel)) ggX0_isStrong_X0_hasRule
theorem dX0_isStrong_0 : decode cX0_isStrong 0 = .ok (.aload_n 0, 1) := by decide +kernel
theorem dX0_isStrong_1 : decode cX0_isStrong 1 = .ok (.iload_n 1, 1) := by decide +kernel
theorem dX0_isStrong_2 : decode cX0_isStrong 2 = .ok (.invokevirtual 54, 3) := by decide +kernel
theorem dX0_isStrong_5 : decode cX0_isStrong 5 = .ok (.ifCond .eq 18, 3) := by decide +kernel
theorem dX0_isStrong_8 : decode cX0_isStrong 8 = .ok (.aload_n 0, 1) := by decide +kernel
theorem dX0_isStrong_9 : decode cX0_isStrong 9 = .ok (.getfield 22, 3) := by decide +kernel
theorem dX0_isStrong_12 : decode cX0_isStrong 12 = .ok (.iload_n 1, 1) := by decide +kernel
theorem dX0_isStrong_13 : decode cX0_isStrong 13 = .ok (.iaload, 1) := by decide +kernel
theorem dX0_isStrong_14 : decode cX0_isStrong 14 = .ok (.bipush 50, 2) := by decide +kernel
theorem dX0_isStrong_16 : decode cX0_isStrong 16 = .ok (.if_icmp .lt 7, 3) := by decide +kernel
theorem dX0_isStrong_19 : decode cX0_isStrong 19 = .ok (.iconst 1, 1) := by decide +kernel
theorem dX0_isStrong_20 : decode cX0_isStrong 20 = .ok (.goto 4, 3) := by decide +kernel
theorem dX0_isStrong_23 : decode cX0_isStrong 23 = .ok (.iconst 0, 1) := by decide +kernel
theorem dX0_isStrong_24 : decode cX0_isStrong 24 = .ok (.ireturn, 1) := by decide +kernel
set_option maxRecDepth 20000 in
theorem ggX0_provingRule_X0_provesKind : GoodIn wsX0_provingRule wsX0_provesKind := goodIn_r _ [7, 8, 9, 10, 11, 12, 13, 6, 14, 15, 16, 17, 18, 19, 20, 21, 22, 23, 24, 25, 26, 27, 28, 29, 30, 31, 32, 33, 34, 35, 36] (by decide +kernel) (by decide +kernel)
set_option maxRecDepth 20000 in
theorem gX0_provingRule_X0_provesKind : GoodIn wsX0_provingRule (wsV RX0 57 RX0 yX0_provesKind wsX0_provesKind) := goodIn_app (goodIn_of _ (by decide +kernel)) ggX0_provingRule_X0_provesKind
theorem dX0_provingRule_0 : decode cX0_provingRule 0 = .ok (.iconst (-1), 1) := by decide +kernel
theorem dX0_provingRule_1 : decode cX0_provingRule 1 = .ok (.istore_n 1, 1) := by decide +kernel
theorem dX0_provingRule_2 : decode cX0_provingRule 2 = .ok (.iconst 0, 1) := by decide +kernel
theorem dX0_provingRule_3 : decode cX0_provingRule 3 = .ok (.istore_n 2, 1) := by decide +kernel
theorem dX0_provingRule_4 : decode cX0_provingRule 4 = .ok (.iload_n 2, 1) := by decide +kernel
theorem dX0_provingRule_5 : decode cX0_provingRule 5 = .ok (.aload_n 0, 1) := by decide +kernel
theorem dX0_provingRule_6 : decode cX0_provingRule 6 = .ok (.getfield 28, 3) := by decide +kernel
theorem dX0_provingRule_9 : decode cX0_provingRule 9 = .ok (.if_icmp .ge 49, 3) := by decide +kernel
theorem dX0_provingRule_12 : decode cX0_provingRule 12 = .ok (.iload_n 1, 1) := by decide +kernel
theorem dX0_provingRule_13 : decode cX0_provingRule 13 = .ok (.iconst (-1), 1) := by decide +kernel
theorem dX0_provingRule_14 : decode cX0_provingRule 14 = .ok (.if_icmp .eq 18, 3) := by decide +kernel
theorem dX0_provingRule_17 : decode cX0_provingRule 17 = .ok (.aload_n 0, 1) := by decide +kernel
theorem dX0_provingRule_18 : decode cX0_provingRule 18 = .ok (.getfield 22, 3) := by decide +kernel
theorem dX0_provingRule_21 : decode cX0_provingRule 21 = .ok (.iload_n 2, 1) := by decide +kernel
theorem dX0_provingRule_22 : decode cX0_provingRule 22 = .ok (.iaload, 1) := by decide +kernel
theorem dX0_provingRule_23 : decode cX0_provingRule 23 = .ok (.aload_n 0, 1) := by decide +kernel
theorem dX0_provingRule_24 : decode cX0_provingRule 24 = .ok (.getfield 22, 3) := by decide +kernel
theorem dX0_provingRule_27 : decode cX0_provingRule 27 = .ok (.iload_n 1, 1) := by decide +kernel
theorem dX0_provingRule_28 : decode cX0_provingRule 28 = .ok (.iaload, 1) := by decide +kernel
theorem dX0_provingRule_29 : decode cX0_provingRule 29 = .ok (.if_icmp .le 7, 3) := by decide +kernel
theorem dX0_provingRule_32 : decode cX0_provingRule 32 = .ok (.iconst 1, 1) := by decide +kernel
theorem dX0_provingRule_33 : decode cX0_provingRule 33 = .ok (.goto 4, 3) := by decide +kernel
theorem dX0_provingRule_36 : decode cX0_provingRule 36 = .ok (.iconst 0, 1) := by decide +kernel
theorem dX0_provingRule_37 : decode cX0_provingRule 37 = .ok (.istore_n 3, 1) := by decide +kernel
theorem dX0_provingRule_38 : decode cX0_provingRule 38 = .ok (.iload_n 3, 1) := by decide +kernel
theorem dX0_provingRule_39 : decode cX0_provingRule 39 = .ok (.ifCond .eq 13, 3) := by decide +kernel
theorem dX0_provingRule_42 : decode cX0_provingRule 42 = .ok (.aload_n 0, 1) := by decide +kernel
theorem dX0_provingRule_43 : decode cX0_provingRule 43 = .ok (.iload_n 2, 1) := by decide +kernel
theorem dX0_provingRule_44 : decode cX0_provingRule 44 = .ok (.invokevirtual 57, 3) := by decide +kernel
theorem dX0_provingRule_47 : decode cX0_provingRule 47 = .ok (.ifCond .eq 5, 3) := by decide +kernel
theorem dX0_provingRule_50 : decode cX0_provingRule 50 = .ok (.iload_n 2, 1) := by decide +kernel
theorem dX0_provingRule_51 : decode cX0_provingRule 51 = .ok (.istore_n 1, 1) := by decide +kernel
theorem dX0_provingRule_52 : decode cX0_provingRule 52 = .ok (.iinc 2 1, 3) := by decide +kernel
theorem dX0_provingRule_55 : decode cX0_provingRule 55 = .ok (.goto (-51), 3) := by decide +kernel
theorem dX0_provingRule_58 : decode cX0_provingRule 58 = .ok (.iload_n 1, 1) := by decide +kernel
theorem dX0_provingRule_59 : decode cX0_provingRule 59 = .ok (.ireturn, 1) := by decide +kernel
set_option maxRecDepth 20000 in
theorem ggX0_provesKind_X0_holds : GoodIn wsX0_provesKind wsX0_holds := goodIn_r _ [8, 9, 10, 11, 12, 13, 14, 19, 20, 21, 22, 23, 24, 25, 26, 27, 28, 29, 30] (by decide +kernel) (by decide +kernel)
set_option maxRecDepth 20000 in
theorem gX0_provesKind_X0_holds : GoodIn wsX0_provesKind (wsV RX0 60 RX0 yX0_holds wsX0_holds) := goodIn_app (goodIn_of _ (by decide +kernel)) ggX0_provesKind_X0_holds
set_option maxRecDepth 20000 in
theorem ggX0_provesKind_X0_leadsBelow : GoodIn wsX0_provesKind wsX0_leadsBelow := goodIn_r _ [18, 3, 2, 19, 20, 21, 22, 23, 24, 25, 26, 27, 28, 29, 30] (by decide +kernel) (by decide +kernel)
set_option maxRecDepth 20000 in
theorem gX0_provesKind_X0_leadsBelow : GoodIn wsX0_provesKind (wsV RX0 63 RX0 yX0_leadsBelow wsX0_leadsBelow) := goodIn_app (goodIn_of _ (by decide +kernel)) ggX0_provesKind_X0_leadsBelow
theorem dX0_provesKind_0 : decode cX0_provesKind 0 = .ok (.iload_n 1, 1) := by decide +kernel
theorem dX0_provesKind_1 : decode cX0_provesKind 1 = .ok (.bipush 6, 2) := by decide +kernel
theorem dX0_provesKind_3 : decode cX0_provesKind 3 = .ok (.imul, 1) := by decide +kernel
theorem dX0_provesKind_4 : decode cX0_provesKind 4 = .ok (.istore_n 2, 1) := by decide +kernel
theorem dX0_provesKind_5 : decode cX0_provesKind 5 = .ok (.iload_n 2, 1) := by decide +kernel
theorem dX0_provesKind_6 : decode cX0_provesKind 6 = .ok (.aload_n 0, 1) := by decide +kernel
theorem dX0_provesKind_7 : decode cX0_provesKind 7 = .ok (.getfield 25, 3) := by decide +kernel
theorem dX0_provesKind_10 : decode cX0_provesKind 10 = .ok (.iload_n 1, 1) := by decide +kernel
theorem dX0_provesKind_11 : decode cX0_provesKind 11 = .ok (.iaload, 1) := by decide +kernel
theorem dX0_provesKind_12 : decode cX0_provesKind 12 = .ok (.iadd, 1) := by decide +kernel
theorem dX0_provesKind_13 : decode cX0_provesKind 13 = .ok (.istore_n 3, 1) := by decide +kernel
theorem dX0_provesKind_14 : decode cX0_provesKind 14 = .ok (.iconst 0, 1) := by decide +kernel
theorem dX0_provesKind_15 : decode cX0_provesKind 15 = .ok (.istore 4, 2) := by decide +kernel
theorem dX0_provesKind_17 : decode cX0_provesKind 17 = .ok (.iload_n 3, 1) := by decide +kernel
theorem dX0_provesKind_18 : decode cX0_provesKind 18 = .ok (.iconst 1, 1) := by decide +kernel
theorem dX0_provesKind_19 : decode cX0_provesKind 19 = .ok (.isub, 1) := by decide +kernel
theorem dX0_provesKind_20 : decode cX0_provesKind 20 = .ok (.istore 5, 2) := by decide +kernel
theorem dX0_provesKind_22 : decode cX0_provesKind 22 = .ok (.iload 5, 2) := by decide +kernel
theorem dX0_provesKind_24 : decode cX0_provesKind 24 = .ok (.iload_n 2, 1) := by decide +kernel
theorem dX0_provesKind_25 : decode cX0_provesKind 25 = .ok (.if_icmp .lt 72, 3) := by decide +kernel
theorem dX0_provesKind_28 : decode cX0_provesKind 28 = .ok (.aload_n 0, 1) := by decide +kernel
theorem dX0_provesKind_29 : decode cX0_provesKind 29 = .ok (.getfield 46, 3) := by decide +kernel
theorem dX0_provesKind_32 : decode cX0_provesKind 32 = .ok (.iload 5, 2) := by decide +kernel
theorem dX0_provesKind_34 : decode cX0_provesKind 34 = .ok (.aload_n 0, 1) := by decide +kernel
theorem dX0_provesKind_35 : decode cX0_provesKind 35 = .ok (.iload 5, 2) := by decide +kernel
theorem dX0_provesKind_37 : decode cX0_provesKind 37 = .ok (.invokevirtual 60, 3) := by decide +kernel
theorem dX0_provesKind_40 : decode cX0_provesKind 40 = .ok (.ifCond .eq 17, 3) := by decide +kernel
theorem dX0_provesKind_43 : decode cX0_provesKind 43 = .ok (.aload_n 0, 1) := by decide +kernel
theorem dX0_provesKind_44 : decode cX0_provesKind 44 = .ok (.iload 5, 2) := by decide +kernel
theorem dX0_provesKind_46 : decode cX0_provesKind 46 = .ok (.iload_n 3, 1) := by decide +kernel
theorem dX0_provesKind_47 : decode cX0_provesKind 47 = .ok (.invokevirtual 63, 3) := by decide +kernel
theorem dX0_provesKind_50 : decode cX0_provesKind 50 = .ok (.ifCond .eq 7, 3) := by decide +kernel
theorem dX0_provesKind_53 : decode cX0_provesKind 53 = .ok (.iconst 1, 1) := by decide +kernel
theorem dX0_provesKind_54 : decode cX0_provesKind 54 = .ok (.goto 4, 3) := by decide +kernel
theorem dX0_provesKind_57 : decode cX0_provesKind 57 = .ok (.iconst 0, 1) := by decide +kernel
theorem dX0_provesKind_58 : decode cX0_provesKind 58 = .ok (.bastore, 1) := by decide +kernel
theorem dX0_provesKind_59 : decode cX0_provesKind 59 = .ok (.iload 4, 2) := by decide +kernel
theorem dX0_provesKind_61 : decode cX0_provesKind 61 = .ok (.ifCond .ne 23, 3) := by decide +kernel
theorem dX0_provesKind_64 : decode cX0_provesKind 64 = .ok (.aload_n 0, 1) := by decide +kernel
theorem dX0_provesKind_65 : decode cX0_provesKind 65 = .ok (.getfield 46, 3) := by decide +kernel
theorem dX0_provesKind_68 : decode cX0_provesKind 68 = .ok (.iload 5, 2) := by decide +kernel
theorem dX0_provesKind_70 : decode cX0_provesKind 70 = .ok (.baload, 1) := by decide +kernel
theorem dX0_provesKind_71 : decode cX0_provesKind 71 = .ok (.ifCond .eq 17, 3) := by decide +kernel
theorem dX0_provesKind_74 : decode cX0_provesKind 74 = .ok (.aload_n 0, 1) := by decide +kernel
theorem dX0_provesKind_75 : decode cX0_provesKind 75 = .ok (.getfield 31, 3) := by decide +kernel
theorem dX0_provesKind_78 : decode cX0_provesKind 78 = .ok (.iload 5, 2) := by decide +kernel
theorem dX0_provesKind_80 : decode cX0_provesKind 80 = .ok (.iaload, 1) := by decide +kernel
theorem dX0_provesKind_81 : decode cX0_provesKind 81 = .ok (.ifCond .ne 7, 3) := by decide +kernel
theorem dX0_provesKind_84 : decode cX0_provesKind 84 = .ok (.iconst 1, 1) := by decide +kernel
theorem dX0_provesKind_85 : decode cX0_provesKind 85 = .ok (.goto 4, 3) := by decide +kernel
theorem dX0_provesKind_88 : decode cX0_provesKind 88 = .ok (.iconst 0, 1) := by decide +kernel
theorem dX0_provesKind_89 : decode cX0_provesKind 89 = .ok (.istore 4, 2) := by decide +kernel
theorem dX0_provesKind_91 : decode cX0_provesKind 91 = .ok (.iinc 5 (-1), 3) := by decide +kernel
theorem dX0_provesKind_94 : decode cX0_provesKind 94 = .ok (.goto (-72), 3) := by decide +kernel
theorem dX0_provesKind_97 : decode cX0_provesKind 97 = .ok (.iload 4, 2) := by decide +kernel
theorem dX0_provesKind_99 : decode cX0_provesKind 99 = .ok (.ireturn, 1) := by decide +kernel
theorem dX0_holds_0 : decode cX0_holds 0 = .ok (.aload_n 0, 1) := by decide +kernel
theorem dX0_holds_1 : decode cX0_holds 1 = .ok (.getfield 34, 3) := by decide +kernel
theorem dX0_holds_4 : decode cX0_holds 4 = .ok (.iload_n 1, 1) := by decide +kernel
theorem dX0_holds_5 : decode cX0_holds 5 = .ok (.iaload, 1) := by decide +kernel
theorem dX0_holds_6 : decode cX0_holds 6 = .ok (.istore_n 2, 1) := by decide +kernel
theorem dX0_holds_7 : decode cX0_holds 7 = .ok (.iload_n 2, 1) := by decide +kernel
theorem dX0_holds_8 : decode cX0_holds 8 = .ok (.aload_n 0, 1) := by decide +kernel
theorem dX0_holds_9 : decode cX0_holds 9 = .ok (.getfield 37, 3) := by decide +kernel
theorem dX0_holds_12 : decode cX0_holds 12 = .ok (.iload_n 1, 1) := by decide +kernel
theorem dX0_holds_13 : decode cX0_holds 13 = .ok (.iaload, 1) := by decide +kernel
theorem dX0_holds_14 : decode cX0_holds 14 = .ok (.if_icmp .gt 41, 3) := by decide +kernel
theorem dX0_holds_17 : decode cX0_holds 17 = .ok (.iload_n 2, 1) := by decide +kernel
theorem dX0_holds_18 : decode cX0_holds 18 = .ok (.aload_n 0, 1) := by decide +kernel
theorem dX0_holds_19 : decode cX0_holds 19 = .ok (.getfield 15, 3) := by decide +kernel
theorem dX0_holds_22 : decode cX0_holds 22 = .ok (.if_icmp .ge 33, 3) := by decide +kernel
theorem dX0_holds_25 : decode cX0_holds 25 = .ok (.aload_n 0, 1) := by decide +kernel
theorem dX0_holds_26 : decode cX0_holds 26 = .ok (.getfield 9, 3) := by decide +kernel
theorem dX0_holds_29 : decode cX0_holds 29 = .ok (.iload_n 2, 1) := by decide +kernel
theorem dX0_holds_30 : decode cX0_holds 30 = .ok (.iaload, 1) := by decide +kernel
theorem dX0_holds_31 : decode cX0_holds 31 = .ok (.aload_n 0, 1) := by decide +kernel
theorem dX0_holds_32 : decode cX0_holds 32 = .ok (.getfield 43, 3) := by decide +kernel
theorem dX0_holds_35 : decode cX0_holds 35 = .ok (.iload_n 1, 1) := by decide +kernel
theorem dX0_holds_36 : decode cX0_holds 36 = .ok (.iaload, 1) := by decide +kernel
theorem dX0_holds_37 : decode cX0_holds 37 = .ok (.iand, 1) := by decide +kernel
theorem dX0_holds_38 : decode cX0_holds 38 = .ok (.aload_n 0, 1) := by decide +kernel
theorem dX0_holds_39 : decode cX0_holds 39 = .ok (.getfield 40, 3) := by decide +kernel
theorem dX0_holds_42 : decode cX0_holds 42 = .ok (.iload_n 1, 1) := by decide +kernel
theorem dX0_holds_43 : decode cX0_holds 43 = .ok (.iaload, 1) := by decide +kernel
theorem dX0_holds_44 : decode cX0_holds 44 = .ok (.if_icmp .ne 5, 3) := by decide +kernel
theorem dX0_holds_47 : decode cX0_holds 47 = .ok (.iconst 1, 1) := by decide +kernel
theorem dX0_holds_48 : decode cX0_holds 48 = .ok (.ireturn, 1) := by decide +kernel
theorem dX0_holds_49 : decode cX0_holds 49 = .ok (.iinc 2 1, 3) := by decide +kernel
theorem dX0_holds_52 : decode cX0_holds 52 = .ok (.goto (-45), 3) := by decide +kernel
theorem dX0_holds_55 : decode cX0_holds 55 = .ok (.iconst 0, 1) := by decide +kernel
theorem dX0_holds_56 : decode cX0_holds 56 = .ok (.ireturn, 1) := by decide +kernel
theorem dX0_leadsBelow_0 : decode cX0_leadsBelow 0 = .ok (.aload_n 0, 1) := by decide +kernel
theorem dX0_leadsBelow_1 : decode cX0_leadsBelow 1 = .ok (.getfield 31, 3) := by decide +kernel
theorem dX0_leadsBelow_4 : decode cX0_leadsBelow 4 = .ok (.iload_n 1, 1) := by decide +kernel
theorem dX0_leadsBelow_5 : decode cX0_leadsBelow 5 = .ok (.iaload, 1) := by decide +kernel
theorem dX0_leadsBelow_6 : decode cX0_leadsBelow 6 = .ok (.iconst 1, 1) := by decide +kernel
theorem dX0_leadsBelow_7 : decode cX0_leadsBelow 7 = .ok (.iadd, 1) := by decide +kernel
theorem dX0_leadsBelow_8 : decode cX0_leadsBelow 8 = .ok (.istore_n 3, 1) := by decide +kernel
theorem dX0_leadsBelow_9 : decode cX0_leadsBelow 9 = .ok (.iconst 1, 1) := by decide +kernel
theorem dX0_leadsBelow_10 : decode cX0_leadsBelow 10 = .ok (.istore 4, 2) := by decide +kernel
theorem dX0_leadsBelow_12 : decode cX0_leadsBelow 12 = .ok (.iload_n 1, 1) := by decide +kernel
theorem dX0_leadsBelow_13 : decode cX0_leadsBelow 13 = .ok (.iconst 1, 1) := by decide +kernel
theorem dX0_leadsBelow_14 : decode cX0_leadsBelow 14 = .ok (.iadd, 1) := by decide +kernel
theorem dX0_leadsBelow_15 : decode cX0_leadsBelow 15 = .ok (.istore 5, 2) := by decide +kernel
theorem dX0_leadsBelow_17 : decode cX0_leadsBelow 17 = .ok (.iload 5, 2) := by decide +kernel
theorem dX0_leadsBelow_19 : decode cX0_leadsBelow 19 = .ok (.iload_n 2, 1) := by decide +kernel
theorem dX0_leadsBelow_20 : decode cX0_leadsBelow 20 = .ok (.if_icmp .ge 46, 3) := by decide +kernel
theorem dX0_leadsBelow_23 : decode cX0_leadsBelow 23 = .ok (.aload_n 0, 1) := by decide +kernel
theorem dX0_leadsBelow_24 : decode cX0_leadsBelow 24 = .ok (.getfield 31, 3) := by decide +kernel
theorem dX0_leadsBelow_27 : decode cX0_leadsBelow 27 = .ok (.iload 5, 2) := by decide +kernel
theorem dX0_leadsBelow_29 : decode cX0_leadsBelow 29 = .ok (.iaload, 1) := by decide +kernel
theorem dX0_leadsBelow_30 : decode cX0_leadsBelow 30 = .ok (.iload_n 3, 1) := by decide +kernel
theorem dX0_leadsBelow_31 : decode cX0_leadsBelow 31 = .ok (.if_icmp .lt 35, 3) := by decide +kernel
theorem dX0_leadsBelow_34 : decode cX0_leadsBelow 34 = .ok (.aload_n 0, 1) := by decide +kernel
theorem dX0_leadsBelow_35 : decode cX0_leadsBelow 35 = .ok (.getfield 31, 3) := by decide +kernel
theorem dX0_leadsBelow_38 : decode cX0_leadsBelow 38 = .ok (.iload 5, 2) := by decide +kernel
theorem dX0_leadsBelow_40 : decode cX0_leadsBelow 40 = .ok (.iaload, 1) := by decide +kernel
theorem dX0_leadsBelow_41 : decode cX0_leadsBelow 41 = .ok (.iload_n 3, 1) := by decide +kernel
theorem dX0_leadsBelow_42 : decode cX0_leadsBelow 42 = .ok (.if_icmp .ne 18, 3) := by decide +kernel
theorem dX0_leadsBelow_45 : decode cX0_leadsBelow 45 = .ok (.aload_n 0, 1) := by decide +kernel
theorem dX0_leadsBelow_46 : decode cX0_leadsBelow 46 = .ok (.getfield 46, 3) := by decide +kernel
theorem dX0_leadsBelow_49 : decode cX0_leadsBelow 49 = .ok (.iload 5, 2) := by decide +kernel
theorem dX0_leadsBelow_51 : decode cX0_leadsBelow 51 = .ok (.baload, 1) := by decide +kernel
theorem dX0_leadsBelow_52 : decode cX0_leadsBelow 52 = .ok (.ifCond .eq 5, 3) := by decide +kernel
theorem dX0_leadsBelow_55 : decode cX0_leadsBelow 55 = .ok (.iconst 1, 1) := by decide +kernel
theorem dX0_leadsBelow_56 : decode cX0_leadsBelow 56 = .ok (.ireturn, 1) := by decide +kernel
theorem dX0_leadsBelow_57 : decode cX0_leadsBelow 57 = .ok (.iconst 0, 1) := by decide +kernel
theorem dX0_leadsBelow_58 : decode cX0_leadsBelow 58 = .ok (.istore 4, 2) := by decide +kernel
theorem dX0_leadsBelow_60 : decode cX0_leadsBelow 60 = .ok (.iinc 5 1, 3) := by decide +kernel
theorem dX0_leadsBelow_63 : decode cX0_leadsBelow 63 = .ok (.goto (-46), 3) := by decide +kernel
theorem dX0_leadsBelow_66 : decode cX0_leadsBelow 66 = .ok (.iload 4, 2) := by decide +kernel
theorem dX0_leadsBelow_68 : decode cX0_leadsBelow 68 = .ok (.ireturn, 1) := by decide +kernel
theorem dX1_init_0 : decode cX1_init 0 = .ok (.aload_n 0, 1) := by decide +kernel
theorem dX1_init_1 : decode cX1_init 1 = .ok (.invokespecial 3, 3) := by decide +kernel
theorem dX1_init_4 : decode cX1_init 4 = .ok (.aload_n 0, 1) := by decide +kernel
theorem dX1_init_5 : decode cX1_init 5 = .ok (.bipush 14, 2) := by decide +kernel
theorem dX1_init_7 : decode cX1_init 7 = .ok (.newarray .int, 2) := by decide +kernel
theorem dX1_init_9 : decode cX1_init 9 = .ok (.putfield 9, 3) := by decide +kernel
theorem dX1_init_12 : decode cX1_init 12 = .ok (.aload_n 0, 1) := by decide +kernel
theorem dX1_init_13 : decode cX1_init 13 = .ok (.iconst 0, 1) := by decide +kernel
theorem dX1_init_14 : decode cX1_init 14 = .ok (.putfield 15, 3) := by decide +kernel
theorem dX1_init_17 : decode cX1_init 17 = .ok (.return_, 1) := by decide +kernel
theorem dX1_size_0 : decode cX1_size 0 = .ok (.aload_n 0, 1) := by decide +kernel
theorem dX1_size_1 : decode cX1_size 1 = .ok (.getfield 15, 3) := by decide +kernel
theorem dX1_size_4 : decode cX1_size 4 = .ok (.ireturn, 1) := by decide +kernel
theorem dX1_has_0 : decode cX1_has 0 = .ok (.iload_n 1, 1) := by decide +kernel
theorem dX1_has_1 : decode cX1_has 1 = .ok (.ifCond .lt 15, 3) := by decide +kernel
theorem dX1_has_4 : decode cX1_has 4 = .ok (.iload_n 1, 1) := by decide +kernel
theorem dX1_has_5 : decode cX1_has 5 = .ok (.aload_n 0, 1) := by decide +kernel
theorem dX1_has_6 : decode cX1_has 6 = .ok (.getfield 15, 3) := by decide +kernel
theorem dX1_has_9 : decode cX1_has 9 = .ok (.if_icmp .ge 7, 3) := by decide +kernel
theorem dX1_has_12 : decode cX1_has 12 = .ok (.iconst 1, 1) := by decide +kernel
theorem dX1_has_13 : decode cX1_has 13 = .ok (.goto 4, 3) := by decide +kernel
theorem dX1_has_16 : decode cX1_has 16 = .ok (.iconst 0, 1) := by decide +kernel
theorem dX1_has_17 : decode cX1_has 17 = .ok (.ireturn, 1) := by decide +kernel
theorem dX1_isFull_0 : decode cX1_isFull 0 = .ok (.aload_n 0, 1) := by decide +kernel
theorem dX1_isFull_1 : decode cX1_isFull 1 = .ok (.getfield 15, 3) := by decide +kernel
theorem dX1_isFull_4 : decode cX1_isFull 4 = .ok (.bipush 14, 2) := by decide +kernel
theorem dX1_isFull_6 : decode cX1_isFull 6 = .ok (.if_icmp .lt 7, 3) := by decide +kernel
theorem dX1_isFull_9 : decode cX1_isFull 9 = .ok (.iconst 1, 1) := by decide +kernel
theorem dX1_isFull_10 : decode cX1_isFull 10 = .ok (.goto 4, 3) := by decide +kernel
theorem dX1_isFull_13 : decode cX1_isFull 13 = .ok (.iconst 0, 1) := by decide +kernel
theorem dX1_isFull_14 : decode cX1_isFull 14 = .ok (.ireturn, 1) := by decide +kernel
theorem dX1_add_0 : decode cX1_add 0 = .ok (.aload_n 0, 1) := by decide +kernel
theorem dX1_add_1 : decode cX1_add 1 = .ok (.getfield 9, 3) := by decide +kernel
theorem dX1_add_4 : decode cX1_add 4 = .ok (.aload_n 0, 1) := by decide +kernel
theorem dX1_add_5 : decode cX1_add 5 = .ok (.getfield 15, 3) := by decide +kernel
theorem dX1_add_8 : decode cX1_add 8 = .ok (.iload_n 1, 1) := by decide +kernel
theorem dX1_add_9 : decode cX1_add 9 = .ok (.iastore, 1) := by decide +kernel
theorem dX1_add_10 : decode cX1_add 10 = .ok (.aload_n 0, 1) := by decide +kernel
theorem dX1_add_11 : decode cX1_add 11 = .ok (.dup, 1) := by decide +kernel
theorem dX1_add_12 : decode cX1_add 12 = .ok (.getfield 15, 3) := by decide +kernel
theorem dX1_add_15 : decode cX1_add 15 = .ok (.iconst 1, 1) := by decide +kernel
theorem dX1_add_16 : decode cX1_add 16 = .ok (.iadd, 1) := by decide +kernel
theorem dX1_add_17 : decode cX1_add 17 = .ok (.putfield 15, 3) := by decide +kernel
theorem dX1_add_20 : decode cX1_add 20 = .ok (.aload_n 0, 1) := by decide +kernel
theorem dX1_add_21 : decode cX1_add 21 = .ok (.getfield 15, 3) := by decide +kernel
theorem dX1_add_24 : decode cX1_add 24 = .ok (.iconst 1, 1) := by decide +kernel
theorem dX1_add_25 : decode cX1_add 25 = .ok (.isub, 1) := by decide +kernel
theorem dX1_add_26 : decode cX1_add 26 = .ok (.ireturn, 1) := by decide +kernel
set_option maxRecDepth 20000 in
theorem ggX1_parentOf_X1_has : GoodIn wsX1_parentOf wsX1_has := goodIn_r _ [6, 7, 8, 9] (by decide +kernel) (by decide +kernel)
set_option maxRecDepth 20000 in
theorem gX1_parentOf_X1_has : GoodIn wsX1_parentOf (wsV RX1 19 RX1 yX1_has wsX1_has) := goodIn_app (goodIn_of _ (by decide +kernel)) ggX1_parentOf_X1_has
theorem dX1_parentOf_0 : decode cX1_parentOf 0 = .ok (.aload_n 0, 1) := by decide +kernel
theorem dX1_parentOf_1 : decode cX1_parentOf 1 = .ok (.iload_n 1, 1) := by decide +kernel
theorem dX1_parentOf_2 : decode cX1_parentOf 2 = .ok (.invokevirtual 19, 3) := by decide +kernel
theorem dX1_parentOf_5 : decode cX1_parentOf 5 = .ok (.ifCond .eq 12, 3) := by decide +kernel
theorem dX1_parentOf_8 : decode cX1_parentOf 8 = .ok (.aload_n 0, 1) := by decide +kernel
theorem dX1_parentOf_9 : decode cX1_parentOf 9 = .ok (.getfield 9, 3) := by decide +kernel
theorem dX1_parentOf_12 : decode cX1_parentOf 12 = .ok (.iload_n 1, 1) := by decide +kernel
theorem dX1_parentOf_13 : decode cX1_parentOf 13 = .ok (.iaload, 1) := by decide +kernel
theorem dX1_parentOf_14 : decode cX1_parentOf 14 = .ok (.goto 4, 3) := by decide +kernel
theorem dX1_parentOf_17 : decode cX1_parentOf 17 = .ok (.iconst (-1), 1) := by decide +kernel
theorem dX1_parentOf_18 : decode cX1_parentOf 18 = .ok (.ireturn, 1) := by decide +kernel
set_option maxRecDepth 20000 in
theorem ggX1_leadsUp_X1_parentOf : GoodIn wsX1_leadsUp wsX1_parentOf := goodIn_r _ [5, 6, 7, 8, 9, 4, 10, 11, 12, 13] (by decide +kernel) (by decide +kernel)
set_option maxRecDepth 20000 in
theorem gX1_leadsUp_X1_parentOf : GoodIn wsX1_leadsUp (wsV RX1 23 RX1 yX1_parentOf wsX1_parentOf) := goodIn_app (goodIn_of _ (by decide +kernel)) ggX1_leadsUp_X1_parentOf
theorem dX1_leadsUp_0 : decode cX1_leadsUp 0 = .ok (.iload_n 1, 1) := by decide +kernel
theorem dX1_leadsUp_1 : decode cX1_leadsUp 1 = .ok (.istore_n 3, 1) := by decide +kernel
theorem dX1_leadsUp_2 : decode cX1_leadsUp 2 = .ok (.iconst 0, 1) := by decide +kernel
theorem dX1_leadsUp_3 : decode cX1_leadsUp 3 = .ok (.istore 4, 2) := by decide +kernel
theorem dX1_leadsUp_5 : decode cX1_leadsUp 5 = .ok (.iload 4, 2) := by decide +kernel
theorem dX1_leadsUp_7 : decode cX1_leadsUp 7 = .ok (.bipush 14, 2) := by decide +kernel
theorem dX1_leadsUp_9 : decode cX1_leadsUp 9 = .ok (.if_icmp .ge 27, 3) := by decide +kernel
theorem dX1_leadsUp_12 : decode cX1_leadsUp 12 = .ok (.iload_n 3, 1) := by decide +kernel
theorem dX1_leadsUp_13 : decode cX1_leadsUp 13 = .ok (.iconst (-1), 1) := by decide +kernel
theorem dX1_leadsUp_14 : decode cX1_leadsUp 14 = .ok (.if_icmp .eq 22, 3) := by decide +kernel
theorem dX1_leadsUp_17 : decode cX1_leadsUp 17 = .ok (.iload_n 3, 1) := by decide +kernel
theorem dX1_leadsUp_18 : decode cX1_leadsUp 18 = .ok (.iload_n 2, 1) := by decide +kernel
theorem dX1_leadsUp_19 : decode cX1_leadsUp 19 = .ok (.if_icmp .ne 5, 3) := by decide +kernel
theorem dX1_leadsUp_22 : decode cX1_leadsUp 22 = .ok (.iconst 1, 1) := by decide +kernel
theorem dX1_leadsUp_23 : decode cX1_leadsUp 23 = .ok (.ireturn, 1) := by decide +kernel
theorem dX1_leadsUp_24 : decode cX1_leadsUp 24 = .ok (.aload_n 0, 1) := by decide +kernel
theorem dX1_leadsUp_25 : decode cX1_leadsUp 25 = .ok (.iload_n 3, 1) := by decide +kernel
theorem dX1_leadsUp_26 : decode cX1_leadsUp 26 = .ok (.invokevirtual 23, 3) := by decide +kernel
theorem dX1_leadsUp_29 : decode cX1_leadsUp 29 = .ok (.istore_n 3, 1) := by decide +kernel
theorem dX1_leadsUp_30 : decode cX1_leadsUp 30 = .ok (.iinc 4 1, 3) := by decide +kernel
theorem dX1_leadsUp_33 : decode cX1_leadsUp 33 = .ok (.goto (-28), 3) := by decide +kernel
theorem dX1_leadsUp_36 : decode cX1_leadsUp 36 = .ok (.iconst 0, 1) := by decide +kernel
theorem dX1_leadsUp_37 : decode cX1_leadsUp 37 = .ok (.ireturn, 1) := by decide +kernel
theorem dX2_init_0 : decode cX2_init 0 = .ok (.aload_n 0, 1) := by decide +kernel
theorem dX2_init_1 : decode cX2_init 1 = .ok (.invokespecial 3, 3) := by decide +kernel
theorem dX2_init_4 : decode cX2_init 4 = .ok (.aload_n 0, 1) := by decide +kernel
theorem dX2_init_5 : decode cX2_init 5 = .ok (.bipush 12, 2) := by decide +kernel
theorem dX2_init_7 : decode cX2_init 7 = .ok (.newarray .int, 2) := by decide +kernel
theorem dX2_init_9 : decode cX2_init 9 = .ok (.putfield 9, 3) := by decide +kernel
theorem dX2_init_12 : decode cX2_init 12 = .ok (.aload_n 0, 1) := by decide +kernel
theorem dX2_init_13 : decode cX2_init 13 = .ok (.iconst 0, 1) := by decide +kernel
theorem dX2_init_14 : decode cX2_init 14 = .ok (.putfield 15, 3) := by decide +kernel
theorem dX2_init_17 : decode cX2_init 17 = .ok (.aload_n 0, 1) := by decide +kernel
theorem dX2_init_18 : decode cX2_init 18 = .ok (.bipush 20, 2) := by decide +kernel
theorem dX2_init_20 : decode cX2_init 20 = .ok (.newarray .int, 2) := by decide +kernel
theorem dX2_init_22 : decode cX2_init 22 = .ok (.putfield 19, 3) := by decide +kernel
theorem dX2_init_25 : decode cX2_init 25 = .ok (.aload_n 0, 1) := by decide +kernel
theorem dX2_init_26 : decode cX2_init 26 = .ok (.bipush 20, 2) := by decide +kernel
theorem dX2_init_28 : decode cX2_init 28 = .ok (.newarray .int, 2) := by decide +kernel
theorem dX2_init_30 : decode cX2_init 30 = .ok (.putfield 22, 3) := by decide +kernel
theorem dX2_init_33 : decode cX2_init 33 = .ok (.aload_n 0, 1) := by decide +kernel
theorem dX2_init_34 : decode cX2_init 34 = .ok (.bipush 20, 2) := by decide +kernel
theorem dX2_init_36 : decode cX2_init 36 = .ok (.newarray .int, 2) := by decide +kernel
theorem dX2_init_38 : decode cX2_init 38 = .ok (.putfield 25, 3) := by decide +kernel
theorem dX2_init_41 : decode cX2_init 41 = .ok (.aload_n 0, 1) := by decide +kernel
theorem dX2_init_42 : decode cX2_init 42 = .ok (.bipush 20, 2) := by decide +kernel
theorem dX2_init_44 : decode cX2_init 44 = .ok (.newarray .boolean, 2) := by decide +kernel
theorem dX2_init_46 : decode cX2_init 46 = .ok (.putfield 28, 3) := by decide +kernel
end
section
theorem dX2_init_49 : decode cX2_init 49 = .ok (.aload_n 0, 1) := by decide +kernel
theorem dX2_init_50 : decode cX2_init 50 = .ok (.sipush 160, 3) := by decide +kernel
theorem dX2_init_53 : decode cX2_init 53 = .ok (.newarray .int, 2) := by decide +kernel
theorem dX2_init_55 : decode cX2_init 55 = .ok (.putfield 32, 3) := by decide +kernel
theorem dX2_init_58 : decode cX2_init 58 = .ok (.aload_n 0, 1) := by decide +kernel
theorem dX2_init_59 : decode cX2_init 59 = .ok (.iconst 0, 1) := by decide +kernel
theorem dX2_init_60 : decode cX2_init 60 = .ok (.putfield 35, 3) := by decide +kernel
theorem dX2_init_63 : decode cX2_init 63 = .ok (.aload_n 0, 1) := by decide +kernel
theorem dX2_init_64 : decode cX2_init 64 = .ok (.iconst 0, 1) := by decide +kernel
theorem dX2_init_65 : decode cX2_init 65 = .ok (.putfield 38, 3) := by decide +kernel
theorem dX2_init_68 : decode cX2_init 68 = .ok (.aload_n 0, 1) := by decide +kernel
theorem dX2_init_69 : decode cX2_init 69 = .ok (.bipush 117, 2) := by decide +kernel
theorem dX2_init_71 : decode cX2_init 71 = .ok (.newarray .boolean, 2) := by decide +kernel
theorem dX2_init_73 : decode cX2_init 73 = .ok (.putfield 41, 3) := by decide +kernel
theorem dX2_init_76 : decode cX2_init 76 = .ok (.return_, 1) := by decide +kernel
theorem dX2_isFullOfLetters_0 : decode cX2_isFullOfLetters 0 = .ok (.aload_n 0, 1) := by decide +kernel
theorem dX2_isFullOfLetters_1 : decode cX2_isFullOfLetters 1 = .ok (.getfield 15, 3) := by decide +kernel
theorem dX2_isFullOfLetters_4 : decode cX2_isFullOfLetters 4 = .ok (.bipush 12, 2) := by decide +kernel
theorem dX2_isFullOfLetters_6 : decode cX2_isFullOfLetters 6 = .ok (.if_icmp .lt 7, 3) := by decide +kernel
theorem dX2_isFullOfLetters_9 : decode cX2_isFullOfLetters 9 = .ok (.iconst 1, 1) := by decide +kernel
theorem dX2_isFullOfLetters_10 : decode cX2_isFullOfLetters 10 = .ok (.goto 4, 3) := by decide +kernel
theorem dX2_isFullOfLetters_13 : decode cX2_isFullOfLetters 13 = .ok (.iconst 0, 1) := by decide +kernel
theorem dX2_isFullOfLetters_14 : decode cX2_isFullOfLetters 14 = .ok (.ireturn, 1) := by decide +kernel
theorem dX2_addLetter_0 : decode cX2_addLetter 0 = .ok (.aload_n 0, 1) := by decide +kernel
theorem dX2_addLetter_1 : decode cX2_addLetter 1 = .ok (.getfield 9, 3) := by decide +kernel
theorem dX2_addLetter_4 : decode cX2_addLetter 4 = .ok (.aload_n 0, 1) := by decide +kernel
theorem dX2_addLetter_5 : decode cX2_addLetter 5 = .ok (.getfield 15, 3) := by decide +kernel
theorem dX2_addLetter_8 : decode cX2_addLetter 8 = .ok (.iload_n 1, 1) := by decide +kernel
theorem dX2_addLetter_9 : decode cX2_addLetter 9 = .ok (.iastore, 1) := by decide +kernel
theorem dX2_addLetter_10 : decode cX2_addLetter 10 = .ok (.aload_n 0, 1) := by decide +kernel
theorem dX2_addLetter_11 : decode cX2_addLetter 11 = .ok (.dup, 1) := by decide +kernel
theorem dX2_addLetter_12 : decode cX2_addLetter 12 = .ok (.getfield 15, 3) := by decide +kernel
theorem dX2_addLetter_15 : decode cX2_addLetter 15 = .ok (.iconst 1, 1) := by decide +kernel
theorem dX2_addLetter_16 : decode cX2_addLetter 16 = .ok (.iadd, 1) := by decide +kernel
theorem dX2_addLetter_17 : decode cX2_addLetter 17 = .ok (.putfield 15, 3) := by decide +kernel
theorem dX2_addLetter_20 : decode cX2_addLetter 20 = .ok (.aload_n 0, 1) := by decide +kernel
theorem dX2_addLetter_21 : decode cX2_addLetter 21 = .ok (.getfield 15, 3) := by decide +kernel
theorem dX2_addLetter_24 : decode cX2_addLetter 24 = .ok (.ireturn, 1) := by decide +kernel
theorem dX2_clearName_0 : decode cX2_clearName 0 = .ok (.aload_n 0, 1) := by decide +kernel
theorem dX2_clearName_1 : decode cX2_clearName 1 = .ok (.getfield 15, 3) := by decide +kernel
theorem dX2_clearName_4 : decode cX2_clearName 4 = .ok (.istore_n 1, 1) := by decide +kernel
theorem dX2_clearName_5 : decode cX2_clearName 5 = .ok (.aload_n 0, 1) := by decide +kernel
theorem dX2_clearName_6 : decode cX2_clearName 6 = .ok (.iconst 0, 1) := by decide +kernel
theorem dX2_clearName_7 : decode cX2_clearName 7 = .ok (.putfield 15, 3) := by decide +kernel
theorem dX2_clearName_10 : decode cX2_clearName 10 = .ok (.iload_n 1, 1) := by decide +kernel
theorem dX2_clearName_11 : decode cX2_clearName 11 = .ok (.ireturn, 1) := by decide +kernel
theorem dX2_hasPattern_0 : decode cX2_hasPattern 0 = .ok (.iload_n 1, 1) := by decide +kernel
theorem dX2_hasPattern_1 : decode cX2_hasPattern 1 = .ok (.ifCond .lt 24, 3) := by decide +kernel
theorem dX2_hasPattern_4 : decode cX2_hasPattern 4 = .ok (.iload_n 1, 1) := by decide +kernel
theorem dX2_hasPattern_5 : decode cX2_hasPattern 5 = .ok (.aload_n 0, 1) := by decide +kernel
theorem dX2_hasPattern_6 : decode cX2_hasPattern 6 = .ok (.getfield 35, 3) := by decide +kernel
theorem dX2_hasPattern_9 : decode cX2_hasPattern 9 = .ok (.if_icmp .ge 16, 3) := by decide +kernel
theorem dX2_hasPattern_12 : decode cX2_hasPattern 12 = .ok (.aload_n 0, 1) := by decide +kernel
theorem dX2_hasPattern_13 : decode cX2_hasPattern 13 = .ok (.getfield 28, 3) := by decide +kernel
theorem dX2_hasPattern_16 : decode cX2_hasPattern 16 = .ok (.iload_n 1, 1) := by decide +kernel
theorem dX2_hasPattern_17 : decode cX2_hasPattern 17 = .ok (.baload, 1) := by decide +kernel
theorem dX2_hasPattern_18 : decode cX2_hasPattern 18 = .ok (.ifCond .eq 7, 3) := by decide +kernel
theorem dX2_hasPattern_21 : decode cX2_hasPattern 21 = .ok (.iconst 1, 1) := by decide +kernel
theorem dX2_hasPattern_22 : decode cX2_hasPattern 22 = .ok (.goto 4, 3) := by decide +kernel
theorem dX2_hasPattern_25 : decode cX2_hasPattern 25 = .ok (.iconst 0, 1) := by decide +kernel
theorem dX2_hasPattern_26 : decode cX2_hasPattern 26 = .ok (.ireturn, 1) := by decide +kernel
theorem dX2_isFullOfPatterns_0 : decode cX2_isFullOfPatterns 0 = .ok (.aload_n 0, 1) := by decide +kernel
theorem dX2_isFullOfPatterns_1 : decode cX2_isFullOfPatterns 1 = .ok (.getfield 35, 3) := by decide +kernel
theorem dX2_isFullOfPatterns_4 : decode cX2_isFullOfPatterns 4 = .ok (.bipush 20, 2) := by decide +kernel
theorem dX2_isFullOfPatterns_6 : decode cX2_isFullOfPatterns 6 = .ok (.if_icmp .lt 7, 3) := by decide +kernel
theorem dX2_isFullOfPatterns_9 : decode cX2_isFullOfPatterns 9 = .ok (.iconst 1, 1) := by decide +kernel
theorem dX2_isFullOfPatterns_10 : decode cX2_isFullOfPatterns 10 = .ok (.goto 4, 3) := by decide +kernel
theorem dX2_isFullOfPatterns_13 : decode cX2_isFullOfPatterns 13 = .ok (.iconst 0, 1) := by decide +kernel
theorem dX2_isFullOfPatterns_14 : decode cX2_isFullOfPatterns 14 = .ok (.ireturn, 1) := by decide +kernel
theorem dX2_writeToken_0 : decode cX2_writeToken 0 = .ok (.aload_n 0, 1) := by decide +kernel
theorem dX2_writeToken_1 : decode cX2_writeToken 1 = .ok (.getfield 32, 3) := by decide +kernel
theorem dX2_writeToken_4 : decode cX2_writeToken 4 = .ok (.aload_n 0, 1) := by decide +kernel
theorem dX2_writeToken_5 : decode cX2_writeToken 5 = .ok (.getfield 35, 3) := by decide +kernel
theorem dX2_writeToken_8 : decode cX2_writeToken 8 = .ok (.bipush 8, 2) := by decide +kernel
theorem dX2_writeToken_10 : decode cX2_writeToken 10 = .ok (.imul, 1) := by decide +kernel
theorem dX2_writeToken_11 : decode cX2_writeToken 11 = .ok (.iload_n 1, 1) := by decide +kernel
theorem dX2_writeToken_12 : decode cX2_writeToken 12 = .ok (.iadd, 1) := by decide +kernel
theorem dX2_writeToken_13 : decode cX2_writeToken 13 = .ok (.iload_n 2, 1) := by decide +kernel
theorem dX2_writeToken_14 : decode cX2_writeToken 14 = .ok (.iastore, 1) := by decide +kernel
theorem dX2_writeToken_15 : decode cX2_writeToken 15 = .ok (.return_, 1) := by decide +kernel
theorem dX2_addPattern_0 : decode cX2_addPattern 0 = .ok (.aload_n 0, 1) := by decide +kernel
theorem dX2_addPattern_1 : decode cX2_addPattern 1 = .ok (.getfield 35, 3) := by decide +kernel
theorem dX2_addPattern_4 : decode cX2_addPattern 4 = .ok (.istore 4, 2) := by decide +kernel
theorem dX2_addPattern_6 : decode cX2_addPattern 6 = .ok (.aload_n 0, 1) := by decide +kernel
theorem dX2_addPattern_7 : decode cX2_addPattern 7 = .ok (.getfield 19, 3) := by decide +kernel
theorem dX2_addPattern_10 : decode cX2_addPattern 10 = .ok (.iload 4, 2) := by decide +kernel
theorem dX2_addPattern_12 : decode cX2_addPattern 12 = .ok (.iload_n 1, 1) := by decide +kernel
theorem dX2_addPattern_13 : decode cX2_addPattern 13 = .ok (.iastore, 1) := by decide +kernel
theorem dX2_addPattern_14 : decode cX2_addPattern 14 = .ok (.aload_n 0, 1) := by decide +kernel
theorem dX2_addPattern_15 : decode cX2_addPattern 15 = .ok (.getfield 22, 3) := by decide +kernel
theorem dX2_addPattern_18 : decode cX2_addPattern 18 = .ok (.iload 4, 2) := by decide +kernel
theorem dX2_addPattern_20 : decode cX2_addPattern 20 = .ok (.iload_n 2, 1) := by decide +kernel
theorem dX2_addPattern_21 : decode cX2_addPattern 21 = .ok (.iastore, 1) := by decide +kernel
theorem dX2_addPattern_22 : decode cX2_addPattern 22 = .ok (.aload_n 0, 1) := by decide +kernel
theorem dX2_addPattern_23 : decode cX2_addPattern 23 = .ok (.getfield 25, 3) := by decide +kernel
theorem dX2_addPattern_26 : decode cX2_addPattern 26 = .ok (.iload 4, 2) := by decide +kernel
theorem dX2_addPattern_28 : decode cX2_addPattern 28 = .ok (.iload_n 3, 1) := by decide +kernel
theorem dX2_addPattern_29 : decode cX2_addPattern 29 = .ok (.iastore, 1) := by decide +kernel
theorem dX2_addPattern_30 : decode cX2_addPattern 30 = .ok (.aload_n 0, 1) := by decide +kernel
theorem dX2_addPattern_31 : decode cX2_addPattern 31 = .ok (.getfield 28, 3) := by decide +kernel
theorem dX2_addPattern_34 : decode cX2_addPattern 34 = .ok (.iload 4, 2) := by decide +kernel
theorem dX2_addPattern_36 : decode cX2_addPattern 36 = .ok (.iconst 1, 1) := by decide +kernel
theorem dX2_addPattern_37 : decode cX2_addPattern 37 = .ok (.bastore, 1) := by decide +kernel
theorem dX2_addPattern_38 : decode cX2_addPattern 38 = .ok (.aload_n 0, 1) := by decide +kernel
theorem dX2_addPattern_39 : decode cX2_addPattern 39 = .ok (.dup, 1) := by decide +kernel
theorem dX2_addPattern_40 : decode cX2_addPattern 40 = .ok (.getfield 35, 3) := by decide +kernel
theorem dX2_addPattern_43 : decode cX2_addPattern 43 = .ok (.iconst 1, 1) := by decide +kernel
theorem dX2_addPattern_44 : decode cX2_addPattern 44 = .ok (.iadd, 1) := by decide +kernel
theorem dX2_addPattern_45 : decode cX2_addPattern 45 = .ok (.putfield 35, 3) := by decide +kernel
theorem dX2_addPattern_48 : decode cX2_addPattern 48 = .ok (.aload_n 0, 1) := by decide +kernel
theorem dX2_addPattern_49 : decode cX2_addPattern 49 = .ok (.dup, 1) := by decide +kernel
theorem dX2_addPattern_50 : decode cX2_addPattern 50 = .ok (.getfield 38, 3) := by decide +kernel
theorem dX2_addPattern_53 : decode cX2_addPattern 53 = .ok (.iconst 1, 1) := by decide +kernel
theorem dX2_addPattern_54 : decode cX2_addPattern 54 = .ok (.iadd, 1) := by decide +kernel
theorem dX2_addPattern_55 : decode cX2_addPattern 55 = .ok (.putfield 38, 3) := by decide +kernel
theorem dX2_addPattern_58 : decode cX2_addPattern 58 = .ok (.iload 4, 2) := by decide +kernel
theorem dX2_addPattern_60 : decode cX2_addPattern 60 = .ok (.ireturn, 1) := by decide +kernel
theorem dX2_dropPattern_0 : decode cX2_dropPattern 0 = .ok (.aload_n 0, 1) := by decide +kernel
theorem dX2_dropPattern_1 : decode cX2_dropPattern 1 = .ok (.getfield 28, 3) := by decide +kernel
theorem dX2_dropPattern_4 : decode cX2_dropPattern 4 = .ok (.iload_n 1, 1) := by decide +kernel
theorem dX2_dropPattern_5 : decode cX2_dropPattern 5 = .ok (.iconst 0, 1) := by decide +kernel
theorem dX2_dropPattern_6 : decode cX2_dropPattern 6 = .ok (.bastore, 1) := by decide +kernel
theorem dX2_dropPattern_7 : decode cX2_dropPattern 7 = .ok (.aload_n 0, 1) := by decide +kernel
theorem dX2_dropPattern_8 : decode cX2_dropPattern 8 = .ok (.dup, 1) := by decide +kernel
theorem dX2_dropPattern_9 : decode cX2_dropPattern 9 = .ok (.getfield 38, 3) := by decide +kernel
theorem dX2_dropPattern_12 : decode cX2_dropPattern 12 = .ok (.iconst 1, 1) := by decide +kernel
theorem dX2_dropPattern_13 : decode cX2_dropPattern 13 = .ok (.isub, 1) := by decide +kernel
theorem dX2_dropPattern_14 : decode cX2_dropPattern 14 = .ok (.putfield 38, 3) := by decide +kernel
theorem dX2_dropPattern_17 : decode cX2_dropPattern 17 = .ok (.aload_n 0, 1) := by decide +kernel
theorem dX2_dropPattern_18 : decode cX2_dropPattern 18 = .ok (.getfield 38, 3) := by decide +kernel
theorem dX2_dropPattern_21 : decode cX2_dropPattern 21 = .ok (.ireturn, 1) := by decide +kernel
set_option maxRecDepth 20000 in
theorem ggX2_kindOf_X2_hasPattern : GoodIn wsX2_kindOf wsX2_hasPattern := goodIn_r _ [6, 7, 8, 9, 10, 11, 12, 13, 14, 15, 16, 17, 18] (by decide +kernel) (by decide +kernel)
set_option maxRecDepth 20000 in
theorem gX2_kindOf_X2_hasPattern : GoodIn wsX2_kindOf (wsV RX2 44 RX2 yX2_hasPattern wsX2_hasPattern) := goodIn_app (goodIn_of _ (by decide +kernel)) ggX2_kindOf_X2_hasPattern
theorem dX2_kindOf_0 : decode cX2_kindOf 0 = .ok (.aload_n 0, 1) := by decide +kernel
theorem dX2_kindOf_1 : decode cX2_kindOf 1 = .ok (.iload_n 1, 1) := by decide +kernel
theorem dX2_kindOf_2 : decode cX2_kindOf 2 = .ok (.invokevirtual 44, 3) := by decide +kernel
theorem dX2_kindOf_5 : decode cX2_kindOf 5 = .ok (.ifCond .eq 12, 3) := by decide +kernel
theorem dX2_kindOf_8 : decode cX2_kindOf 8 = .ok (.aload_n 0, 1) := by decide +kernel
theorem dX2_kindOf_9 : decode cX2_kindOf 9 = .ok (.getfield 19, 3) := by decide +kernel
theorem dX2_kindOf_12 : decode cX2_kindOf 12 = .ok (.iload_n 1, 1) := by decide +kernel
theorem dX2_kindOf_13 : decode cX2_kindOf 13 = .ok (.iaload, 1) := by decide +kernel
theorem dX2_kindOf_14 : decode cX2_kindOf 14 = .ok (.goto 4, 3) := by decide +kernel
theorem dX2_kindOf_17 : decode cX2_kindOf 17 = .ok (.iconst (-1), 1) := by decide +kernel
theorem dX2_kindOf_18 : decode cX2_kindOf 18 = .ok (.ireturn, 1) := by decide +kernel
set_option maxRecDepth 20000 in
theorem ggX2_firstFitting_X2_isAhead : GoodIn wsX2_firstFitting wsX2_isAhead := goodIn_r _ [7, 8, 9, 48, 49, 50, 51, 52, 53, 54, 55, 56, 57] (by decide +kernel) (by decide +kernel)
set_option maxRecDepth 20000 in
theorem gX2_firstFitting_X2_isAhead : GoodIn wsX2_firstFitting (wsV RX2 48 RX2 yX2_isAhead wsX2_isAhead) := goodIn_app (goodIn_of _ (by decide +kernel)) ggX2_firstFitting_X2_isAhead
set_option maxRecDepth 20000 in
theorem ggX2_firstFitting_X2_isOf : GoodIn wsX2_firstFitting wsX2_isOf := goodIn_r _ [13, 14, 15, 16, 17, 18, 19, 20, 21, 22, 23, 24, 25, 26, 27, 28, 29, 48, 49, 50, 51, 52, 53, 54, 55, 56, 57, 58, 59] (by decide +kernel) (by decide +kernel)
set_option maxRecDepth 20000 in
theorem gX2_firstFitting_X2_isOf : GoodIn wsX2_firstFitting (wsV RX2 52 RX2 yX2_isOf wsX2_isOf) := goodIn_app (goodIn_of _ (by decide +kernel)) ggX2_firstFitting_X2_isOf
set_option maxRecDepth 20000 in
theorem ggX2_firstFitting_X2_fitsName : GoodIn wsX2_firstFitting wsX2_fitsName := goodIn_r _ [33, 9, 34, 35, 36, 37, 38, 6, 39, 40, 41, 42, 43, 44, 45, 46, 47, 48, 49, 50, 51, 52, 53, 54, 55, 56, 57] (by decide +kernel) (by decide +kernel)
set_option maxRecDepth 20000 in
theorem gX2_firstFitting_X2_fitsName : GoodIn wsX2_firstFitting (wsV RX2 56 RX2 yX2_fitsName wsX2_fitsName) := goodIn_app (goodIn_of _ (by decide +kernel)) ggX2_firstFitting_X2_fitsName
theorem dX2_firstFitting_0 : decode cX2_firstFitting 0 = .ok (.iconst (-1), 1) := by decide +kernel
theorem dX2_firstFitting_1 : decode cX2_firstFitting 1 = .ok (.istore_n 3, 1) := by decide +kernel
theorem dX2_firstFitting_2 : decode cX2_firstFitting 2 = .ok (.iconst 0, 1) := by decide +kernel
theorem dX2_firstFitting_3 : decode cX2_firstFitting 3 = .ok (.istore 4, 2) := by decide +kernel
theorem dX2_firstFitting_5 : decode cX2_firstFitting 5 = .ok (.iload 4, 2) := by decide +kernel
theorem dX2_firstFitting_7 : decode cX2_firstFitting 7 = .ok (.aload_n 0, 1) := by decide +kernel
theorem dX2_firstFitting_8 : decode cX2_firstFitting 8 = .ok (.getfield 35, 3) := by decide +kernel
theorem dX2_firstFitting_11 : decode cX2_firstFitting 11 = .ok (.if_icmp .ge 69, 3) := by decide +kernel
theorem dX2_firstFitting_14 : decode cX2_firstFitting 14 = .ok (.aload_n 0, 1) := by decide +kernel
theorem dX2_firstFitting_15 : decode cX2_firstFitting 15 = .ok (.getfield 28, 3) := by decide +kernel
theorem dX2_firstFitting_18 : decode cX2_firstFitting 18 = .ok (.iload 4, 2) := by decide +kernel
theorem dX2_firstFitting_20 : decode cX2_firstFitting 20 = .ok (.baload, 1) := by decide +kernel
theorem dX2_firstFitting_21 : decode cX2_firstFitting 21 = .ok (.ifCond .eq 22, 3) := by decide +kernel
theorem dX2_firstFitting_24 : decode cX2_firstFitting 24 = .ok (.iload_n 3, 1) := by decide +kernel
theorem dX2_firstFitting_25 : decode cX2_firstFitting 25 = .ok (.iconst (-1), 1) := by decide +kernel
theorem dX2_firstFitting_26 : decode cX2_firstFitting 26 = .ok (.if_icmp .eq 13, 3) := by decide +kernel
theorem dX2_firstFitting_29 : decode cX2_firstFitting 29 = .ok (.aload_n 0, 1) := by decide +kernel
theorem dX2_firstFitting_30 : decode cX2_firstFitting 30 = .ok (.iload 4, 2) := by decide +kernel
theorem dX2_firstFitting_32 : decode cX2_firstFitting 32 = .ok (.iload_n 3, 1) := by decide +kernel
theorem dX2_firstFitting_33 : decode cX2_firstFitting 33 = .ok (.invokevirtual 48, 3) := by decide +kernel
theorem dX2_firstFitting_36 : decode cX2_firstFitting 36 = .ok (.ifCond .eq 7, 3) := by decide +kernel
theorem dX2_firstFitting_39 : decode cX2_firstFitting 39 = .ok (.iconst 1, 1) := by decide +kernel
theorem dX2_firstFitting_40 : decode cX2_firstFitting 40 = .ok (.goto 4, 3) := by decide +kernel
theorem dX2_firstFitting_43 : decode cX2_firstFitting 43 = .ok (.iconst 0, 1) := by decide +kernel
theorem dX2_firstFitting_44 : decode cX2_firstFitting 44 = .ok (.istore 5, 2) := by decide +kernel
theorem dX2_firstFitting_46 : decode cX2_firstFitting 46 = .ok (.iload 5, 2) := by decide +kernel
theorem dX2_firstFitting_48 : decode cX2_firstFitting 48 = .ok (.ifCond .eq 26, 3) := by decide +kernel
theorem dX2_firstFitting_51 : decode cX2_firstFitting 51 = .ok (.aload_n 0, 1) := by decide +kernel
theorem dX2_firstFitting_52 : decode cX2_firstFitting 52 = .ok (.aload_n 1, 1) := by decide +kernel
theorem dX2_firstFitting_53 : decode cX2_firstFitting 53 = .ok (.iload 4, 2) := by decide +kernel
theorem dX2_firstFitting_55 : decode cX2_firstFitting 55 = .ok (.iload_n 2, 1) := by decide +kernel
theorem dX2_firstFitting_56 : decode cX2_firstFitting 56 = .ok (.invokevirtual 52, 3) := by decide +kernel
theorem dX2_firstFitting_59 : decode cX2_firstFitting 59 = .ok (.ifCond .eq 15, 3) := by decide +kernel
theorem dX2_firstFitting_62 : decode cX2_firstFitting 62 = .ok (.aload_n 0, 1) := by decide +kernel
theorem dX2_firstFitting_63 : decode cX2_firstFitting 63 = .ok (.iload 4, 2) := by decide +kernel
theorem dX2_firstFitting_65 : decode cX2_firstFitting 65 = .ok (.invokevirtual 56, 3) := by decide +kernel
theorem dX2_firstFitting_68 : decode cX2_firstFitting 68 = .ok (.ifCond .eq 6, 3) := by decide +kernel
theorem dX2_firstFitting_71 : decode cX2_firstFitting 71 = .ok (.iload 4, 2) := by decide +kernel
theorem dX2_firstFitting_73 : decode cX2_firstFitting 73 = .ok (.istore_n 3, 1) := by decide +kernel
theorem dX2_firstFitting_74 : decode cX2_firstFitting 74 = .ok (.iinc 4 1, 3) := by decide +kernel
theorem dX2_firstFitting_77 : decode cX2_firstFitting 77 = .ok (.goto (-72), 3) := by decide +kernel
theorem dX2_firstFitting_80 : decode cX2_firstFitting 80 = .ok (.iload_n 3, 1) := by decide +kernel
theorem dX2_firstFitting_81 : decode cX2_firstFitting 81 = .ok (.ireturn, 1) := by decide +kernel
set_option maxRecDepth 20000 in
theorem ggX2_isOf_X1_leadsUp : GoodIn wsX2_isOf wsX1_leadsUp := goodIn_r _ [6, 7, 8, 9, 5, 10, 11, 12, 13, 14, 15, 16, 27, 28] (by decide +kernel) (by decide +kernel)
set_option maxRecDepth 20000 in
theorem gX2_isOf_X1_leadsUp : GoodIn wsX2_isOf (wsV RX2 59 RX1 yX1_leadsUp wsX1_leadsUp) := goodIn_app (goodIn_of _ (by decide +kernel)) ggX2_isOf_X1_leadsUp
theorem dX2_isOf_0 : decode cX2_isOf 0 = .ok (.iload_n 3, 1) := by decide +kernel
theorem dX2_isOf_1 : decode cX2_isOf 1 = .ok (.iconst (-1), 1) := by decide +kernel
theorem dX2_isOf_2 : decode cX2_isOf 2 = .ok (.if_icmp .eq 17, 3) := by decide +kernel
theorem dX2_isOf_5 : decode cX2_isOf 5 = .ok (.aload_n 1, 1) := by decide +kernel
theorem dX2_isOf_6 : decode cX2_isOf 6 = .ok (.aload_n 0, 1) := by decide +kernel
theorem dX2_isOf_7 : decode cX2_isOf 7 = .ok (.getfield 19, 3) := by decide +kernel
theorem dX2_isOf_10 : decode cX2_isOf 10 = .ok (.iload_n 2, 1) := by decide +kernel
theorem dX2_isOf_11 : decode cX2_isOf 11 = .ok (.iaload, 1) := by decide +kernel
theorem dX2_isOf_12 : decode cX2_isOf 12 = .ok (.iload_n 3, 1) := by decide +kernel
theorem dX2_isOf_13 : decode cX2_isOf 13 = .ok (.invokevirtual 59, 3) := by decide +kernel
theorem dX2_isOf_16 : decode cX2_isOf 16 = .ok (.ifCond .eq 7, 3) := by decide +kernel
theorem dX2_isOf_19 : decode cX2_isOf 19 = .ok (.iconst 1, 1) := by decide +kernel
theorem dX2_isOf_20 : decode cX2_isOf 20 = .ok (.goto 4, 3) := by decide +kernel
theorem dX2_isOf_23 : decode cX2_isOf 23 = .ok (.iconst 0, 1) := by decide +kernel
theorem dX2_isOf_24 : decode cX2_isOf 24 = .ok (.ireturn, 1) := by decide +kernel
theorem dX2_isAhead_0 : decode cX2_isAhead 0 = .ok (.aload_n 0, 1) := by decide +kernel
theorem dX2_isAhead_1 : decode cX2_isAhead 1 = .ok (.getfield 22, 3) := by decide +kernel
theorem dX2_isAhead_4 : decode cX2_isAhead 4 = .ok (.iload_n 1, 1) := by decide +kernel
theorem dX2_isAhead_5 : decode cX2_isAhead 5 = .ok (.iaload, 1) := by decide +kernel
theorem dX2_isAhead_6 : decode cX2_isAhead 6 = .ok (.aload_n 0, 1) := by decide +kernel
theorem dX2_isAhead_7 : decode cX2_isAhead 7 = .ok (.getfield 22, 3) := by decide +kernel
theorem dX2_isAhead_10 : decode cX2_isAhead 10 = .ok (.iload_n 2, 1) := by decide +kernel
theorem dX2_isAhead_11 : decode cX2_isAhead 11 = .ok (.iaload, 1) := by decide +kernel
theorem dX2_isAhead_12 : decode cX2_isAhead 12 = .ok (.if_icmp .eq 24, 3) := by decide +kernel
theorem dX2_isAhead_15 : decode cX2_isAhead 15 = .ok (.aload_n 0, 1) := by decide +kernel
theorem dX2_isAhead_16 : decode cX2_isAhead 16 = .ok (.getfield 22, 3) := by decide +kernel
theorem dX2_isAhead_19 : decode cX2_isAhead 19 = .ok (.iload_n 1, 1) := by decide +kernel
theorem dX2_isAhead_20 : decode cX2_isAhead 20 = .ok (.iaload, 1) := by decide +kernel
theorem dX2_isAhead_21 : decode cX2_isAhead 21 = .ok (.aload_n 0, 1) := by decide +kernel
theorem dX2_isAhead_22 : decode cX2_isAhead 22 = .ok (.getfield 22, 3) := by decide +kernel
theorem dX2_isAhead_25 : decode cX2_isAhead 25 = .ok (.iload_n 2, 1) := by decide +kernel
theorem dX2_isAhead_26 : decode cX2_isAhead 26 = .ok (.iaload, 1) := by decide +kernel
theorem dX2_isAhead_27 : decode cX2_isAhead 27 = .ok (.if_icmp .le 7, 3) := by decide +kernel
theorem dX2_isAhead_30 : decode cX2_isAhead 30 = .ok (.iconst 1, 1) := by decide +kernel
theorem dX2_isAhead_31 : decode cX2_isAhead 31 = .ok (.goto 4, 3) := by decide +kernel
theorem dX2_isAhead_34 : decode cX2_isAhead 34 = .ok (.iconst 0, 1) := by decide +kernel
theorem dX2_isAhead_35 : decode cX2_isAhead 35 = .ok (.ireturn, 1) := by decide +kernel
theorem dX2_isAhead_36 : decode cX2_isAhead 36 = .ok (.aload_n 0, 1) := by decide +kernel
theorem dX2_isAhead_37 : decode cX2_isAhead 37 = .ok (.getfield 25, 3) := by decide +kernel
theorem dX2_isAhead_40 : decode cX2_isAhead 40 = .ok (.iload_n 1, 1) := by decide +kernel
theorem dX2_isAhead_41 : decode cX2_isAhead 41 = .ok (.iaload, 1) := by decide +kernel
theorem dX2_isAhead_42 : decode cX2_isAhead 42 = .ok (.aload_n 0, 1) := by decide +kernel
theorem dX2_isAhead_43 : decode cX2_isAhead 43 = .ok (.getfield 25, 3) := by decide +kernel
theorem dX2_isAhead_46 : decode cX2_isAhead 46 = .ok (.iload_n 2, 1) := by decide +kernel
theorem dX2_isAhead_47 : decode cX2_isAhead 47 = .ok (.iaload, 1) := by decide +kernel
theorem dX2_isAhead_48 : decode cX2_isAhead 48 = .ok (.if_icmp .le 7, 3) := by decide +kernel
theorem dX2_isAhead_51 : decode cX2_isAhead 51 = .ok (.iconst 1, 1) := by decide +kernel
theorem dX2_isAhead_52 : decode cX2_isAhead 52 = .ok (.goto 4, 3) := by decide +kernel
theorem dX2_isAhead_55 : decode cX2_isAhead 55 = .ok (.iconst 0, 1) := by decide +kernel
theorem dX2_isAhead_56 : decode cX2_isAhead 56 = .ok (.ireturn, 1) := by decide +kernel
set_option maxRecDepth 20000 in
theorem ggX2_fitsName_X2_reachedAfter : GoodIn wsX2_fitsName wsX2_reachedAfter := goodIn_r _ [8, 3, 9, 10, 7, 11, 12, 13, 14, 15, 16, 17, 18, 19, 20, 21, 22, 23, 24, 25, 26] (by decide +kernel) (by decide +kernel)
set_option maxRecDepth 20000 in
theorem gX2_fitsName_X2_reachedAfter : GoodIn wsX2_fitsName (wsV RX2 64 RX2 yX2_reachedAfter wsX2_reachedAfter) := goodIn_app (goodIn_of _ (by decide +kernel)) ggX2_fitsName_X2_reachedAfter
set_option maxRecDepth 20000 in
theorem ggX2_fitsName_X2_isReached : GoodIn wsX2_fitsName wsX2_isReached := goodIn_r _ [11] (by decide +kernel) (by decide +kernel)
set_option maxRecDepth 20000 in
theorem gX2_fitsName_X2_isReached : GoodIn wsX2_fitsName (va_wsS RX2 68 yX2_isReached wsX2_isReached) := goodIn_app (goodIn_of _ (by decide +kernel)) ggX2_fitsName_X2_isReached
theorem dX2_fitsName_0 : decode cX2_fitsName 0 = .ok (.iload_n 1, 1) := by decide +kernel
theorem dX2_fitsName_1 : decode cX2_fitsName 1 = .ok (.bipush 8, 2) := by decide +kernel
theorem dX2_fitsName_3 : decode cX2_fitsName 3 = .ok (.imul, 1) := by decide +kernel
theorem dX2_fitsName_4 : decode cX2_fitsName 4 = .ok (.istore_n 2, 1) := by decide +kernel
theorem dX2_fitsName_5 : decode cX2_fitsName 5 = .ok (.iconst 1, 1) := by decide +kernel
theorem dX2_fitsName_6 : decode cX2_fitsName 6 = .ok (.istore_n 3, 1) := by decide +kernel
theorem dX2_fitsName_7 : decode cX2_fitsName 7 = .ok (.iconst 0, 1) := by decide +kernel
theorem dX2_fitsName_8 : decode cX2_fitsName 8 = .ok (.istore 4, 2) := by decide +kernel
theorem dX2_fitsName_10 : decode cX2_fitsName 10 = .ok (.iload 4, 2) := by decide +kernel
theorem dX2_fitsName_12 : decode cX2_fitsName 12 = .ok (.aload_n 0, 1) := by decide +kernel
theorem dX2_fitsName_13 : decode cX2_fitsName 13 = .ok (.getfield 25, 3) := by decide +kernel
theorem dX2_fitsName_16 : decode cX2_fitsName 16 = .ok (.iload_n 1, 1) := by decide +kernel
theorem dX2_fitsName_17 : decode cX2_fitsName 17 = .ok (.iaload, 1) := by decide +kernel
theorem dX2_fitsName_18 : decode cX2_fitsName 18 = .ok (.if_icmp .ge 24, 3) := by decide +kernel
theorem dX2_fitsName_21 : decode cX2_fitsName 21 = .ok (.aload_n 0, 1) := by decide +kernel
theorem dX2_fitsName_22 : decode cX2_fitsName 22 = .ok (.aload_n 0, 1) := by decide +kernel
theorem dX2_fitsName_23 : decode cX2_fitsName 23 = .ok (.getfield 32, 3) := by decide +kernel
theorem dX2_fitsName_26 : decode cX2_fitsName 26 = .ok (.iload_n 2, 1) := by decide +kernel
theorem dX2_fitsName_27 : decode cX2_fitsName 27 = .ok (.iload 4, 2) := by decide +kernel
theorem dX2_fitsName_29 : decode cX2_fitsName 29 = .ok (.iadd, 1) := by decide +kernel
theorem dX2_fitsName_30 : decode cX2_fitsName 30 = .ok (.iaload, 1) := by decide +kernel
theorem dX2_fitsName_31 : decode cX2_fitsName 31 = .ok (.iload_n 3, 1) := by decide +kernel
theorem dX2_fitsName_32 : decode cX2_fitsName 32 = .ok (.invokevirtual 64, 3) := by decide +kernel
theorem dX2_fitsName_35 : decode cX2_fitsName 35 = .ok (.istore_n 3, 1) := by decide +kernel
theorem dX2_fitsName_36 : decode cX2_fitsName 36 = .ok (.iinc 4 1, 3) := by decide +kernel
theorem dX2_fitsName_39 : decode cX2_fitsName 39 = .ok (.goto (-29), 3) := by decide +kernel
theorem dX2_fitsName_42 : decode cX2_fitsName 42 = .ok (.iload_n 3, 1) := by decide +kernel
theorem dX2_fitsName_43 : decode cX2_fitsName 43 = .ok (.aload_n 0, 1) := by decide +kernel
theorem dX2_fitsName_44 : decode cX2_fitsName 44 = .ok (.getfield 15, 3) := by decide +kernel
theorem dX2_fitsName_47 : decode cX2_fitsName 47 = .ok (.invokestatic 68, 3) := by decide +kernel
theorem dX2_fitsName_50 : decode cX2_fitsName 50 = .ok (.ireturn, 1) := by decide +kernel
set_option maxRecDepth 20000 in
theorem ggX2_reachedAfter_X2_isReached : GoodIn wsX2_reachedAfter wsX2_isReached := goodIn_r _ [5] (by decide +kernel) (by decide +kernel)
set_option maxRecDepth 20000 in
theorem gX2_reachedAfter_X2_isReached : GoodIn wsX2_reachedAfter (va_wsS RX2 68 yX2_isReached wsX2_isReached) := goodIn_app (goodIn_of _ (by decide +kernel)) ggX2_reachedAfter_X2_isReached
set_option maxRecDepth 20000 in
theorem ggX2_reachedAfter_X2_standsFor : GoodIn wsX2_reachedAfter wsX2_standsFor := goodIn_r _ [9, 10, 11, 12, 13, 14, 15, 16, 17, 18, 19, 20] (by decide +kernel) (by decide +kernel)
set_option maxRecDepth 20000 in
theorem gX2_reachedAfter_X2_standsFor : GoodIn wsX2_reachedAfter (wsV RX2 71 RX2 yX2_standsFor wsX2_standsFor) := goodIn_app (goodIn_of _ (by decide +kernel)) ggX2_reachedAfter_X2_standsFor
theorem dX2_reachedAfter_0 : decode cX2_reachedAfter 0 = .ok (.iload_n 1, 1) := by decide +kernel
theorem dX2_reachedAfter_1 : decode cX2_reachedAfter 1 = .ok (.bipush 10, 2) := by decide +kernel
theorem dX2_reachedAfter_3 : decode cX2_reachedAfter 3 = .ok (.if_icmp .ne 7, 3) := by decide +kernel
theorem dX2_reachedAfter_6 : decode cX2_reachedAfter 6 = .ok (.iload_n 2, 1) := by decide +kernel
theorem dX2_reachedAfter_7 : decode cX2_reachedAfter 7 = .ok (.goto 4, 3) := by decide +kernel
theorem dX2_reachedAfter_10 : decode cX2_reachedAfter 10 = .ok (.iconst 0, 1) := by decide +kernel
theorem dX2_reachedAfter_11 : decode cX2_reachedAfter 11 = .ok (.istore_n 3, 1) := by decide +kernel
theorem dX2_reachedAfter_12 : decode cX2_reachedAfter 12 = .ok (.iconst 0, 1) := by decide +kernel
theorem dX2_reachedAfter_13 : decode cX2_reachedAfter 13 = .ok (.istore 4, 2) := by decide +kernel
theorem dX2_reachedAfter_15 : decode cX2_reachedAfter 15 = .ok (.iload 4, 2) := by decide +kernel
theorem dX2_reachedAfter_17 : decode cX2_reachedAfter 17 = .ok (.aload_n 0, 1) := by decide +kernel
theorem dX2_reachedAfter_18 : decode cX2_reachedAfter 18 = .ok (.getfield 15, 3) := by decide +kernel
theorem dX2_reachedAfter_21 : decode cX2_reachedAfter 21 = .ok (.if_icmp .ge 64, 3) := by decide +kernel
theorem dX2_reachedAfter_24 : decode cX2_reachedAfter 24 = .ok (.iload_n 1, 1) := by decide +kernel
theorem dX2_reachedAfter_25 : decode cX2_reachedAfter 25 = .ok (.bipush 10, 2) := by decide +kernel
theorem dX2_reachedAfter_27 : decode cX2_reachedAfter 27 = .ok (.if_icmp .ne 12, 3) := by decide +kernel
theorem dX2_reachedAfter_30 : decode cX2_reachedAfter 30 = .ok (.iload_n 3, 1) := by decide +kernel
theorem dX2_reachedAfter_31 : decode cX2_reachedAfter 31 = .ok (.iload 4, 2) := by decide +kernel
theorem dX2_reachedAfter_33 : decode cX2_reachedAfter 33 = .ok (.invokestatic 68, 3) := by decide +kernel
theorem dX2_reachedAfter_36 : decode cX2_reachedAfter 36 = .ok (.goto 27, 3) := by decide +kernel
theorem dX2_reachedAfter_39 : decode cX2_reachedAfter 39 = .ok (.iload_n 2, 1) := by decide +kernel
theorem dX2_reachedAfter_40 : decode cX2_reachedAfter 40 = .ok (.iload 4, 2) := by decide +kernel
theorem dX2_reachedAfter_42 : decode cX2_reachedAfter 42 = .ok (.invokestatic 68, 3) := by decide +kernel
theorem dX2_reachedAfter_45 : decode cX2_reachedAfter 45 = .ok (.ifCond .eq 17, 3) := by decide +kernel
theorem dX2_reachedAfter_48 : decode cX2_reachedAfter 48 = .ok (.aload_n 0, 1) := by decide +kernel
theorem dX2_reachedAfter_49 : decode cX2_reachedAfter 49 = .ok (.iload_n 1, 1) := by decide +kernel
theorem dX2_reachedAfter_50 : decode cX2_reachedAfter 50 = .ok (.iload 4, 2) := by decide +kernel
theorem dX2_reachedAfter_52 : decode cX2_reachedAfter 52 = .ok (.invokevirtual 71, 3) := by decide +kernel
theorem dX2_reachedAfter_55 : decode cX2_reachedAfter 55 = .ok (.ifCond .eq 7, 3) := by decide +kernel
theorem dX2_reachedAfter_58 : decode cX2_reachedAfter 58 = .ok (.iconst 1, 1) := by decide +kernel
theorem dX2_reachedAfter_59 : decode cX2_reachedAfter 59 = .ok (.goto 4, 3) := by decide +kernel
theorem dX2_reachedAfter_62 : decode cX2_reachedAfter 62 = .ok (.iconst 0, 1) := by decide +kernel
theorem dX2_reachedAfter_63 : decode cX2_reachedAfter 63 = .ok (.istore 5, 2) := by decide +kernel
theorem dX2_reachedAfter_65 : decode cX2_reachedAfter 65 = .ok (.iload 5, 2) := by decide +kernel
theorem dX2_reachedAfter_67 : decode cX2_reachedAfter 67 = .ok (.ifCond .eq 12, 3) := by decide +kernel
theorem dX2_reachedAfter_70 : decode cX2_reachedAfter 70 = .ok (.iload_n 3, 1) := by decide +kernel
theorem dX2_reachedAfter_71 : decode cX2_reachedAfter 71 = .ok (.iconst 1, 1) := by decide +kernel
theorem dX2_reachedAfter_72 : decode cX2_reachedAfter 72 = .ok (.iload 4, 2) := by decide +kernel
theorem dX2_reachedAfter_74 : decode cX2_reachedAfter 74 = .ok (.iconst 1, 1) := by decide +kernel
theorem dX2_reachedAfter_75 : decode cX2_reachedAfter 75 = .ok (.iadd, 1) := by decide +kernel
theorem dX2_reachedAfter_76 : decode cX2_reachedAfter 76 = .ok (.ishl, 1) := by decide +kernel
theorem dX2_reachedAfter_77 : decode cX2_reachedAfter 77 = .ok (.ior, 1) := by decide +kernel
theorem dX2_reachedAfter_78 : decode cX2_reachedAfter 78 = .ok (.istore_n 3, 1) := by decide +kernel
theorem dX2_reachedAfter_79 : decode cX2_reachedAfter 79 = .ok (.iinc 4 1, 3) := by decide +kernel
theorem dX2_reachedAfter_82 : decode cX2_reachedAfter 82 = .ok (.goto (-67), 3) := by decide +kernel
theorem dX2_reachedAfter_85 : decode cX2_reachedAfter 85 = .ok (.iload_n 3, 1) := by decide +kernel
theorem dX2_reachedAfter_86 : decode cX2_reachedAfter 86 = .ok (.ireturn, 1) := by decide +kernel
theorem dX2_isReached_0 : decode cX2_isReached 0 = .ok (.iload_n 0, 1) := by decide +kernel
theorem dX2_isReached_1 : decode cX2_isReached 1 = .ok (.iload_n 1, 1) := by decide +kernel
theorem dX2_isReached_2 : decode cX2_isReached 2 = .ok (.ishr, 1) := by decide +kernel
theorem dX2_isReached_3 : decode cX2_isReached 3 = .ok (.iconst 1, 1) := by decide +kernel
theorem dX2_isReached_4 : decode cX2_isReached 4 = .ok (.iand, 1) := by decide +kernel
theorem dX2_isReached_5 : decode cX2_isReached 5 = .ok (.iconst 1, 1) := by decide +kernel
theorem dX2_isReached_6 : decode cX2_isReached 6 = .ok (.if_icmp .ne 7, 3) := by decide +kernel
theorem dX2_isReached_9 : decode cX2_isReached 9 = .ok (.iconst 1, 1) := by decide +kernel
theorem dX2_isReached_10 : decode cX2_isReached 10 = .ok (.goto 4, 3) := by decide +kernel
theorem dX2_isReached_13 : decode cX2_isReached 13 = .ok (.iconst 0, 1) := by decide +kernel
theorem dX2_isReached_14 : decode cX2_isReached 14 = .ok (.ireturn, 1) := by decide +kernel
theorem dX2_standsFor_0 : decode cX2_standsFor 0 = .ok (.iload_n 1, 1) := by decide +kernel
theorem dX2_standsFor_1 : decode cX2_standsFor 1 = .ok (.bipush 11, 2) := by decide +kernel
theorem dX2_standsFor_3 : decode cX2_standsFor 3 = .ok (.if_icmp .eq 13, 3) := by decide +kernel
theorem dX2_standsFor_6 : decode cX2_standsFor 6 = .ok (.iload_n 1, 1) := by decide +kernel
theorem dX2_standsFor_7 : decode cX2_standsFor 7 = .ok (.aload_n 0, 1) := by decide +kernel
theorem dX2_standsFor_8 : decode cX2_standsFor 8 = .ok (.getfield 9, 3) := by decide +kernel
theorem dX2_standsFor_11 : decode cX2_standsFor 11 = .ok (.iload_n 2, 1) := by decide +kernel
theorem dX2_standsFor_12 : decode cX2_standsFor 12 = .ok (.iaload, 1) := by decide +kernel
theorem dX2_standsFor_13 : decode cX2_standsFor 13 = .ok (.if_icmp .ne 7, 3) := by decide +kernel
theorem dX2_standsFor_16 : decode cX2_standsFor 16 = .ok (.iconst 1, 1) := by decide +kernel
theorem dX2_standsFor_17 : decode cX2_standsFor 17 = .ok (.goto 4, 3) := by decide +kernel
theorem dX2_standsFor_20 : decode cX2_standsFor 20 = .ok (.iconst 0, 1) := by decide +kernel
theorem dX2_standsFor_21 : decode cX2_standsFor 21 = .ok (.ireturn, 1) := by decide +kernel
set_option maxRecDepth 20000 in
theorem ggX2_fitsNameByTable_X2_fillLine : GoodIn wsX2_fitsNameByTable wsX2_fillLine := goodIn_r _ [9, 2, 4, 10, 11, 12, 8, 13, 14, 15, 16, 17, 18, 19, 20, 21, 22, 23, 24] (by decide +kernel) (by decide +kernel)
set_option maxRecDepth 20000 in
theorem gX2_fitsNameByTable_X2_fillLine : GoodIn wsX2_fitsNameByTable (wsV RX2 74 RX2 yX2_fillLine wsX2_fillLine) := goodIn_app (goodIn_of _ (by decide +kernel)) ggX2_fitsNameByTable_X2_fillLine
theorem dX2_fitsNameByTable_0 : decode cX2_fitsNameByTable 0 = .ok (.aload_n 0, 1) := by decide +kernel
theorem dX2_fitsNameByTable_1 : decode cX2_fitsNameByTable 1 = .ok (.getfield 25, 3) := by decide +kernel
theorem dX2_fitsNameByTable_4 : decode cX2_fitsNameByTable 4 = .ok (.iload_n 1, 1) := by decide +kernel
theorem dX2_fitsNameByTable_5 : decode cX2_fitsNameByTable 5 = .ok (.iaload, 1) := by decide +kernel
theorem dX2_fitsNameByTable_6 : decode cX2_fitsNameByTable 6 = .ok (.istore_n 2, 1) := by decide +kernel
theorem dX2_fitsNameByTable_7 : decode cX2_fitsNameByTable 7 = .ok (.aload_n 0, 1) := by decide +kernel
theorem dX2_fitsNameByTable_8 : decode cX2_fitsNameByTable 8 = .ok (.getfield 41, 3) := by decide +kernel
theorem dX2_fitsNameByTable_11 : decode cX2_fitsNameByTable 11 = .ok (.iconst 0, 1) := by decide +kernel
theorem dX2_fitsNameByTable_12 : decode cX2_fitsNameByTable 12 = .ok (.iconst 1, 1) := by decide +kernel
theorem dX2_fitsNameByTable_13 : decode cX2_fitsNameByTable 13 = .ok (.bastore, 1) := by decide +kernel
theorem dX2_fitsNameByTable_14 : decode cX2_fitsNameByTable 14 = .ok (.iconst 1, 1) := by decide +kernel
theorem dX2_fitsNameByTable_15 : decode cX2_fitsNameByTable 15 = .ok (.istore_n 3, 1) := by decide +kernel
theorem dX2_fitsNameByTable_16 : decode cX2_fitsNameByTable 16 = .ok (.iload_n 3, 1) := by decide +kernel
theorem dX2_fitsNameByTable_17 : decode cX2_fitsNameByTable 17 = .ok (.iload_n 2, 1) := by decide +kernel
theorem dX2_fitsNameByTable_18 : decode cX2_fitsNameByTable 18 = .ok (.if_icmp .gt 27, 3) := by decide +kernel
theorem dX2_fitsNameByTable_21 : decode cX2_fitsNameByTable 21 = .ok (.aload_n 0, 1) := by decide +kernel
theorem dX2_fitsNameByTable_22 : decode cX2_fitsNameByTable 22 = .ok (.iload_n 3, 1) := by decide +kernel
theorem dX2_fitsNameByTable_23 : decode cX2_fitsNameByTable 23 = .ok (.aload_n 0, 1) := by decide +kernel
theorem dX2_fitsNameByTable_24 : decode cX2_fitsNameByTable 24 = .ok (.getfield 32, 3) := by decide +kernel
theorem dX2_fitsNameByTable_27 : decode cX2_fitsNameByTable 27 = .ok (.iload_n 1, 1) := by decide +kernel
theorem dX2_fitsNameByTable_28 : decode cX2_fitsNameByTable 28 = .ok (.bipush 8, 2) := by decide +kernel
theorem dX2_fitsNameByTable_30 : decode cX2_fitsNameByTable 30 = .ok (.imul, 1) := by decide +kernel
theorem dX2_fitsNameByTable_31 : decode cX2_fitsNameByTable 31 = .ok (.iload_n 3, 1) := by decide +kernel
theorem dX2_fitsNameByTable_32 : decode cX2_fitsNameByTable 32 = .ok (.iadd, 1) := by decide +kernel
theorem dX2_fitsNameByTable_33 : decode cX2_fitsNameByTable 33 = .ok (.iconst 1, 1) := by decide +kernel
theorem dX2_fitsNameByTable_34 : decode cX2_fitsNameByTable 34 = .ok (.isub, 1) := by decide +kernel
theorem dX2_fitsNameByTable_35 : decode cX2_fitsNameByTable 35 = .ok (.iaload, 1) := by decide +kernel
theorem dX2_fitsNameByTable_36 : decode cX2_fitsNameByTable 36 = .ok (.invokevirtual 74, 3) := by decide +kernel
theorem dX2_fitsNameByTable_39 : decode cX2_fitsNameByTable 39 = .ok (.iinc 3 1, 3) := by decide +kernel
theorem dX2_fitsNameByTable_42 : decode cX2_fitsNameByTable 42 = .ok (.goto (-26), 3) := by decide +kernel
theorem dX2_fitsNameByTable_45 : decode cX2_fitsNameByTable 45 = .ok (.aload_n 0, 1) := by decide +kernel
theorem dX2_fitsNameByTable_46 : decode cX2_fitsNameByTable 46 = .ok (.getfield 41, 3) := by decide +kernel
theorem dX2_fitsNameByTable_49 : decode cX2_fitsNameByTable 49 = .ok (.iload_n 2, 1) := by decide +kernel
theorem dX2_fitsNameByTable_50 : decode cX2_fitsNameByTable 50 = .ok (.bipush 13, 2) := by decide +kernel
theorem dX2_fitsNameByTable_52 : decode cX2_fitsNameByTable 52 = .ok (.imul, 1) := by decide +kernel
theorem dX2_fitsNameByTable_53 : decode cX2_fitsNameByTable 53 = .ok (.aload_n 0, 1) := by decide +kernel
theorem dX2_fitsNameByTable_54 : decode cX2_fitsNameByTable 54 = .ok (.getfield 15, 3) := by decide +kernel
theorem dX2_fitsNameByTable_57 : decode cX2_fitsNameByTable 57 = .ok (.iadd, 1) := by decide +kernel
theorem dX2_fitsNameByTable_58 : decode cX2_fitsNameByTable 58 = .ok (.baload, 1) := by decide +kernel
theorem dX2_fitsNameByTable_59 : decode cX2_fitsNameByTable 59 = .ok (.ireturn, 1) := by decide +kernel
set_option maxRecDepth 20000 in
theorem ggX2_fillLine_X2_standsFor : GoodIn wsX2_fillLine wsX2_standsFor := goodIn_r _ [7, 8, 9, 10, 11, 12, 13, 14, 15, 16, 17, 18] (by decide +kernel) (by decide +kernel)
set_option maxRecDepth 20000 in
theorem gX2_fillLine_X2_standsFor : GoodIn wsX2_fillLine (wsV RX2 71 RX2 yX2_standsFor wsX2_standsFor) := goodIn_app (goodIn_of _ (by decide +kernel)) ggX2_fillLine_X2_standsFor
theorem dX2_fillLine_0 : decode cX2_fillLine 0 = .ok (.iload_n 1, 1) := by decide +kernel
theorem dX2_fillLine_1 : decode cX2_fillLine 1 = .ok (.bipush 13, 2) := by decide +kernel
theorem dX2_fillLine_3 : decode cX2_fillLine 3 = .ok (.imul, 1) := by decide +kernel
theorem dX2_fillLine_4 : decode cX2_fillLine 4 = .ok (.istore_n 3, 1) := by decide +kernel
theorem dX2_fillLine_5 : decode cX2_fillLine 5 = .ok (.iload_n 3, 1) := by decide +kernel
theorem dX2_fillLine_6 : decode cX2_fillLine 6 = .ok (.bipush 13, 2) := by decide +kernel
theorem dX2_fillLine_8 : decode cX2_fillLine 8 = .ok (.isub, 1) := by decide +kernel
theorem dX2_fillLine_9 : decode cX2_fillLine 9 = .ok (.istore 4, 2) := by decide +kernel
theorem dX2_fillLine_11 : decode cX2_fillLine 11 = .ok (.aload_n 0, 1) := by decide +kernel
theorem dX2_fillLine_12 : decode cX2_fillLine 12 = .ok (.getfield 41, 3) := by decide +kernel
theorem dX2_fillLine_15 : decode cX2_fillLine 15 = .ok (.iload_n 3, 1) := by decide +kernel
theorem dX2_fillLine_16 : decode cX2_fillLine 16 = .ok (.iload_n 2, 1) := by decide +kernel
theorem dX2_fillLine_17 : decode cX2_fillLine 17 = .ok (.bipush 10, 2) := by decide +kernel
theorem dX2_fillLine_19 : decode cX2_fillLine 19 = .ok (.if_icmp .ne 17, 3) := by decide +kernel
theorem dX2_fillLine_22 : decode cX2_fillLine 22 = .ok (.aload_n 0, 1) := by decide +kernel
theorem dX2_fillLine_23 : decode cX2_fillLine 23 = .ok (.getfield 41, 3) := by decide +kernel
theorem dX2_fillLine_26 : decode cX2_fillLine 26 = .ok (.iload 4, 2) := by decide +kernel
theorem dX2_fillLine_28 : decode cX2_fillLine 28 = .ok (.baload, 1) := by decide +kernel
theorem dX2_fillLine_29 : decode cX2_fillLine 29 = .ok (.ifCond .eq 7, 3) := by decide +kernel
theorem dX2_fillLine_32 : decode cX2_fillLine 32 = .ok (.iconst 1, 1) := by decide +kernel
theorem dX2_fillLine_33 : decode cX2_fillLine 33 = .ok (.goto 4, 3) := by decide +kernel
theorem dX2_fillLine_36 : decode cX2_fillLine 36 = .ok (.iconst 0, 1) := by decide +kernel
theorem dX2_fillLine_37 : decode cX2_fillLine 37 = .ok (.bastore, 1) := by decide +kernel
theorem dX2_fillLine_38 : decode cX2_fillLine 38 = .ok (.iconst 1, 1) := by decide +kernel
theorem dX2_fillLine_39 : decode cX2_fillLine 39 = .ok (.istore 5, 2) := by decide +kernel
theorem dX2_fillLine_41 : decode cX2_fillLine 41 = .ok (.iload 5, 2) := by decide +kernel
theorem dX2_fillLine_43 : decode cX2_fillLine 43 = .ok (.aload_n 0, 1) := by decide +kernel
theorem dX2_fillLine_44 : decode cX2_fillLine 44 = .ok (.getfield 15, 3) := by decide +kernel
theorem dX2_fillLine_47 : decode cX2_fillLine 47 = .ok (.if_icmp .gt 91, 3) := by decide +kernel
theorem dX2_fillLine_50 : decode cX2_fillLine 50 = .ok (.aload_n 0, 1) := by decide +kernel
theorem dX2_fillLine_51 : decode cX2_fillLine 51 = .ok (.getfield 41, 3) := by decide +kernel
theorem dX2_fillLine_54 : decode cX2_fillLine 54 = .ok (.iload_n 3, 1) := by decide +kernel
theorem dX2_fillLine_55 : decode cX2_fillLine 55 = .ok (.iload 5, 2) := by decide +kernel
theorem dX2_fillLine_57 : decode cX2_fillLine 57 = .ok (.iadd, 1) := by decide +kernel
theorem dX2_fillLine_58 : decode cX2_fillLine 58 = .ok (.iload_n 2, 1) := by decide +kernel
theorem dX2_fillLine_59 : decode cX2_fillLine 59 = .ok (.bipush 10, 2) := by decide +kernel
theorem dX2_fillLine_61 : decode cX2_fillLine 61 = .ok (.if_icmp .ne 38, 3) := by decide +kernel
theorem dX2_fillLine_64 : decode cX2_fillLine 64 = .ok (.aload_n 0, 1) := by decide +kernel
theorem dX2_fillLine_65 : decode cX2_fillLine 65 = .ok (.getfield 41, 3) := by decide +kernel
theorem dX2_fillLine_68 : decode cX2_fillLine 68 = .ok (.iload 4, 2) := by decide +kernel
theorem dX2_fillLine_70 : decode cX2_fillLine 70 = .ok (.iload 5, 2) := by decide +kernel
theorem dX2_fillLine_72 : decode cX2_fillLine 72 = .ok (.iadd, 1) := by decide +kernel
theorem dX2_fillLine_73 : decode cX2_fillLine 73 = .ok (.baload, 1) := by decide +kernel
theorem dX2_fillLine_74 : decode cX2_fillLine 74 = .ok (.ifCond .ne 17, 3) := by decide +kernel
theorem dX2_fillLine_77 : decode cX2_fillLine 77 = .ok (.aload_n 0, 1) := by decide +kernel
theorem dX2_fillLine_78 : decode cX2_fillLine 78 = .ok (.getfield 41, 3) := by decide +kernel
theorem dX2_fillLine_81 : decode cX2_fillLine 81 = .ok (.iload_n 3, 1) := by decide +kernel
theorem dX2_fillLine_82 : decode cX2_fillLine 82 = .ok (.iload 5, 2) := by decide +kernel
theorem dX2_fillLine_84 : decode cX2_fillLine 84 = .ok (.iadd, 1) := by decide +kernel
theorem dX2_fillLine_85 : decode cX2_fillLine 85 = .ok (.iconst 1, 1) := by decide +kernel
theorem dX2_fillLine_86 : decode cX2_fillLine 86 = .ok (.isub, 1) := by decide +kernel
theorem dX2_fillLine_87 : decode cX2_fillLine 87 = .ok (.baload, 1) := by decide +kernel
theorem dX2_fillLine_88 : decode cX2_fillLine 88 = .ok (.ifCond .eq 7, 3) := by decide +kernel
theorem dX2_fillLine_91 : decode cX2_fillLine 91 = .ok (.iconst 1, 1) := by decide +kernel
theorem dX2_fillLine_92 : decode cX2_fillLine 92 = .ok (.goto 39, 3) := by decide +kernel
theorem dX2_fillLine_95 : decode cX2_fillLine 95 = .ok (.iconst 0, 1) := by decide +kernel
theorem dX2_fillLine_96 : decode cX2_fillLine 96 = .ok (.goto 35, 3) := by decide +kernel
theorem dX2_fillLine_99 : decode cX2_fillLine 99 = .ok (.aload_n 0, 1) := by decide +kernel
theorem dX2_fillLine_100 : decode cX2_fillLine 100 = .ok (.getfield 41, 3) := by decide +kernel
theorem dX2_fillLine_103 : decode cX2_fillLine 103 = .ok (.iload 4, 2) := by decide +kernel
theorem dX2_fillLine_105 : decode cX2_fillLine 105 = .ok (.iload 5, 2) := by decide +kernel
theorem dX2_fillLine_107 : decode cX2_fillLine 107 = .ok (.iadd, 1) := by decide +kernel
theorem dX2_fillLine_108 : decode cX2_fillLine 108 = .ok (.iconst 1, 1) := by decide +kernel
theorem dX2_fillLine_109 : decode cX2_fillLine 109 = .ok (.isub, 1) := by decide +kernel
theorem dX2_fillLine_110 : decode cX2_fillLine 110 = .ok (.baload, 1) := by decide +kernel
theorem dX2_fillLine_111 : decode cX2_fillLine 111 = .ok (.ifCond .eq 19, 3) := by decide +kernel
theorem dX2_fillLine_114 : decode cX2_fillLine 114 = .ok (.aload_n 0, 1) := by decide +kernel
theorem dX2_fillLine_115 : decode cX2_fillLine 115 = .ok (.iload_n 2, 1) := by decide +kernel
theorem dX2_fillLine_116 : decode cX2_fillLine 116 = .ok (.iload 5, 2) := by decide +kernel
theorem dX2_fillLine_118 : decode cX2_fillLine 118 = .ok (.iconst 1, 1) := by decide +kernel
theorem dX2_fillLine_119 : decode cX2_fillLine 119 = .ok (.isub, 1) := by decide +kernel
theorem dX2_fillLine_120 : decode cX2_fillLine 120 = .ok (.invokevirtual 71, 3) := by decide +kernel
theorem dX2_fillLine_123 : decode cX2_fillLine 123 = .ok (.ifCond .eq 7, 3) := by decide +kernel
theorem dX2_fillLine_126 : decode cX2_fillLine 126 = .ok (.iconst 1, 1) := by decide +kernel
theorem dX2_fillLine_127 : decode cX2_fillLine 127 = .ok (.goto 4, 3) := by decide +kernel
theorem dX2_fillLine_130 : decode cX2_fillLine 130 = .ok (.iconst 0, 1) := by decide +kernel
theorem dX2_fillLine_131 : decode cX2_fillLine 131 = .ok (.bastore, 1) := by decide +kernel
theorem dX2_fillLine_132 : decode cX2_fillLine 132 = .ok (.iinc 5 1, 3) := by decide +kernel
theorem dX2_fillLine_135 : decode cX2_fillLine 135 = .ok (.goto (-94), 3) := by decide +kernel
theorem dX2_fillLine_138 : decode cX2_fillLine 138 = .ok (.return_, 1) := by decide +kernel
set_option maxRecDepth 20000 in
theorem ggX3_init_J7_fill_53178 : GoodIn wsX3_init wsJ7_fill_53178 := goodIn_r _ [10] (by decide +kernel) (by decide +kernel)
set_option maxRecDepth 20000 in
theorem gX3_init_J7_fill_53178 : GoodIn wsX3_init (va_wsS RX3 18 yJ7_fill_53178 wsJ7_fill_53178) := goodIn_app (goodIn_of _ (by decide +kernel)) ggX3_init_J7_fill_53178
theorem dX3_init_0 : decode cX3_init 0 = .ok (.aload_n 0, 1) := by decide +kernel
theorem dX3_init_1 : decode cX3_init 1 = .ok (.invokespecial 3, 3) := by decide +kernel
theorem dX3_init_4 : decode cX3_init 4 = .ok (.aload_n 0, 1) := by decide +kernel
theorem dX3_init_5 : decode cX3_init 5 = .ok (.sipush 420, 3) := by decide +kernel
theorem dX3_init_8 : decode cX3_init 8 = .ok (.newarray .int, 2) := by decide +kernel
theorem dX3_init_10 : decode cX3_init 10 = .ok (.putfield 9, 3) := by decide +kernel
theorem dX3_init_13 : decode cX3_init 13 = .ok (.aload_n 0, 1) := by decide +kernel
theorem dX3_init_14 : decode cX3_init 14 = .ok (.bipush 42, 2) := by decide +kernel
theorem dX3_init_16 : decode cX3_init 16 = .ok (.newarray .int, 2) := by decide +kernel
theorem dX3_init_18 : decode cX3_init 18 = .ok (.putfield 15, 3) := by decide +kernel
theorem dX3_init_21 : decode cX3_init 21 = .ok (.aload_n 0, 1) := by decide +kernel
theorem dX3_init_22 : decode cX3_init 22 = .ok (.getfield 15, 3) := by decide +kernel
theorem dX3_init_25 : decode cX3_init 25 = .ok (.iconst (-1), 1) := by decide +kernel
theorem dX3_init_26 : decode cX3_init 26 = .ok (.invokestatic 18, 3) := by decide +kernel
theorem dX3_init_29 : decode cX3_init 29 = .ok (.return_, 1) := by decide +kernel
set_option maxRecDepth 20000 in
theorem ggX3_setStanding_X3_placeOf : GoodIn wsX3_setStanding wsX3_placeOf := goodIn_r _ [5] (by decide +kernel) (by decide +kernel)
set_option maxRecDepth 20000 in
theorem gX3_setStanding_X3_placeOf : GoodIn wsX3_setStanding (va_wsS RX3 24 yX3_placeOf wsX3_placeOf) := goodIn_app (goodIn_of _ (by decide +kernel)) ggX3_setStanding_X3_placeOf
theorem dX3_setStanding_0 : decode cX3_setStanding 0 = .ok (.iload_n 1, 1) := by decide +kernel
theorem dX3_setStanding_1 : decode cX3_setStanding 1 = .ok (.iload_n 2, 1) := by decide +kernel
theorem dX3_setStanding_2 : decode cX3_setStanding 2 = .ok (.invokestatic 24, 3) := by decide +kernel
theorem dX3_setStanding_5 : decode cX3_setStanding 5 = .ok (.bipush 10, 2) := by decide +kernel
theorem dX3_setStanding_7 : decode cX3_setStanding 7 = .ok (.imul, 1) := by decide +kernel
theorem dX3_setStanding_8 : decode cX3_setStanding 8 = .ok (.iload_n 3, 1) := by decide +kernel
theorem dX3_setStanding_9 : decode cX3_setStanding 9 = .ok (.iadd, 1) := by decide +kernel
theorem dX3_setStanding_10 : decode cX3_setStanding 10 = .ok (.istore 5, 2) := by decide +kernel
theorem dX3_setStanding_12 : decode cX3_setStanding 12 = .ok (.aload_n 0, 1) := by decide +kernel
theorem dX3_setStanding_13 : decode cX3_setStanding 13 = .ok (.getfield 9, 3) := by decide +kernel
theorem dX3_setStanding_16 : decode cX3_setStanding 16 = .ok (.iload 5, 2) := by decide +kernel
theorem dX3_setStanding_18 : decode cX3_setStanding 18 = .ok (.iaload, 1) := by decide +kernel
theorem dX3_setStanding_19 : decode cX3_setStanding 19 = .ok (.istore 6, 2) := by decide +kernel
theorem dX3_setStanding_21 : decode cX3_setStanding 21 = .ok (.aload_n 0, 1) := by decide +kernel
theorem dX3_setStanding_22 : decode cX3_setStanding 22 = .ok (.getfield 9, 3) := by decide +kernel
theorem dX3_setStanding_25 : decode cX3_setStanding 25 = .ok (.iload 5, 2) := by decide +kernel
theorem dX3_setStanding_27 : decode cX3_setStanding 27 = .ok (.iload 4, 2) := by decide +kernel
theorem dX3_setStanding_29 : decode cX3_setStanding 29 = .ok (.iastore, 1) := by decide +kernel
theorem dX3_setStanding_30 : decode cX3_setStanding 30 = .ok (.iload 6, 2) := by decide +kernel
theorem dX3_setStanding_32 : decode cX3_setStanding 32 = .ok (.ireturn, 1) := by decide +kernel
set_option maxRecDepth 20000 in
theorem ggX3_setDefaultOf_X3_placeOf : GoodIn wsX3_setDefaultOf wsX3_placeOf := goodIn_r _ [5] (by decide +kernel) (by decide +kernel)
set_option maxRecDepth 20000 in
theorem gX3_setDefaultOf_X3_placeOf : GoodIn wsX3_setDefaultOf (va_wsS RX3 24 yX3_placeOf wsX3_placeOf) := goodIn_app (goodIn_of _ (by decide +kernel)) ggX3_setDefaultOf_X3_placeOf
end
section
theorem dX3_setDefaultOf_0 : decode cX3_setDefaultOf 0 = .ok (.iload_n 1, 1) := by decide +kernel
theorem dX3_setDefaultOf_1 : decode cX3_setDefaultOf 1 = .ok (.iload_n 2, 1) := by decide +kernel
theorem dX3_setDefaultOf_2 : decode cX3_setDefaultOf 2 = .ok (.invokestatic 24, 3) := by decide +kernel
theorem dX3_setDefaultOf_5 : decode cX3_setDefaultOf 5 = .ok (.istore 4, 2) := by decide +kernel
theorem dX3_setDefaultOf_7 : decode cX3_setDefaultOf 7 = .ok (.aload_n 0, 1) := by decide +kernel
theorem dX3_setDefaultOf_8 : decode cX3_setDefaultOf 8 = .ok (.getfield 15, 3) := by decide +kernel
theorem dX3_setDefaultOf_11 : decode cX3_setDefaultOf 11 = .ok (.iload 4, 2) := by decide +kernel
theorem dX3_setDefaultOf_13 : decode cX3_setDefaultOf 13 = .ok (.iaload, 1) := by decide +kernel
theorem dX3_setDefaultOf_14 : decode cX3_setDefaultOf 14 = .ok (.istore 5, 2) := by decide +kernel
theorem dX3_setDefaultOf_16 : decode cX3_setDefaultOf 16 = .ok (.aload_n 0, 1) := by decide +kernel
theorem dX3_setDefaultOf_17 : decode cX3_setDefaultOf 17 = .ok (.getfield 15, 3) := by decide +kernel
theorem dX3_setDefaultOf_20 : decode cX3_setDefaultOf 20 = .ok (.iload 4, 2) := by decide +kernel
theorem dX3_setDefaultOf_22 : decode cX3_setDefaultOf 22 = .ok (.iload_n 3, 1) := by decide +kernel
theorem dX3_setDefaultOf_23 : decode cX3_setDefaultOf 23 = .ok (.iastore, 1) := by decide +kernel
theorem dX3_setDefaultOf_24 : decode cX3_setDefaultOf 24 = .ok (.iload 5, 2) := by decide +kernel
theorem dX3_setDefaultOf_26 : decode cX3_setDefaultOf 26 = .ok (.ireturn, 1) := by decide +kernel
theorem dX3_placeOf_0 : decode cX3_placeOf 0 = .ok (.iload_n 0, 1) := by decide +kernel
theorem dX3_placeOf_1 : decode cX3_placeOf 1 = .ok (.bipush 14, 2) := by decide +kernel
theorem dX3_placeOf_3 : decode cX3_placeOf 3 = .ok (.imul, 1) := by decide +kernel
theorem dX3_placeOf_4 : decode cX3_placeOf 4 = .ok (.iload_n 1, 1) := by decide +kernel
theorem dX3_placeOf_5 : decode cX3_placeOf 5 = .ok (.iadd, 1) := by decide +kernel
theorem dX3_placeOf_6 : decode cX3_placeOf 6 = .ok (.ireturn, 1) := by decide +kernel
set_option maxRecDepth 20000 in
theorem ggX3_opens_X3_placeOf : GoodIn wsX3_opens wsX3_placeOf := goodIn_r _ [5] (by decide +kernel) (by decide +kernel)
set_option maxRecDepth 20000 in
theorem gX3_opens_X3_placeOf : GoodIn wsX3_opens (va_wsS RX3 24 yX3_placeOf wsX3_placeOf) := goodIn_app (goodIn_of _ (by decide +kernel)) ggX3_opens_X3_placeOf
theorem dX3_opens_0 : decode cX3_opens 0 = .ok (.iconst 0, 1) := by decide +kernel
theorem dX3_opens_1 : decode cX3_opens 1 = .ok (.istore_n 3, 1) := by decide +kernel
theorem dX3_opens_2 : decode cX3_opens 2 = .ok (.iload_n 3, 1) := by decide +kernel
theorem dX3_opens_3 : decode cX3_opens 3 = .ok (.iconst 3, 1) := by decide +kernel
theorem dX3_opens_4 : decode cX3_opens 4 = .ok (.if_icmp .ge 43, 3) := by decide +kernel
theorem dX3_opens_7 : decode cX3_opens 7 = .ok (.aload_n 0, 1) := by decide +kernel
theorem dX3_opens_8 : decode cX3_opens 8 = .ok (.getfield 9, 3) := by decide +kernel
theorem dX3_opens_11 : decode cX3_opens 11 = .ok (.iload_n 3, 1) := by decide +kernel
theorem dX3_opens_12 : decode cX3_opens 12 = .ok (.iload_n 2, 1) := by decide +kernel
theorem dX3_opens_13 : decode cX3_opens 13 = .ok (.invokestatic 24, 3) := by decide +kernel
theorem dX3_opens_16 : decode cX3_opens 16 = .ok (.bipush 10, 2) := by decide +kernel
theorem dX3_opens_18 : decode cX3_opens 18 = .ok (.imul, 1) := by decide +kernel
theorem dX3_opens_19 : decode cX3_opens 19 = .ok (.iload_n 1, 1) := by decide +kernel
theorem dX3_opens_20 : decode cX3_opens 20 = .ok (.iadd, 1) := by decide +kernel
theorem dX3_opens_21 : decode cX3_opens 21 = .ok (.iaload, 1) := by decide +kernel
theorem dX3_opens_22 : decode cX3_opens 22 = .ok (.istore 4, 2) := by decide +kernel
theorem dX3_opens_24 : decode cX3_opens 24 = .ok (.iload 4, 2) := by decide +kernel
theorem dX3_opens_26 : decode cX3_opens 26 = .ok (.ifCond .eq 15, 3) := by decide +kernel
theorem dX3_opens_29 : decode cX3_opens 29 = .ok (.iload 4, 2) := by decide +kernel
theorem dX3_opens_31 : decode cX3_opens 31 = .ok (.iconst 1, 1) := by decide +kernel
theorem dX3_opens_32 : decode cX3_opens 32 = .ok (.if_icmp .ne 7, 3) := by decide +kernel
theorem dX3_opens_35 : decode cX3_opens 35 = .ok (.iconst 1, 1) := by decide +kernel
theorem dX3_opens_36 : decode cX3_opens 36 = .ok (.goto 4, 3) := by decide +kernel
theorem dX3_opens_39 : decode cX3_opens 39 = .ok (.iconst 0, 1) := by decide +kernel
theorem dX3_opens_40 : decode cX3_opens 40 = .ok (.ireturn, 1) := by decide +kernel
theorem dX3_opens_41 : decode cX3_opens 41 = .ok (.iinc 3 1, 3) := by decide +kernel
theorem dX3_opens_44 : decode cX3_opens 44 = .ok (.goto (-42), 3) := by decide +kernel
theorem dX3_opens_47 : decode cX3_opens 47 = .ok (.iconst 0, 1) := by decide +kernel
theorem dX3_opens_48 : decode cX3_opens 48 = .ok (.ireturn, 1) := by decide +kernel
set_option maxRecDepth 20000 in
theorem ggX3_openersOf_X3_opens : GoodIn wsX3_openersOf wsX3_opens := goodIn_r _ [5, 6, 7, 8, 4, 9, 10, 11] (by decide +kernel) (by decide +kernel)
set_option maxRecDepth 20000 in
theorem gX3_openersOf_X3_opens : GoodIn wsX3_openersOf (wsV RX3 28 RX3 yX3_opens wsX3_opens) := goodIn_app (goodIn_of _ (by decide +kernel)) ggX3_openersOf_X3_opens
theorem dX3_openersOf_0 : decode cX3_openersOf 0 = .ok (.iconst 0, 1) := by decide +kernel
theorem dX3_openersOf_1 : decode cX3_openersOf 1 = .ok (.istore_n 2, 1) := by decide +kernel
theorem dX3_openersOf_2 : decode cX3_openersOf 2 = .ok (.iconst 0, 1) := by decide +kernel
theorem dX3_openersOf_3 : decode cX3_openersOf 3 = .ok (.istore_n 3, 1) := by decide +kernel
theorem dX3_openersOf_4 : decode cX3_openersOf 4 = .ok (.iload_n 3, 1) := by decide +kernel
theorem dX3_openersOf_5 : decode cX3_openersOf 5 = .ok (.bipush 10, 2) := by decide +kernel
theorem dX3_openersOf_7 : decode cX3_openersOf 7 = .ok (.if_icmp .ge 24, 3) := by decide +kernel
theorem dX3_openersOf_10 : decode cX3_openersOf 10 = .ok (.aload_n 0, 1) := by decide +kernel
theorem dX3_openersOf_11 : decode cX3_openersOf 11 = .ok (.iload_n 3, 1) := by decide +kernel
theorem dX3_openersOf_12 : decode cX3_openersOf 12 = .ok (.iload_n 1, 1) := by decide +kernel
theorem dX3_openersOf_13 : decode cX3_openersOf 13 = .ok (.invokevirtual 28, 3) := by decide +kernel
theorem dX3_openersOf_16 : decode cX3_openersOf 16 = .ok (.ifCond .eq 9, 3) := by decide +kernel
theorem dX3_openersOf_19 : decode cX3_openersOf 19 = .ok (.iload_n 2, 1) := by decide +kernel
theorem dX3_openersOf_20 : decode cX3_openersOf 20 = .ok (.iconst 1, 1) := by decide +kernel
theorem dX3_openersOf_21 : decode cX3_openersOf 21 = .ok (.iload_n 3, 1) := by decide +kernel
theorem dX3_openersOf_22 : decode cX3_openersOf 22 = .ok (.ishl, 1) := by decide +kernel
theorem dX3_openersOf_23 : decode cX3_openersOf 23 = .ok (.ior, 1) := by decide +kernel
theorem dX3_openersOf_24 : decode cX3_openersOf 24 = .ok (.istore_n 2, 1) := by decide +kernel
theorem dX3_openersOf_25 : decode cX3_openersOf 25 = .ok (.iinc 3 1, 3) := by decide +kernel
theorem dX3_openersOf_28 : decode cX3_openersOf 28 = .ok (.goto (-24), 3) := by decide +kernel
theorem dX3_openersOf_31 : decode cX3_openersOf 31 = .ok (.iload_n 2, 1) := by decide +kernel
theorem dX3_openersOf_32 : decode cX3_openersOf 32 = .ok (.ireturn, 1) := by decide +kernel
set_option maxRecDepth 20000 in
theorem ggX3_countPrograms_X3_openersOf : GoodIn wsX3_countPrograms wsX3_openersOf := goodIn_r _ [5, 6, 7, 8, 4, 9, 10, 11, 12, 13, 32, 33] (by decide +kernel) (by decide +kernel)
set_option maxRecDepth 20000 in
theorem gX3_countPrograms_X3_openersOf : GoodIn wsX3_countPrograms (wsV RX3 32 RX3 yX3_openersOf wsX3_openersOf) := goodIn_app (goodIn_of _ (by decide +kernel)) ggX3_countPrograms_X3_openersOf
set_option maxRecDepth 20000 in
theorem ggX3_countPrograms_X1_parentOf : GoodIn wsX3_countPrograms wsX1_parentOf := goodIn_r _ [18, 19, 20, 21, 22, 17, 23, 24, 34, 35] (by decide +kernel) (by decide +kernel)
set_option maxRecDepth 20000 in
theorem gX3_countPrograms_X1_parentOf : GoodIn wsX3_countPrograms (wsV RX3 36 RX1 yX1_parentOf wsX1_parentOf) := goodIn_app (goodIn_of _ (by decide +kernel)) ggX3_countPrograms_X1_parentOf
set_option maxRecDepth 20000 in
theorem ggX3_countPrograms_J6_bitCount_0f7a4 : GoodIn wsX3_countPrograms wsJ6_bitCount_0f7a4 := goodIn_r _ [28, 29, 30, 31] (by decide +kernel) (by decide +kernel)
set_option maxRecDepth 20000 in
theorem gX3_countPrograms_J6_bitCount_0f7a4 : GoodIn wsX3_countPrograms (va_wsS RX3 41 yJ6_bitCount_0f7a4 wsJ6_bitCount_0f7a4) := goodIn_app (goodIn_of _ (by decide +kernel)) ggX3_countPrograms_J6_bitCount_0f7a4
theorem dX3_countPrograms_0 : decode cX3_countPrograms 0 = .ok (.iconst 0, 1) := by decide +kernel
theorem dX3_countPrograms_1 : decode cX3_countPrograms 1 = .ok (.istore_n 3, 1) := by decide +kernel
theorem dX3_countPrograms_2 : decode cX3_countPrograms 2 = .ok (.iload_n 2, 1) := by decide +kernel
theorem dX3_countPrograms_3 : decode cX3_countPrograms 3 = .ok (.istore 4, 2) := by decide +kernel
theorem dX3_countPrograms_5 : decode cX3_countPrograms 5 = .ok (.iconst 0, 1) := by decide +kernel
theorem dX3_countPrograms_6 : decode cX3_countPrograms 6 = .ok (.istore 5, 2) := by decide +kernel
theorem dX3_countPrograms_8 : decode cX3_countPrograms 8 = .ok (.iload 5, 2) := by decide +kernel
theorem dX3_countPrograms_10 : decode cX3_countPrograms 10 = .ok (.bipush 14, 2) := by decide +kernel
theorem dX3_countPrograms_12 : decode cX3_countPrograms 12 = .ok (.if_icmp .ge 32, 3) := by decide +kernel
theorem dX3_countPrograms_15 : decode cX3_countPrograms 15 = .ok (.iload 4, 2) := by decide +kernel
theorem dX3_countPrograms_17 : decode cX3_countPrograms 17 = .ok (.iconst (-1), 1) := by decide +kernel
theorem dX3_countPrograms_18 : decode cX3_countPrograms 18 = .ok (.if_icmp .eq 26, 3) := by decide +kernel
theorem dX3_countPrograms_21 : decode cX3_countPrograms 21 = .ok (.iload_n 3, 1) := by decide +kernel
theorem dX3_countPrograms_22 : decode cX3_countPrograms 22 = .ok (.aload_n 0, 1) := by decide +kernel
theorem dX3_countPrograms_23 : decode cX3_countPrograms 23 = .ok (.iload 4, 2) := by decide +kernel
theorem dX3_countPrograms_25 : decode cX3_countPrograms 25 = .ok (.invokevirtual 32, 3) := by decide +kernel
theorem dX3_countPrograms_28 : decode cX3_countPrograms 28 = .ok (.ior, 1) := by decide +kernel
theorem dX3_countPrograms_29 : decode cX3_countPrograms 29 = .ok (.istore_n 3, 1) := by decide +kernel
theorem dX3_countPrograms_30 : decode cX3_countPrograms 30 = .ok (.aload_n 1, 1) := by decide +kernel
theorem dX3_countPrograms_31 : decode cX3_countPrograms 31 = .ok (.iload 4, 2) := by decide +kernel
theorem dX3_countPrograms_33 : decode cX3_countPrograms 33 = .ok (.invokevirtual 36, 3) := by decide +kernel
theorem dX3_countPrograms_36 : decode cX3_countPrograms 36 = .ok (.istore 4, 2) := by decide +kernel
theorem dX3_countPrograms_38 : decode cX3_countPrograms 38 = .ok (.iinc 5 1, 3) := by decide +kernel
theorem dX3_countPrograms_41 : decode cX3_countPrograms 41 = .ok (.goto (-33), 3) := by decide +kernel
theorem dX3_countPrograms_44 : decode cX3_countPrograms 44 = .ok (.iload_n 3, 1) := by decide +kernel
theorem dX3_countPrograms_45 : decode cX3_countPrograms 45 = .ok (.invokestatic 41, 3) := by decide +kernel
theorem dX3_countPrograms_48 : decode cX3_countPrograms 48 = .ok (.ireturn, 1) := by decide +kernel
set_option maxRecDepth 20000 in
theorem ggX3_programInOrder_X3_openersOf : GoodIn wsX3_programInOrder wsX3_openersOf := goodIn_r _ [5, 6, 7, 8, 4, 9, 10, 11, 12, 13, 35, 36] (by decide +kernel) (by decide +kernel)
set_option maxRecDepth 20000 in
theorem gX3_programInOrder_X3_openersOf : GoodIn wsX3_programInOrder (wsV RX3 32 RX3 yX3_openersOf wsX3_openersOf) := goodIn_app (goodIn_of _ (by decide +kernel)) ggX3_programInOrder_X3_openersOf
set_option maxRecDepth 20000 in
theorem ggX3_programInOrder_J6_bitCount_0f7a4 : GoodIn wsX3_programInOrder wsJ6_bitCount_0f7a4 := goodIn_r _ [17, 18, 19, 20] (by decide +kernel) (by decide +kernel)
set_option maxRecDepth 20000 in
theorem gX3_programInOrder_J6_bitCount_0f7a4 : GoodIn wsX3_programInOrder (va_wsS RX3 41 yJ6_bitCount_0f7a4 wsJ6_bitCount_0f7a4) := goodIn_app (goodIn_of _ (by decide +kernel)) ggX3_programInOrder_J6_bitCount_0f7a4
set_option maxRecDepth 20000 in
theorem ggX3_programInOrder_X3_programOf : GoodIn wsX3_programInOrder wsX3_programOf := goodIn_r _ [23] (by decide +kernel) (by decide +kernel)
set_option maxRecDepth 20000 in
theorem gX3_programInOrder_X3_programOf : GoodIn wsX3_programInOrder (va_wsS RX3 46 yX3_programOf wsX3_programOf) := goodIn_app (goodIn_of _ (by decide +kernel)) ggX3_programInOrder_X3_programOf
set_option maxRecDepth 20000 in
theorem ggX3_programInOrder_X1_parentOf : GoodIn wsX3_programInOrder wsX1_parentOf := goodIn_r _ [28, 29, 30, 31, 32, 27, 33, 34, 37, 38] (by decide +kernel) (by decide +kernel)
set_option maxRecDepth 20000 in
theorem gX3_programInOrder_X1_parentOf : GoodIn wsX3_programInOrder (wsV RX3 36 RX1 yX1_parentOf wsX1_parentOf) := goodIn_app (goodIn_of _ (by decide +kernel)) ggX3_programInOrder_X1_parentOf
theorem dX3_programInOrder_0 : decode cX3_programInOrder 0 = .ok (.iload_n 3, 1) := by decide +kernel
theorem dX3_programInOrder_1 : decode cX3_programInOrder 1 = .ok (.ifCond .ge 5, 3) := by decide +kernel
theorem dX3_programInOrder_4 : decode cX3_programInOrder 4 = .ok (.iconst (-1), 1) := by decide +kernel
theorem dX3_programInOrder_5 : decode cX3_programInOrder 5 = .ok (.ireturn, 1) := by decide +kernel
theorem dX3_programInOrder_6 : decode cX3_programInOrder 6 = .ok (.iconst 0, 1) := by decide +kernel
theorem dX3_programInOrder_7 : decode cX3_programInOrder 7 = .ok (.istore 4, 2) := by decide +kernel
theorem dX3_programInOrder_9 : decode cX3_programInOrder 9 = .ok (.iload_n 2, 1) := by decide +kernel
theorem dX3_programInOrder_10 : decode cX3_programInOrder 10 = .ok (.istore 5, 2) := by decide +kernel
theorem dX3_programInOrder_12 : decode cX3_programInOrder 12 = .ok (.iconst 0, 1) := by decide +kernel
theorem dX3_programInOrder_13 : decode cX3_programInOrder 13 = .ok (.istore 6, 2) := by decide +kernel
theorem dX3_programInOrder_15 : decode cX3_programInOrder 15 = .ok (.iload 6, 2) := by decide +kernel
theorem dX3_programInOrder_17 : decode cX3_programInOrder 17 = .ok (.bipush 14, 2) := by decide +kernel
theorem dX3_programInOrder_19 : decode cX3_programInOrder 19 = .ok (.if_icmp .ge 72, 3) := by decide +kernel
theorem dX3_programInOrder_22 : decode cX3_programInOrder 22 = .ok (.iload 5, 2) := by decide +kernel
theorem dX3_programInOrder_24 : decode cX3_programInOrder 24 = .ok (.iconst (-1), 1) := by decide +kernel
theorem dX3_programInOrder_25 : decode cX3_programInOrder 25 = .ok (.if_icmp .eq 66, 3) := by decide +kernel
theorem dX3_programInOrder_28 : decode cX3_programInOrder 28 = .ok (.aload_n 0, 1) := by decide +kernel
theorem dX3_programInOrder_29 : decode cX3_programInOrder 29 = .ok (.iload 5, 2) := by decide +kernel
theorem dX3_programInOrder_31 : decode cX3_programInOrder 31 = .ok (.invokevirtual 32, 3) := by decide +kernel
theorem dX3_programInOrder_34 : decode cX3_programInOrder 34 = .ok (.iload 4, 2) := by decide +kernel
theorem dX3_programInOrder_36 : decode cX3_programInOrder 36 = .ok (.iconst (-1), 1) := by decide +kernel
theorem dX3_programInOrder_37 : decode cX3_programInOrder 37 = .ok (.ixor, 1) := by decide +kernel
theorem dX3_programInOrder_38 : decode cX3_programInOrder 38 = .ok (.iand, 1) := by decide +kernel
theorem dX3_programInOrder_39 : decode cX3_programInOrder 39 = .ok (.istore 7, 2) := by decide +kernel
theorem dX3_programInOrder_41 : decode cX3_programInOrder 41 = .ok (.iload 4, 2) := by decide +kernel
theorem dX3_programInOrder_43 : decode cX3_programInOrder 43 = .ok (.invokestatic 41, 3) := by decide +kernel
theorem dX3_programInOrder_46 : decode cX3_programInOrder 46 = .ok (.istore 8, 2) := by decide +kernel
theorem dX3_programInOrder_48 : decode cX3_programInOrder 48 = .ok (.iload_n 3, 1) := by decide +kernel
theorem dX3_programInOrder_49 : decode cX3_programInOrder 49 = .ok (.iload 8, 2) := by decide +kernel
theorem dX3_programInOrder_51 : decode cX3_programInOrder 51 = .ok (.isub, 1) := by decide +kernel
theorem dX3_programInOrder_52 : decode cX3_programInOrder 52 = .ok (.iload 7, 2) := by decide +kernel
theorem dX3_programInOrder_54 : decode cX3_programInOrder 54 = .ok (.invokestatic 41, 3) := by decide +kernel
theorem dX3_programInOrder_57 : decode cX3_programInOrder 57 = .ok (.if_icmp .ge 13, 3) := by decide +kernel
theorem dX3_programInOrder_60 : decode cX3_programInOrder 60 = .ok (.iload 7, 2) := by decide +kernel
theorem dX3_programInOrder_62 : decode cX3_programInOrder 62 = .ok (.iload_n 3, 1) := by decide +kernel
theorem dX3_programInOrder_63 : decode cX3_programInOrder 63 = .ok (.iload 8, 2) := by decide +kernel
theorem dX3_programInOrder_65 : decode cX3_programInOrder 65 = .ok (.isub, 1) := by decide +kernel
theorem dX3_programInOrder_66 : decode cX3_programInOrder 66 = .ok (.invokestatic 46, 3) := by decide +kernel
theorem dX3_programInOrder_69 : decode cX3_programInOrder 69 = .ok (.ireturn, 1) := by decide +kernel
theorem dX3_programInOrder_70 : decode cX3_programInOrder 70 = .ok (.iload 4, 2) := by decide +kernel
theorem dX3_programInOrder_72 : decode cX3_programInOrder 72 = .ok (.iload 7, 2) := by decide +kernel
theorem dX3_programInOrder_74 : decode cX3_programInOrder 74 = .ok (.ior, 1) := by decide +kernel
theorem dX3_programInOrder_75 : decode cX3_programInOrder 75 = .ok (.istore 4, 2) := by decide +kernel
theorem dX3_programInOrder_77 : decode cX3_programInOrder 77 = .ok (.aload_n 1, 1) := by decide +kernel
theorem dX3_programInOrder_78 : decode cX3_programInOrder 78 = .ok (.iload 5, 2) := by decide +kernel
theorem dX3_programInOrder_80 : decode cX3_programInOrder 80 = .ok (.invokevirtual 36, 3) := by decide +kernel
theorem dX3_programInOrder_83 : decode cX3_programInOrder 83 = .ok (.istore 5, 2) := by decide +kernel
theorem dX3_programInOrder_85 : decode cX3_programInOrder 85 = .ok (.iinc 6 1, 3) := by decide +kernel
theorem dX3_programInOrder_88 : decode cX3_programInOrder 88 = .ok (.goto (-73), 3) := by decide +kernel
theorem dX3_programInOrder_91 : decode cX3_programInOrder 91 = .ok (.iconst (-1), 1) := by decide +kernel
theorem dX3_programInOrder_92 : decode cX3_programInOrder 92 = .ok (.ireturn, 1) := by decide +kernel
theorem dX3_programOf_0 : decode cX3_programOf 0 = .ok (.iload_n 1, 1) := by decide +kernel
theorem dX3_programOf_1 : decode cX3_programOf 1 = .ok (.istore_n 2, 1) := by decide +kernel
theorem dX3_programOf_2 : decode cX3_programOf 2 = .ok (.iconst 0, 1) := by decide +kernel
theorem dX3_programOf_3 : decode cX3_programOf 3 = .ok (.istore_n 3, 1) := by decide +kernel
theorem dX3_programOf_4 : decode cX3_programOf 4 = .ok (.iload_n 3, 1) := by decide +kernel
theorem dX3_programOf_5 : decode cX3_programOf 5 = .ok (.bipush 10, 2) := by decide +kernel
theorem dX3_programOf_7 : decode cX3_programOf 7 = .ok (.if_icmp .ge 27, 3) := by decide +kernel
theorem dX3_programOf_10 : decode cX3_programOf 10 = .ok (.iload_n 0, 1) := by decide +kernel
theorem dX3_programOf_11 : decode cX3_programOf 11 = .ok (.iload_n 3, 1) := by decide +kernel
theorem dX3_programOf_12 : decode cX3_programOf 12 = .ok (.ishr, 1) := by decide +kernel
theorem dX3_programOf_13 : decode cX3_programOf 13 = .ok (.iconst 1, 1) := by decide +kernel
theorem dX3_programOf_14 : decode cX3_programOf 14 = .ok (.iand, 1) := by decide +kernel
theorem dX3_programOf_15 : decode cX3_programOf 15 = .ok (.iconst 1, 1) := by decide +kernel
theorem dX3_programOf_16 : decode cX3_programOf 16 = .ok (.if_icmp .ne 12, 3) := by decide +kernel
theorem dX3_programOf_19 : decode cX3_programOf 19 = .ok (.iload_n 2, 1) := by decide +kernel
theorem dX3_programOf_20 : decode cX3_programOf 20 = .ok (.ifCond .ne 5, 3) := by decide +kernel
theorem dX3_programOf_23 : decode cX3_programOf 23 = .ok (.iload_n 3, 1) := by decide +kernel
theorem dX3_programOf_24 : decode cX3_programOf 24 = .ok (.ireturn, 1) := by decide +kernel
theorem dX3_programOf_25 : decode cX3_programOf 25 = .ok (.iinc 2 (-1), 3) := by decide +kernel
theorem dX3_programOf_28 : decode cX3_programOf 28 = .ok (.iinc 3 1, 3) := by decide +kernel
theorem dX3_programOf_31 : decode cX3_programOf 31 = .ok (.goto (-27), 3) := by decide +kernel
theorem dX3_programOf_34 : decode cX3_programOf 34 = .ok (.iconst (-1), 1) := by decide +kernel
theorem dX3_programOf_35 : decode cX3_programOf 35 = .ok (.ireturn, 1) := by decide +kernel
set_option maxRecDepth 20000 in
theorem ggX3_defaultUpward_X3_defaultOf : GoodIn wsX3_defaultUpward wsX3_defaultOf := goodIn_r _ [5, 6, 7, 8, 4, 9, 10, 11, 12, 13, 14, 26, 27] (by decide +kernel) (by decide +kernel)
set_option maxRecDepth 20000 in
theorem gX3_defaultUpward_X3_defaultOf : GoodIn wsX3_defaultUpward (wsV RX3 49 RX3 yX3_defaultOf wsX3_defaultOf) := goodIn_app (goodIn_of _ (by decide +kernel)) ggX3_defaultUpward_X3_defaultOf
set_option maxRecDepth 20000 in
theorem ggX3_defaultUpward_X1_parentOf : GoodIn wsX3_defaultUpward wsX1_parentOf := goodIn_r _ [19, 20, 21, 22, 23, 18, 24, 25, 28, 29] (by decide +kernel) (by decide +kernel)
set_option maxRecDepth 20000 in
theorem gX3_defaultUpward_X1_parentOf : GoodIn wsX3_defaultUpward (wsV RX3 36 RX1 yX1_parentOf wsX1_parentOf) := goodIn_app (goodIn_of _ (by decide +kernel)) ggX3_defaultUpward_X1_parentOf
theorem dX3_defaultUpward_0 : decode cX3_defaultUpward 0 = .ok (.iload_n 2, 1) := by decide +kernel
theorem dX3_defaultUpward_1 : decode cX3_defaultUpward 1 = .ok (.istore_n 3, 1) := by decide +kernel
theorem dX3_defaultUpward_2 : decode cX3_defaultUpward 2 = .ok (.iconst 0, 1) := by decide +kernel
theorem dX3_defaultUpward_3 : decode cX3_defaultUpward 3 = .ok (.istore 4, 2) := by decide +kernel
theorem dX3_defaultUpward_5 : decode cX3_defaultUpward 5 = .ok (.iload 4, 2) := by decide +kernel
theorem dX3_defaultUpward_7 : decode cX3_defaultUpward 7 = .ok (.bipush 14, 2) := by decide +kernel
theorem dX3_defaultUpward_9 : decode cX3_defaultUpward 9 = .ok (.if_icmp .ge 36, 3) := by decide +kernel
theorem dX3_defaultUpward_12 : decode cX3_defaultUpward 12 = .ok (.iload_n 3, 1) := by decide +kernel
theorem dX3_defaultUpward_13 : decode cX3_defaultUpward 13 = .ok (.iconst (-1), 1) := by decide +kernel
theorem dX3_defaultUpward_14 : decode cX3_defaultUpward 14 = .ok (.if_icmp .eq 31, 3) := by decide +kernel
theorem dX3_defaultUpward_17 : decode cX3_defaultUpward 17 = .ok (.aload_n 0, 1) := by decide +kernel
theorem dX3_defaultUpward_18 : decode cX3_defaultUpward 18 = .ok (.iload_n 3, 1) := by decide +kernel
theorem dX3_defaultUpward_19 : decode cX3_defaultUpward 19 = .ok (.invokevirtual 49, 3) := by decide +kernel
theorem dX3_defaultUpward_22 : decode cX3_defaultUpward 22 = .ok (.istore 5, 2) := by decide +kernel
theorem dX3_defaultUpward_24 : decode cX3_defaultUpward 24 = .ok (.iload 5, 2) := by decide +kernel
theorem dX3_defaultUpward_26 : decode cX3_defaultUpward 26 = .ok (.iconst (-1), 1) := by decide +kernel
theorem dX3_defaultUpward_27 : decode cX3_defaultUpward 27 = .ok (.if_icmp .eq 6, 3) := by decide +kernel
theorem dX3_defaultUpward_30 : decode cX3_defaultUpward 30 = .ok (.iload 5, 2) := by decide +kernel
theorem dX3_defaultUpward_32 : decode cX3_defaultUpward 32 = .ok (.ireturn, 1) := by decide +kernel
theorem dX3_defaultUpward_33 : decode cX3_defaultUpward 33 = .ok (.aload_n 1, 1) := by decide +kernel
theorem dX3_defaultUpward_34 : decode cX3_defaultUpward 34 = .ok (.iload_n 3, 1) := by decide +kernel
theorem dX3_defaultUpward_35 : decode cX3_defaultUpward 35 = .ok (.invokevirtual 36, 3) := by decide +kernel
theorem dX3_defaultUpward_38 : decode cX3_defaultUpward 38 = .ok (.istore_n 3, 1) := by decide +kernel
theorem dX3_defaultUpward_39 : decode cX3_defaultUpward 39 = .ok (.iinc 4 1, 3) := by decide +kernel
theorem dX3_defaultUpward_42 : decode cX3_defaultUpward 42 = .ok (.goto (-37), 3) := by decide +kernel
theorem dX3_defaultUpward_45 : decode cX3_defaultUpward 45 = .ok (.iconst (-1), 1) := by decide +kernel
theorem dX3_defaultUpward_46 : decode cX3_defaultUpward 46 = .ok (.ireturn, 1) := by decide +kernel
set_option maxRecDepth 20000 in
theorem ggX3_defaultOf_X3_placeOf : GoodIn wsX3_defaultOf wsX3_placeOf := goodIn_r _ [5] (by decide +kernel) (by decide +kernel)
set_option maxRecDepth 20000 in
theorem gX3_defaultOf_X3_placeOf : GoodIn wsX3_defaultOf (va_wsS RX3 24 yX3_placeOf wsX3_placeOf) := goodIn_app (goodIn_of _ (by decide +kernel)) ggX3_defaultOf_X3_placeOf
set_option maxRecDepth 20000 in
theorem ggX3_defaultOf_X3_opens : GoodIn wsX3_defaultOf wsX3_opens := goodIn_r _ [9, 10, 2, 3, 4, 5, 11, 12] (by decide +kernel) (by decide +kernel)
set_option maxRecDepth 20000 in
theorem gX3_defaultOf_X3_opens : GoodIn wsX3_defaultOf (wsV RX3 28 RX3 yX3_opens wsX3_opens) := goodIn_app (goodIn_of _ (by decide +kernel)) ggX3_defaultOf_X3_opens
theorem dX3_defaultOf_0 : decode cX3_defaultOf 0 = .ok (.iconst 0, 1) := by decide +kernel
theorem dX3_defaultOf_1 : decode cX3_defaultOf 1 = .ok (.istore_n 2, 1) := by decide +kernel
theorem dX3_defaultOf_2 : decode cX3_defaultOf 2 = .ok (.iload_n 2, 1) := by decide +kernel
theorem dX3_defaultOf_3 : decode cX3_defaultOf 3 = .ok (.iconst 3, 1) := by decide +kernel
theorem dX3_defaultOf_4 : decode cX3_defaultOf 4 = .ok (.if_icmp .ge 36, 3) := by decide +kernel
theorem dX3_defaultOf_7 : decode cX3_defaultOf 7 = .ok (.aload_n 0, 1) := by decide +kernel
theorem dX3_defaultOf_8 : decode cX3_defaultOf 8 = .ok (.getfield 15, 3) := by decide +kernel
theorem dX3_defaultOf_11 : decode cX3_defaultOf 11 = .ok (.iload_n 2, 1) := by decide +kernel
theorem dX3_defaultOf_12 : decode cX3_defaultOf 12 = .ok (.iload_n 1, 1) := by decide +kernel
theorem dX3_defaultOf_13 : decode cX3_defaultOf 13 = .ok (.invokestatic 24, 3) := by decide +kernel
theorem dX3_defaultOf_16 : decode cX3_defaultOf 16 = .ok (.iaload, 1) := by decide +kernel
theorem dX3_defaultOf_17 : decode cX3_defaultOf 17 = .ok (.istore_n 3, 1) := by decide +kernel
theorem dX3_defaultOf_18 : decode cX3_defaultOf 18 = .ok (.iload_n 3, 1) := by decide +kernel
theorem dX3_defaultOf_19 : decode cX3_defaultOf 19 = .ok (.iconst (-1), 1) := by decide +kernel
theorem dX3_defaultOf_20 : decode cX3_defaultOf 20 = .ok (.if_icmp .eq 14, 3) := by decide +kernel
theorem dX3_defaultOf_23 : decode cX3_defaultOf 23 = .ok (.aload_n 0, 1) := by decide +kernel
theorem dX3_defaultOf_24 : decode cX3_defaultOf 24 = .ok (.iload_n 3, 1) := by decide +kernel
theorem dX3_defaultOf_25 : decode cX3_defaultOf 25 = .ok (.iload_n 1, 1) := by decide +kernel
theorem dX3_defaultOf_26 : decode cX3_defaultOf 26 = .ok (.invokevirtual 28, 3) := by decide +kernel
theorem dX3_defaultOf_29 : decode cX3_defaultOf 29 = .ok (.ifCond .eq 5, 3) := by decide +kernel
theorem dX3_defaultOf_32 : decode cX3_defaultOf 32 = .ok (.iload_n 3, 1) := by decide +kernel
theorem dX3_defaultOf_33 : decode cX3_defaultOf 33 = .ok (.ireturn, 1) := by decide +kernel
theorem dX3_defaultOf_34 : decode cX3_defaultOf 34 = .ok (.iinc 2 1, 3) := by decide +kernel
theorem dX3_defaultOf_37 : decode cX3_defaultOf 37 = .ok (.goto (-35), 3) := by decide +kernel
theorem dX3_defaultOf_40 : decode cX3_defaultOf 40 = .ok (.iconst (-1), 1) := by decide +kernel
theorem dX3_defaultOf_41 : decode cX3_defaultOf 41 = .ok (.ireturn, 1) := by decide +kernel
theorem dJ6_bitCount_0f7a4_0 : decode cJ6_bitCount_0f7a4 0 = .ok (.iload_n 0, 1) := by decide +kernel
theorem dJ6_bitCount_0f7a4_1 : decode cJ6_bitCount_0f7a4 1 = .ok (.iload_n 0, 1) := by decide +kernel
theorem dJ6_bitCount_0f7a4_2 : decode cJ6_bitCount_0f7a4 2 = .ok (.iconst 1, 1) := by decide +kernel
theorem dJ6_bitCount_0f7a4_3 : decode cJ6_bitCount_0f7a4 3 = .ok (.iushr, 1) := by decide +kernel
theorem dJ6_bitCount_0f7a4_4 : decode cJ6_bitCount_0f7a4 4 = .ok (.ldc_w 265, 3) := by decide +kernel
theorem dJ6_bitCount_0f7a4_7 : decode cJ6_bitCount_0f7a4 7 = .ok (.iand, 1) := by decide +kernel
theorem dJ6_bitCount_0f7a4_8 : decode cJ6_bitCount_0f7a4 8 = .ok (.isub, 1) := by decide +kernel
theorem dJ6_bitCount_0f7a4_9 : decode cJ6_bitCount_0f7a4 9 = .ok (.istore_n 0, 1) := by decide +kernel
theorem dJ6_bitCount_0f7a4_10 : decode cJ6_bitCount_0f7a4 10 = .ok (.iload_n 0, 1) := by decide +kernel
theorem dJ6_bitCount_0f7a4_11 : decode cJ6_bitCount_0f7a4 11 = .ok (.ldc_w 266, 3) := by decide +kernel
theorem dJ6_bitCount_0f7a4_14 : decode cJ6_bitCount_0f7a4 14 = .ok (.iand, 1) := by decide +kernel
theorem dJ6_bitCount_0f7a4_15 : decode cJ6_bitCount_0f7a4 15 = .ok (.iload_n 0, 1) := by decide +kernel
theorem dJ6_bitCount_0f7a4_16 : decode cJ6_bitCount_0f7a4 16 = .ok (.iconst 2, 1) := by decide +kernel
theorem dJ6_bitCount_0f7a4_17 : decode cJ6_bitCount_0f7a4 17 = .ok (.iushr, 1) := by decide +kernel
theorem dJ6_bitCount_0f7a4_18 : decode cJ6_bitCount_0f7a4 18 = .ok (.ldc_w 266, 3) := by decide +kernel
theorem dJ6_bitCount_0f7a4_21 : decode cJ6_bitCount_0f7a4 21 = .ok (.iand, 1) := by decide +kernel
theorem dJ6_bitCount_0f7a4_22 : decode cJ6_bitCount_0f7a4 22 = .ok (.iadd, 1) := by decide +kernel
theorem dJ6_bitCount_0f7a4_23 : decode cJ6_bitCount_0f7a4 23 = .ok (.istore_n 0, 1) := by decide +kernel
theorem dJ6_bitCount_0f7a4_24 : decode cJ6_bitCount_0f7a4 24 = .ok (.iload_n 0, 1) := by decide +kernel
theorem dJ6_bitCount_0f7a4_25 : decode cJ6_bitCount_0f7a4 25 = .ok (.iload_n 0, 1) := by decide +kernel
theorem dJ6_bitCount_0f7a4_26 : decode cJ6_bitCount_0f7a4 26 = .ok (.iconst 4, 1) := by decide +kernel
theorem dJ6_bitCount_0f7a4_27 : decode cJ6_bitCount_0f7a4 27 = .ok (.iushr, 1) := by decide +kernel
theorem dJ6_bitCount_0f7a4_28 : decode cJ6_bitCount_0f7a4 28 = .ok (.iadd, 1) := by decide +kernel
theorem dJ6_bitCount_0f7a4_29 : decode cJ6_bitCount_0f7a4 29 = .ok (.ldc_w 267, 3) := by decide +kernel
theorem dJ6_bitCount_0f7a4_32 : decode cJ6_bitCount_0f7a4 32 = .ok (.iand, 1) := by decide +kernel
theorem dJ6_bitCount_0f7a4_33 : decode cJ6_bitCount_0f7a4 33 = .ok (.istore_n 0, 1) := by decide +kernel
theorem dJ6_bitCount_0f7a4_34 : decode cJ6_bitCount_0f7a4 34 = .ok (.iload_n 0, 1) := by decide +kernel
theorem dJ6_bitCount_0f7a4_35 : decode cJ6_bitCount_0f7a4 35 = .ok (.iload_n 0, 1) := by decide +kernel
theorem dJ6_bitCount_0f7a4_36 : decode cJ6_bitCount_0f7a4 36 = .ok (.bipush 8, 2) := by decide +kernel
theorem dJ6_bitCount_0f7a4_38 : decode cJ6_bitCount_0f7a4 38 = .ok (.iushr, 1) := by decide +kernel
theorem dJ6_bitCount_0f7a4_39 : decode cJ6_bitCount_0f7a4 39 = .ok (.iadd, 1) := by decide +kernel
theorem dJ6_bitCount_0f7a4_40 : decode cJ6_bitCount_0f7a4 40 = .ok (.istore_n 0, 1) := by decide +kernel
theorem dJ6_bitCount_0f7a4_41 : decode cJ6_bitCount_0f7a4 41 = .ok (.iload_n 0, 1) := by decide +kernel
theorem dJ6_bitCount_0f7a4_42 : decode cJ6_bitCount_0f7a4 42 = .ok (.iload_n 0, 1) := by decide +kernel
theorem dJ6_bitCount_0f7a4_43 : decode cJ6_bitCount_0f7a4 43 = .ok (.bipush 16, 2) := by decide +kernel
theorem dJ6_bitCount_0f7a4_45 : decode cJ6_bitCount_0f7a4 45 = .ok (.iushr, 1) := by decide +kernel
theorem dJ6_bitCount_0f7a4_46 : decode cJ6_bitCount_0f7a4 46 = .ok (.iadd, 1) := by decide +kernel
theorem dJ6_bitCount_0f7a4_47 : decode cJ6_bitCount_0f7a4 47 = .ok (.istore_n 0, 1) := by decide +kernel
theorem dJ6_bitCount_0f7a4_48 : decode cJ6_bitCount_0f7a4 48 = .ok (.iload_n 0, 1) := by decide +kernel
theorem dJ6_bitCount_0f7a4_49 : decode cJ6_bitCount_0f7a4 49 = .ok (.bipush 63, 2) := by decide +kernel
theorem dJ6_bitCount_0f7a4_51 : decode cJ6_bitCount_0f7a4 51 = .ok (.iand, 1) := by decide +kernel
theorem dJ6_bitCount_0f7a4_52 : decode cJ6_bitCount_0f7a4 52 = .ok (.ireturn, 1) := by decide +kernel
theorem dJ7_fill_53178_0 : decode cJ7_fill_53178 0 = .ok (.iconst 0, 1) := by decide +kernel
theorem dJ7_fill_53178_1 : decode cJ7_fill_53178 1 = .ok (.istore_n 2, 1) := by decide +kernel
theorem dJ7_fill_53178_2 : decode cJ7_fill_53178 2 = .ok (.aload_n 0, 1) := by decide +kernel
theorem dJ7_fill_53178_3 : decode cJ7_fill_53178 3 = .ok (.arraylength, 1) := by decide +kernel
theorem dJ7_fill_53178_4 : decode cJ7_fill_53178 4 = .ok (.istore_n 3, 1) := by decide +kernel
theorem dJ7_fill_53178_5 : decode cJ7_fill_53178 5 = .ok (.iload_n 2, 1) := by decide +kernel
theorem dJ7_fill_53178_6 : decode cJ7_fill_53178 6 = .ok (.iload_n 3, 1) := by decide +kernel
theorem dJ7_fill_53178_7 : decode cJ7_fill_53178 7 = .ok (.if_icmp .ge 13, 3) := by decide +kernel
theorem dJ7_fill_53178_10 : decode cJ7_fill_53178 10 = .ok (.aload_n 0, 1) := by decide +kernel
theorem dJ7_fill_53178_11 : decode cJ7_fill_53178 11 = .ok (.iload_n 2, 1) := by decide +kernel
theorem dJ7_fill_53178_12 : decode cJ7_fill_53178 12 = .ok (.iload_n 1, 1) := by decide +kernel
theorem dJ7_fill_53178_13 : decode cJ7_fill_53178 13 = .ok (.iastore, 1) := by decide +kernel
theorem dJ7_fill_53178_14 : decode cJ7_fill_53178 14 = .ok (.iinc 2 1, 3) := by decide +kernel
theorem dJ7_fill_53178_17 : decode cJ7_fill_53178 17 = .ok (.goto (-12), 3) := by decide +kernel
theorem dJ7_fill_53178_20 : decode cJ7_fill_53178 20 = .ok (.return_, 1) := by decide +kernel
end
section
/-! ===== own layer: numbers, truth values ===== -/
def bI (b : Bool) : Int32 := if b then 1 else 0
theorem bI_z {b : Bool} : bI b = 0 ↔ b = false := by cases b <;> simp [bI]
theorem bI_nz {b : Bool} : ¬ bI b = 0 ↔ b = true := by cases b <;> simp [bI]
theorem bI_1 {b : Bool} : bI b = 1 ↔ b = true := by cases b <;> simp [bI]
theorem bI_n1 {b : Bool} : ¬ bI b = 1 ↔ b = false := by cases b <;> simp [bI]
theorem bI_dt {P : Prop} [Decidable P] (h : P) : nI 1 = bI (decide P) := by rw [decide_eq_true h]; rfl
theorem bI_df {P : Prop} [Decidable P] (h : ¬ P) : nI 0 = bI (decide P) := by rw [decide_eq_false h]; rfl
theorem bI_t {b : Bool} (h : b = true) : nI 1 = bI b := by rw [h]; rfl
theorem bI_f {b : Bool} (h : b = false) : nI 0 = bI b := by rw [h]; rfl
theorem bI_narrow (b : Bool) : narrow .boolean (.int (bI b)) = .int (bI b) := by cases b <;> rfl
theorem bI_narrow_of {v : Int32} {b : Bool} (h : v = bI b) : narrow .boolean (.int v) = .int v := by rw [h]; exact bI_narrow b
theorem bI_nar (b : Bool) : vp_nar .boolean (bI b) = bI b := by cases b <;> rfl
theorem nar_0 : vp_nar .boolean (nI 0) = nI 0 := rfl
theorem nar_1 : vp_nar .boolean (nI 1) = nI 1 := rfl
theorem nI_sub {a b : Nat} (h : b ≤ a) : nI a - nI b = nI (a - b) := pk_sub h
theorem vp_in_N {n N : Nat} (h : n < N) (hN : N < 2 ^ 31) : vp_in (nI n) N := vp_in_nI h hN
theorem vp_in_ok {k : Int32} {n : Nat} (hn : n < 2 ^ 31) (h0 : 0 ≤ k) (h1 : k < nI n) : vp_in k n := by
  refine vp_in_iff.mpr ⟨?_, ?_⟩
  · have := Int32.le_iff_toInt_le.mp h0; simpa using this
  · have := Int32.lt_iff_toInt_lt.mp h1; rw [nI_toInt hn] at this; exact this
theorem vp_in_no0 {k : Int32} {n : Nat} (h0 : ¬ 0 ≤ k) : ¬ vp_in k n := fun h => h0 (by
  have := (vp_in_iff.mp h).1
  exact Int32.le_iff_toInt_le.mpr (by simpa using this))
theorem vp_in_no1 {k : Int32} {n : Nat} (hn : n < 2 ^ 31) (h1 : ¬ k < nI n) : ¬ vp_in k n := fun h => h1 (by
  have := (vp_in_iff.mp h).2
  exact Int32.lt_iff_toInt_lt.mpr (by rw [nI_toInt hn]; exact this))
/-! ===== own layer: rows over numbers nI ===== -/
section LN
variable {p : Program} {l : Launch} {e : Env} {R : Room} {s : State} {m : MethodId} {args : Array Value} {below : List Frame} {meth : Method} {c : Code} {H : Heap} {locs : List Loc} {cells slots : Nat} {Q : State → Prop}
variable {cc : ByteArray} {pc : Nat} {ls : Array Slot} {rest : List Value}
theorem ln_eqi {x y : Int32} (h : x = y) (k : W p l e R s m args below meth c H locs cells slots Q (F0 m pc ls (.int y :: rest))) : W p l e R s m args below meth c H locs cells slots Q (F0 m pc ls (.int x :: rest)) := by rw [h]; exact k
theorem ln_iadd (hexec : p.tables.exec = Jvm.exec) (hb : c.code = cc) {a b n : Nat} (h : a + b = n) (hdg : decode cc pc = .ok (.iadd, 1)) (k : W p l e R s m args below meth c H locs cells slots Q (F0 m (pc + 1) ls (.int (nI n) :: rest))) : W p l e R s m args below meth c H locs cells slots Q (F0 m pc ls (.int (nI b) :: .int (nI a) :: rest)) :=
  lv_iadd hexec hb hdg (by rw [nI_add, h]; exact k)
theorem ln_isub (hexec : p.tables.exec = Jvm.exec) (hb : c.code = cc) {a b n : Nat} (hle : b ≤ a) (h : a - b = n) (hdg : decode cc pc = .ok (.isub, 1)) (k : W p l e R s m args below meth c H locs cells slots Q (F0 m (pc + 1) ls (.int (nI n) :: rest))) : W p l e R s m args below meth c H locs cells slots Q (F0 m pc ls (.int (nI b) :: .int (nI a) :: rest)) :=
  lv_isub hexec hb hdg (by rw [pk_sub hle, h]; exact k)
theorem ln_imul (hexec : p.tables.exec = Jvm.exec) (hb : c.code = cc) {a b n : Nat} (h : a * b = n) (hdg : decode cc pc = .ok (.imul, 1)) (k : W p l e R s m args below meth c H locs cells slots Q (F0 m (pc + 1) ls (.int (nI n) :: rest))) : W p l e R s m args below meth c H locs cells slots Q (F0 m pc ls (.int (nI b) :: .int (nI a) :: rest)) :=
  lv_imul hexec hb hdg (by rw [pk_mul, h]; exact k)
theorem ln_idiv (hexec : p.tables.exec = Jvm.exec) (hb : c.code = cc) {a b : Nat} (ha : a < 2 ^ 31) (h0 : 0 < b) (hb2 : b < 2 ^ 31) (hdg : decode cc pc = .ok (.idiv, 1)) (k : W p l e R s m args below meth c H locs cells slots Q (F0 m (pc + 1) ls (.int (nI (a / b)) :: rest))) : W p l e R s m args below meth c H locs cells slots Q (F0 m pc ls (.int (nI b) :: .int (nI a) :: rest)) :=
  lv_idiv hexec hb hdg (nI_ne0 h0 hb2) (by rw [pk_div ha h0 hb2]; exact k)
theorem ln_irem (hexec : p.tables.exec = Jvm.exec) (hb : c.code = cc) {a b : Nat} (ha : a < 2 ^ 31) (h0 : 0 < b) (hb2 : b < 2 ^ 31) (hdg : decode cc pc = .ok (.irem, 1)) (k : W p l e R s m args below meth c H locs cells slots Q (F0 m (pc + 1) ls (.int (nI (a % b)) :: rest))) : W p l e R s m args below meth c H locs cells slots Q (F0 m pc ls (.int (nI b) :: .int (nI a) :: rest)) :=
  lv_irem hexec hb hdg (nI_ne0 h0 hb2) (by rw [pk_rem ha h0 hb2]; exact k)
theorem ln_icmp_eq (hexec : p.tables.exec = Jvm.exec) (hb : c.code = cc) {a b : Nat} {off : Int} {tgt : Nat} (ha : a < 2 ^ 31) (hb2 : b < 2 ^ 31) (hdg : decode cc pc = .ok (.if_icmp .eq off, 3)) (ht : (pc : Int) + off = (tgt : Int)) (kt : a = b → W p l e R s m args below meth c H locs cells slots Q (F0 m tgt ls rest)) (kf : ¬ a = b → W p l e R s m args below meth c H locs cells slots Q (F0 m (pc + 3) ls rest)) : W p l e R s m args below meth c H locs cells slots Q (F0 m pc ls (.int (nI b) :: .int (nI a) :: rest)) :=
  lv_icmp_eq hexec hb hdg ht (fun h => kt ((nI_eq ha hb2).mp h)) (fun h => kf (fun q => h ((nI_eq ha hb2).mpr q)))
theorem ln_icmp_ne (hexec : p.tables.exec = Jvm.exec) (hb : c.code = cc) {a b : Nat} {off : Int} {tgt : Nat} (ha : a < 2 ^ 31) (hb2 : b < 2 ^ 31) (hdg : decode cc pc = .ok (.if_icmp .ne off, 3)) (ht : (pc : Int) + off = (tgt : Int)) (kt : ¬ a = b → W p l e R s m args below meth c H locs cells slots Q (F0 m tgt ls rest)) (kf : a = b → W p l e R s m args below meth c H locs cells slots Q (F0 m (pc + 3) ls rest)) : W p l e R s m args below meth c H locs cells slots Q (F0 m pc ls (.int (nI b) :: .int (nI a) :: rest)) :=
  lv_icmp_ne hexec hb hdg ht (fun h => kt (fun q => h ((nI_eq ha hb2).mpr q))) (fun h => kf ((nI_eq ha hb2).mp h))
theorem ln_icmp_ge (hexec : p.tables.exec = Jvm.exec) (hb : c.code = cc) {a b : Nat} {off : Int} {tgt : Nat} (ha : a < 2 ^ 31) (hb2 : b < 2 ^ 31) (hdg : decode cc pc = .ok (.if_icmp .ge off, 3)) (ht : (pc : Int) + off = (tgt : Int)) (kt : b ≤ a → W p l e R s m args below meth c H locs cells slots Q (F0 m tgt ls rest)) (kf : ¬ b ≤ a → W p l e R s m args below meth c H locs cells slots Q (F0 m (pc + 3) ls rest)) : W p l e R s m args below meth c H locs cells slots Q (F0 m pc ls (.int (nI b) :: .int (nI a) :: rest)) :=
  lv_icmp_ge hexec hb hdg ht (fun h => kt ((nI_leI hb2 ha).mp h)) (fun h => kf (fun q => h ((nI_leI hb2 ha).mpr q)))
theorem ln_icmp_lt (hexec : p.tables.exec = Jvm.exec) (hb : c.code = cc) {a b : Nat} {off : Int} {tgt : Nat} (ha : a < 2 ^ 31) (hb2 : b < 2 ^ 31) (hdg : decode cc pc = .ok (.if_icmp .lt off, 3)) (ht : (pc : Int) + off = (tgt : Int)) (kt : a < b → W p l e R s m args below meth c H locs cells slots Q (F0 m tgt ls rest)) (kf : ¬ a < b → W p l e R s m args below meth c H locs cells slots Q (F0 m (pc + 3) ls rest)) : W p l e R s m args below meth c H locs cells slots Q (F0 m pc ls (.int (nI b) :: .int (nI a) :: rest)) :=
  lv_icmp_lt hexec hb hdg ht (fun h => kt ((nI_ltI ha hb2).mp h)) (fun h => kf (fun q => h ((nI_ltI ha hb2).mpr q)))
theorem ln_icmp_gt (hexec : p.tables.exec = Jvm.exec) (hb : c.code = cc) {a b : Nat} {off : Int} {tgt : Nat} (ha : a < 2 ^ 31) (hb2 : b < 2 ^ 31) (hdg : decode cc pc = .ok (.if_icmp .gt off, 3)) (ht : (pc : Int) + off = (tgt : Int)) (kt : b < a → W p l e R s m args below meth c H locs cells slots Q (F0 m tgt ls rest)) (kf : ¬ b < a → W p l e R s m args below meth c H locs cells slots Q (F0 m (pc + 3) ls rest)) : W p l e R s m args below meth c H locs cells slots Q (F0 m pc ls (.int (nI b) :: .int (nI a) :: rest)) :=
  lv_icmp_gt hexec hb hdg ht (fun h => kt ((nI_ltI hb2 ha).mp h)) (fun h => kf (fun q => h ((nI_ltI hb2 ha).mpr q)))
theorem ln_icmp_le (hexec : p.tables.exec = Jvm.exec) (hb : c.code = cc) {a b : Nat} {off : Int} {tgt : Nat} (ha : a < 2 ^ 31) (hb2 : b < 2 ^ 31) (hdg : decode cc pc = .ok (.if_icmp .le off, 3)) (ht : (pc : Int) + off = (tgt : Int)) (kt : a ≤ b → W p l e R s m args below meth c H locs cells slots Q (F0 m tgt ls rest)) (kf : ¬ a ≤ b → W p l e R s m args below meth c H locs cells slots Q (F0 m (pc + 3) ls rest)) : W p l e R s m args below meth c H locs cells slots Q (F0 m pc ls (.int (nI b) :: .int (nI a) :: rest)) :=
  lv_icmp_le hexec hb hdg ht (fun h => kt ((nI_leI ha hb2).mp h)) (fun h => kf (fun q => h ((nI_leI ha hb2).mpr q)))
theorem ln_if_eq (hexec : p.tables.exec = Jvm.exec) (hb : c.code = cc) {a : Nat} {off : Int} {tgt : Nat} (ha : a < 2 ^ 31) (hdg : decode cc pc = .ok (.ifCond .eq off, 3)) (ht : (pc : Int) + off = (tgt : Int)) (kt : a = 0 → W p l e R s m args below meth c H locs cells slots Q (F0 m tgt ls rest)) (kf : ¬ a = 0 → W p l e R s m args below meth c H locs cells slots Q (F0 m (pc + 3) ls rest)) : W p l e R s m args below meth c H locs cells slots Q (F0 m pc ls (.int (nI a) :: rest)) :=
  lv_if_eq hexec hb hdg ht (fun h => kt ((nI_eq (b := 0) ha (by decide)).mp h)) (fun h => kf (fun q => h (by rw [q]; rfl)))
theorem ln_if_ne (hexec : p.tables.exec = Jvm.exec) (hb : c.code = cc) {a : Nat} {off : Int} {tgt : Nat} (ha : a < 2 ^ 31) (hdg : decode cc pc = .ok (.ifCond .ne off, 3)) (ht : (pc : Int) + off = (tgt : Int)) (kt : ¬ a = 0 → W p l e R s m args below meth c H locs cells slots Q (F0 m tgt ls rest)) (kf : a = 0 → W p l e R s m args below meth c H locs cells slots Q (F0 m (pc + 3) ls rest)) : W p l e R s m args below meth c H locs cells slots Q (F0 m pc ls (.int (nI a) :: rest)) :=
  lv_if_ne hexec hb hdg ht (fun h => kt (fun q => h (by rw [q]; rfl))) (fun h => kf ((nI_eq (b := 0) ha (by decide)).mp h))
theorem ln_if_lt (hexec : p.tables.exec = Jvm.exec) (hb : c.code = cc) {a : Nat} {off : Int} {tgt : Nat} (ha : a < 2 ^ 31) (hdg : decode cc pc = .ok (.ifCond .lt off, 3)) (ht : (pc : Int) + off = (tgt : Int)) (kf : W p l e R s m args below meth c H locs cells slots Q (F0 m (pc + 3) ls rest)) : W p l e R s m args below meth c H locs cells slots Q (F0 m pc ls (.int (nI a) :: rest)) :=
  lv_if_lt hexec hb hdg ht (fun h => absurd h (nI_pos ha)) (fun _ => kf)
theorem ln_if_ge (hexec : p.tables.exec = Jvm.exec) (hb : c.code = cc) {a : Nat} {off : Int} {tgt : Nat} (ha : a < 2 ^ 31) (hdg : decode cc pc = .ok (.ifCond .ge off, 3)) (ht : (pc : Int) + off = (tgt : Int)) (kt : W p l e R s m args below meth c H locs cells slots Q (F0 m tgt ls rest)) : W p l e R s m args below meth c H locs cells slots Q (F0 m pc ls (.int (nI a) :: rest)) :=
  lv_if_ge hexec hb hdg ht (fun _ => kt) (fun h => absurd (nI_pos' ha) h)
theorem ln_if_gt (hexec : p.tables.exec = Jvm.exec) (hb : c.code = cc) {a : Nat} {off : Int} {tgt : Nat} (ha : a < 2 ^ 31) (hdg : decode cc pc = .ok (.ifCond .gt off, 3)) (ht : (pc : Int) + off = (tgt : Int)) (kt : 0 < a → W p l e R s m args below meth c H locs cells slots Q (F0 m tgt ls rest)) (kf : ¬ 0 < a → W p l e R s m args below meth c H locs cells slots Q (F0 m (pc + 3) ls rest)) : W p l e R s m args below meth c H locs cells slots Q (F0 m pc ls (.int (nI a) :: rest)) :=
  lv_if_gt hexec hb hdg ht (fun h => kt ((nI_ltI (a := 0) (by decide) ha).mp h)) (fun h => kf (fun q => h ((nI_ltI (a := 0) (by decide) ha).mpr q)))
theorem ln_if_le (hexec : p.tables.exec = Jvm.exec) (hb : c.code = cc) {a : Nat} {off : Int} {tgt : Nat} (ha : a < 2 ^ 31) (hdg : decode cc pc = .ok (.ifCond .le off, 3)) (ht : (pc : Int) + off = (tgt : Int)) (kt : a = 0 → W p l e R s m args below meth c H locs cells slots Q (F0 m tgt ls rest)) (kf : 0 < a → W p l e R s m args below meth c H locs cells slots Q (F0 m (pc + 3) ls rest)) : W p l e R s m args below meth c H locs cells slots Q (F0 m pc ls (.int (nI a) :: rest)) :=
  lv_if_le hexec hb hdg ht (fun h => kt (Nat.le_zero.mp ((nI_leI (b := 0) ha (by decide)).mp h))) (fun h => kf (Nat.pos_of_ne_zero (fun q => h (by rw [q]; exact Int32.le_refl _))))
section AR
variable {D : va_G} {cl : List vw_C} {ws : va_W} {tys : List (ClassId × FieldType)} {a : Nat} {A : Nat → Prop} {H0 : Heap}
theorem ln_iald (hexec : p.tables.exec = Jvm.exec) (hb : c.code = cc) (hK : va_K D cl tys s) (hP : va_P D cl ws H) (q0 t0 : Nat) {cA : ClassId} {n j : Nat} {f : Nat → Int32} (ha : ws[q0]? = some (a, .inl (cA, n, .inl f))) (ht : tys[t0]? = some (cA, .int)) (hj : j < n) (hn : n < 2 ^ 31) (hdg : decode cc pc = .ok (.iaload, 1))
    (kk : W p l e R s m args below meth c H locs cells slots Q (F0 m (pc + 1) ls (.int (f j) :: rest))) : W p l e R s m args below meth c H locs cells slots Q (F0 m pc ls (.int (nI j) :: .ref a :: rest)) :=
  va_iald hexec hb hK hP q0 t0 ha ht (vp_in_nI hj hn) hdg (by rw [nI_clamp (Nat.lt_trans hj hn)]; exact kk)
theorem ln_zald (hexec : p.tables.exec = Jvm.exec) (hb : c.code = cc) (hK : va_K D cl tys s) (hP : va_P D cl ws H) (q0 t0 : Nat) {cA : ClassId} {n j : Nat} {f : Nat → Int32} (ha : ws[q0]? = some (a, .inl (cA, n, .inl f))) (ht : tys[t0]? = some (cA, .boolean)) (hj : j < n) (hn : n < 2 ^ 31) (hdg : decode cc pc = .ok (.baload, 1))
    (kk : W p l e R s m args below meth c H locs cells slots Q (F0 m (pc + 1) ls (.int (f j) :: rest))) : W p l e R s m args below meth c H locs cells slots Q (F0 m pc ls (.int (nI j) :: .ref a :: rest)) :=
  va_zald hexec hb hK hP q0 t0 ha ht (vp_in_nI hj hn) hdg (by rw [nI_clamp (Nat.lt_trans hj hn)]; exact kk)
theorem ln_lald (hexec : p.tables.exec = Jvm.exec) (hb : c.code = cc) (hK : va_K D cl tys s) (hP : va_P D cl ws H) (q0 t0 : Nat) {cA : ClassId} {n j : Nat} {f : Nat → Int64} (ha : ws[q0]? = some (a, .inl (cA, n, .inr (.inl f)))) (ht : tys[t0]? = some (cA, .long)) (hj : j < n) (hn : n < 2 ^ 31) (hdg : decode cc pc = .ok (.laload, 1))
    (kk : W p l e R s m args below meth c H locs cells slots Q (F0 m (pc + 1) ls (.long (f j) :: rest))) : W p l e R s m args below meth c H locs cells slots Q (F0 m pc ls (.int (nI j) :: .ref a :: rest)) :=
  va_lald hexec hb hK hP q0 t0 ha ht (vp_in_nI hj hn) hdg (by rw [nI_clamp (Nat.lt_trans hj hn)]; exact kk)
theorem ln_iast (hexec : p.tables.exec = Jvm.exec) (hb : c.code = cc) (hK : va_K D cl tys s) (hP : va_P D cl ws H) (hD : va_D A ws) (hS : va_S A H0 H locs) (q0 t0 : Nat) {cA : ClassId} {n j : Nat} {f : Nat → Int32} (ha : ws[q0]? = some (a, .inl (cA, n, .inl f))) (ht : tys[t0]? = some (cA, .int)) {x : Int32} (hj : j < n) (hn : n < 2 ^ 31) (hdg : decode cc pc = .ok (.iastore, 1)) (w1 : va_W) (hw : ws.set q0 (a, .inl (cA, n, .inl (upd f j x))) = w1)
    (kk : ∀ (H1 : Heap) (locs1 : List Loc), va_P D cl w1 H1 → va_D A w1 → va_S A H0 H1 locs1 → W p l e R s m args below meth c H1 locs1 cells slots Q (F0 m (pc + 1) ls rest)) : W p l e R s m args below meth c H locs cells slots Q (F0 m pc ls (.int x :: .int (nI j) :: .ref a :: rest)) :=
  va_iast hexec hb hK hP hD hS q0 t0 ha ht (vp_in_nI hj hn) hdg (fun H1 l1 h1 h2 h3 => by rw [nI_clamp (Nat.lt_trans hj hn), hw] at h1 h2; exact kk H1 l1 h1 h2 h3)
theorem ln_zast (hexec : p.tables.exec = Jvm.exec) (hb : c.code = cc) (hK : va_K D cl tys s) (hP : va_P D cl ws H) (hD : va_D A ws) (hS : va_S A H0 H locs) (q0 t0 : Nat) {cA : ClassId} {n j : Nat} {f : Nat → Int32} (ha : ws[q0]? = some (a, .inl (cA, n, .inl f))) (ht : tys[t0]? = some (cA, .boolean)) {x : Int32} (hx : vp_nar .boolean x = x) (hj : j < n) (hn : n < 2 ^ 31) (hdg : decode cc pc = .ok (.bastore, 1)) (w1 : va_W) (hw : ws.set q0 (a, .inl (cA, n, .inl (upd f j x))) = w1)
    (kk : ∀ (H1 : Heap) (locs1 : List Loc), va_P D cl w1 H1 → va_D A w1 → va_S A H0 H1 locs1 → W p l e R s m args below meth c H1 locs1 cells slots Q (F0 m (pc + 1) ls rest)) : W p l e R s m args below meth c H locs cells slots Q (F0 m pc ls (.int x :: .int (nI j) :: .ref a :: rest)) :=
  va_zast hexec hb hK hP hD hS q0 t0 ha ht (vp_in_nI hj hn) hdg (fun H1 l1 h1 h2 h3 => by rw [nI_clamp (Nat.lt_trans hj hn), hx, hw] at h1 h2; exact kk H1 l1 h1 h2 h3)
theorem ln_last (hexec : p.tables.exec = Jvm.exec) (hb : c.code = cc) (hK : va_K D cl tys s) (hP : va_P D cl ws H) (hD : va_D A ws) (hS : va_S A H0 H locs) (q0 t0 : Nat) {cA : ClassId} {n j : Nat} {f : Nat → Int64} (ha : ws[q0]? = some (a, .inl (cA, n, .inr (.inl f)))) (ht : tys[t0]? = some (cA, .long)) {x : Int64} (hj : j < n) (hn : n < 2 ^ 31) (hdg : decode cc pc = .ok (.lastore, 1)) (w1 : va_W) (hw : ws.set q0 (a, .inl (cA, n, .inr (.inl (vp_updL f j x)))) = w1)
    (kk : ∀ (H1 : Heap) (locs1 : List Loc), va_P D cl w1 H1 → va_D A w1 → va_S A H0 H1 locs1 → W p l e R s m args below meth c H1 locs1 cells slots Q (F0 m (pc + 1) ls rest)) : W p l e R s m args below meth c H locs cells slots Q (F0 m pc ls (.long x :: .int (nI j) :: .ref a :: rest)) :=
  va_last hexec hb hK hP hD hS q0 t0 ha ht (vp_in_nI hj hn) hdg (fun H1 l1 h1 h2 h3 => by rw [nI_clamp (Nat.lt_trans hj hn), hw] at h1 h2; exact kk H1 l1 h1 h2 h3)
end AR
end LN
end
section
/-! ===== own layer: contracts of readers and writers, their bodies, ends and calls ===== -/
abbrev rmO (f c s l : Nat) : Room := { frames := f, cells := c, slots := s, locals := l }
abbrev ty3 (y : ClassId × ClassId × ClassId) : List (ClassId × FieldType) := [(y.1, .int), (y.2.1, .boolean), (y.2.2, .long)]
def rd_Pc (D : va_G) (y : ClassId × ClassId × ClassId) (w : va_W) (av : List Value) : Array Value → State → Prop := va_Pc av (fun U => va_P D vwCl w U.heap ∧ va_K D vwCl (ty3 y) U)
/-- a method that only reads: from any heap that holds the cells w it answers r with post r; the heap stays -/
def rdM (l : Launch) (y : MethodName) (ws : List Cond) (fr lo : Nat) (D : va_G) (y3 : ClassId × ClassId × ClassId) (w : va_W) (av : List Value) (post : Int32 → Prop) : Prop :=
  Met l y ws (rmO fr 0 0 lo) (rd_Pc D y3 w av) (vp_Si post) 0 0 (fun _ => False)
def wr_Pc (D : va_G) (y : ClassId × ClassId × ClassId) (w : va_W) (av : List Value) (sz : Nat) : Array Value → State → Prop := va_Pc av (fun U => U.heap.size = sz ∧ va_P D vwCl w U.heap ∧ va_K D vwCl (ty3 y) U ∧ va_D (fun _ => True) w)
/-- a method that writes into the cells w, makes none for good: it answers r and leaves the cells w2 u, with post r u -/
def wrM (l : Launch) (y : MethodName) (ws : List Cond) (fr lo mc ms : Nat) (D : va_G) (y3 : ClassId × ClassId × ClassId) (w : va_W) (av : List Value) {S : Type} (post : Int32 → S → Prop) (w2 : S → va_W) : Prop :=
  ∀ sz : Nat, Met l y ws (rmO fr mc ms lo) (wr_Pc D y3 w av sz) (va_Qi post (fun u t => va_P D vwCl (w2 u) t.heap ∧ va_D (va_A w sz) (w2 u)) (va_A w sz)) mc ms (va_A w sz)
def wvM (l : Launch) (y : MethodName) (ws : List Cond) (fr lo mc ms : Nat) (D : va_G) (y3 : ClassId × ClassId × ClassId) (w : va_W) (av : List Value) {S : Type} (post : S → Prop) (w2 : S → va_W) : Prop :=
  ∀ sz : Nat, Met l y ws (rmO fr mc ms lo) (wr_Pc D y3 w av sz) (va_Qv post (fun u t => va_P D vwCl (w2 u) t.heap ∧ va_D (va_A w sz) (w2 u)) (va_A w sz)) mc ms (va_A w sz)
theorem rd_blind {D : va_G} {y : ClassId × ClassId × ClassId} {w : va_W} {av : List Value} : FrameBlind (rd_Pc D y w av) := fun a U g mk q => by
  obtain ⟨q0, q1, q2⟩ := q
  exact ⟨q0, q1, va_K.moved (u := U) (U := U.calling g mk a) (Vm.Alike.refl U.vm) q2⟩
theorem wr_blind {D : va_G} {y : ClassId × ClassId × ClassId} {w : va_W} {av : List Value} {sz : Nat} : FrameBlind (wr_Pc D y w av sz) := fun a U g mk q => by
  obtain ⟨q0, q1, q2, q3, q4⟩ := q
  exact ⟨q0, q1, q2, va_K.moved (u := U) (U := U.calling g mk a) (Vm.Alike.refl U.vm) q3, q4⟩
/-- the body of a reader that answers an int -/
theorem rd_of {l : Launch} {y : MethodName} {ws ws' : List Cond} {fr lo : Nat} {D : va_G} {y3 : ClassId × ClassId × ClassId} {w : va_W} {av : List Value} {post : Int32 → Prop} {cc : ByteArray} {maxL : Nat}
    (hy : plainName y.cls = true) (hw : ws = Cond.code y cc maxL (some .int) :: ws') (hn : (lg_sl av).length ≤ maxL)
    (body : ∀ (p : Program) (e : Env) (s : State) (m : MethodId) (args : Array Value) (below : List Frame) (meth : Method) (c : Code) (Q : State → Prop), p.tables.exec = Jvm.exec → c.code = cc → c.maxLocals = maxL → s.vm.findClass y.cls = some m.cls → (∀ q ∈ ws, q.before args s = true) → va_P D vwCl w s.heap → va_K D vwCl (ty3 y3) s →
      (∀ (pc : Nat) (ls : Array Slot) (v : Int32), post v → decode cc pc = .ok (.ireturn, 1) → W p l e (rmO fr 0 0 lo) s m args below meth c s.heap [] 0 0 Q (F0 m pc ls [.int v])) → ∀ ls : Array Slot, lv_has ls maxL (lv_args 0 av) →
      W p l e (rmO fr 0 0 lo) s m args below meth c s.heap [] 0 0 Q (F0 m 0 ls [])) : rdM l y ws fr lo D y3 w av post := by
  refine Met.ofW (cc := cc) (maxL := maxL) (ret := some .int) hy hw ?_
  intro p e s m args below meth c s₁ B hml hv
  obtain ⟨rfl, hP, hK⟩ := hv
  rw [lg_entry_eq]
  exact body p e s m av.toArray below meth c _ B.exec B.bytes hml (findClass_of_methodNamed B.named) (atoms_spec (ws := ws) B.pre) hP hK
    (fun pc ls v h hdg => W.iret B.exec B.bytes B.returns (fun t ht _ => ⟨v, rfl, h, ht⟩) (fun _ h => nomatch h) hdg B.notSynchronized) _ (lv_entry av hn)
/-- the body of a reader that answers a truth value -/
theorem rz_of {l : Launch} {y : MethodName} {ws ws' : List Cond} {fr lo : Nat} {D : va_G} {y3 : ClassId × ClassId × ClassId} {w : va_W} {av : List Value} {b : Bool} {cc : ByteArray} {maxL : Nat}
    (hy : plainName y.cls = true) (hw : ws = Cond.code y cc maxL (some .boolean) :: ws') (hn : (lg_sl av).length ≤ maxL)
    (body : ∀ (p : Program) (e : Env) (s : State) (m : MethodId) (args : Array Value) (below : List Frame) (meth : Method) (c : Code) (Q : State → Prop), p.tables.exec = Jvm.exec → c.code = cc → c.maxLocals = maxL → s.vm.findClass y.cls = some m.cls → (∀ q ∈ ws, q.before args s = true) → va_P D vwCl w s.heap → va_K D vwCl (ty3 y3) s →
      (∀ (pc : Nat) (ls : Array Slot) (v : Int32), v = bI b → decode cc pc = .ok (.ireturn, 1) → W p l e (rmO fr 0 0 lo) s m args below meth c s.heap [] 0 0 Q (F0 m pc ls [.int v])) → ∀ ls : Array Slot, lv_has ls maxL (lv_args 0 av) →
      W p l e (rmO fr 0 0 lo) s m args below meth c s.heap [] 0 0 Q (F0 m 0 ls [])) : rdM l y ws fr lo D y3 w av (fun r => r = bI b) := by
  refine Met.ofW (cc := cc) (maxL := maxL) (ret := some .boolean) hy hw ?_
  intro p e s m args below meth c s₁ B hml hv
  obtain ⟨rfl, hP, hK⟩ := hv
  rw [lg_entry_eq]
  exact body p e s m av.toArray below meth c _ B.exec B.bytes hml (findClass_of_methodNamed B.named) (atoms_spec (ws := ws) B.pre) hP hK
    (fun pc ls v h hdg => W.zret B.exec B.bytes B.returns (bI_narrow_of h) (fun t ht _ => ⟨v, rfl, h, ht⟩) (fun _ h => nomatch h) hdg B.notSynchronized) _ (lv_entry av hn)
/-- the body of a writer that answers an int -/
theorem wr_of {l : Launch} {y : MethodName} {ws ws' : List Cond} {fr lo mc ms : Nat} {D : va_G} {y3 : ClassId × ClassId × ClassId} {w : va_W} {av : List Value} {S : Type} {post : Int32 → S → Prop} {w2 : S → va_W} {cc : ByteArray} {maxL : Nat}
    (hy : plainName y.cls = true) (hw : ws = Cond.code y cc maxL (some .int) :: ws') (hn : (lg_sl av).length ≤ maxL)
    (body : ∀ (p : Program) (e : Env) (s : State) (m : MethodId) (args : Array Value) (below : List Frame) (meth : Method) (c : Code) (A : Nat → Prop) (Q : State → Prop), p.tables.exec = Jvm.exec → c.code = cc → c.maxLocals = maxL → s.vm.findClass y.cls = some m.cls → (∀ q ∈ ws, q.before args s = true) → va_P D vwCl w s.heap → va_K D vwCl (ty3 y3) s → va_D A w → (∀ q : Nat, s.heap.size ≤ q → A q) → va_S A s.heap s.heap [] →
      (∀ (pc : Nat) (ls : Array Slot) (H : Heap) (locs : List Loc) (cells slots : Nat) (u : S) (v : Int32), va_P D vwCl (w2 u) H → va_D A (w2 u) → va_S A s.heap H locs → cells ≤ mc → slots ≤ ms → post v u → decode cc pc = .ok (.ireturn, 1) → W p l e (rmO fr mc ms lo) s m args below meth c H locs cells slots Q (F0 m pc ls [.int v])) → ∀ ls : Array Slot, lv_has ls maxL (lv_args 0 av) →
      W p l e (rmO fr mc ms lo) s m args below meth c s.heap [] 0 0 Q (F0 m 0 ls [])) : wrM l y ws fr lo mc ms D y3 w av post w2 := by
  intro sz
  refine Met.ofW (cc := cc) (maxL := maxL) (ret := some .int) hy hw ?_
  intro p e s m args below meth c s₁ B hml hv
  obtain ⟨rfl, hsz, hP, hK, hD0⟩ := hv
  subst hsz
  rw [lg_entry_eq]
  exact body p e s m av.toArray below meth c (va_A w s.heap.size) _ B.exec B.bytes hml (findClass_of_methodNamed B.named) (atoms_spec (ws := ws) B.pre) hP hK hD0.self (fun q h => Or.inr h) va_S.rf
    (fun pc ls H locs cells slots u v h1 h2 h3 h4 h5 h6 hdg => W.widen h4 h5 (W.iret B.exec B.bytes B.returns (fun t ht _ => ⟨⟨v, u, rfl, h6, by rw [ht]; exact h1, h2⟩, h3.F ht⟩) h3.2.2 hdg B.notSynchronized)) _ (lv_entry av hn)
/-- the body of a writer that answers a truth value -/
theorem wz_of {l : Launch} {y : MethodName} {ws ws' : List Cond} {fr lo mc ms : Nat} {D : va_G} {y3 : ClassId × ClassId × ClassId} {w : va_W} {av : List Value} {S : Type} {post : Int32 → S → Prop} {w2 : S → va_W} {cc : ByteArray} {maxL : Nat}
    (hy : plainName y.cls = true) (hw : ws = Cond.code y cc maxL (some .boolean) :: ws') (hn : (lg_sl av).length ≤ maxL)
    (body : ∀ (p : Program) (e : Env) (s : State) (m : MethodId) (args : Array Value) (below : List Frame) (meth : Method) (c : Code) (A : Nat → Prop) (Q : State → Prop), p.tables.exec = Jvm.exec → c.code = cc → c.maxLocals = maxL → s.vm.findClass y.cls = some m.cls → (∀ q ∈ ws, q.before args s = true) → va_P D vwCl w s.heap → va_K D vwCl (ty3 y3) s → va_D A w → (∀ q : Nat, s.heap.size ≤ q → A q) → va_S A s.heap s.heap [] →
      (∀ (pc : Nat) (ls : Array Slot) (H : Heap) (locs : List Loc) (cells slots : Nat) (u : S) (v : Int32) (b : Bool), va_P D vwCl (w2 u) H → va_D A (w2 u) → va_S A s.heap H locs → cells ≤ mc → slots ≤ ms → v = bI b → post (bI b) u → decode cc pc = .ok (.ireturn, 1) → W p l e (rmO fr mc ms lo) s m args below meth c H locs cells slots Q (F0 m pc ls [.int v])) → ∀ ls : Array Slot, lv_has ls maxL (lv_args 0 av) →
      W p l e (rmO fr mc ms lo) s m args below meth c s.heap [] 0 0 Q (F0 m 0 ls [])) : wrM l y ws fr lo mc ms D y3 w av post w2 := by
  intro sz
  refine Met.ofW (cc := cc) (maxL := maxL) (ret := some .boolean) hy hw ?_
  intro p e s m args below meth c s₁ B hml hv
  obtain ⟨rfl, hsz, hP, hK, hD0⟩ := hv
  subst hsz
  rw [lg_entry_eq]
  exact body p e s m av.toArray below meth c (va_A w s.heap.size) _ B.exec B.bytes hml (findClass_of_methodNamed B.named) (atoms_spec (ws := ws) B.pre) hP hK hD0.self (fun q h => Or.inr h) va_S.rf
    (fun pc ls H locs cells slots u v b h1 h2 h3 h4 h5 hv h6 hdg => W.widen h4 h5 (W.zret B.exec B.bytes B.returns (bI_narrow_of hv) (fun t ht _ => ⟨⟨v, u, rfl, by rw [hv]; exact h6, by rw [ht]; exact h1, h2⟩, h3.F ht⟩) h3.2.2 hdg B.notSynchronized)) _ (lv_entry av hn)
/-- the body of a writer without an answer (a constructor too) -/
theorem wv_of {l : Launch} {y : MethodName} {ws ws' : List Cond} {fr lo mc ms : Nat} {D : va_G} {y3 : ClassId × ClassId × ClassId} {w : va_W} {av : List Value} {S : Type} {post : S → Prop} {w2 : S → va_W} {cc : ByteArray} {maxL : Nat}
    (hy : plainName y.cls = true) (hw : ws = Cond.code y cc maxL none :: ws') (hn : (lg_sl av).length ≤ maxL)
    (body : ∀ (p : Program) (e : Env) (s : State) (m : MethodId) (args : Array Value) (below : List Frame) (meth : Method) (c : Code) (A : Nat → Prop) (Q : State → Prop), p.tables.exec = Jvm.exec → c.code = cc → c.maxLocals = maxL → s.vm.findClass y.cls = some m.cls → (∀ q ∈ ws, q.before args s = true) → va_P D vwCl w s.heap → va_K D vwCl (ty3 y3) s → va_D A w → (∀ q : Nat, s.heap.size ≤ q → A q) → va_S A s.heap s.heap [] → meth.name = y.name →
      (∀ (pc : Nat) (ls : Array Slot) (H : Heap) (locs : List Loc) (cells slots : Nat) (u : S), va_P D vwCl (w2 u) H → va_D A (w2 u) → va_S A s.heap H locs → cells ≤ mc → slots ≤ ms → post u → decode cc pc = .ok (.return_, 1) → W p l e (rmO fr mc ms lo) s m args below meth c H locs cells slots Q (F0 m pc ls [])) → ∀ ls : Array Slot, lv_has ls maxL (lv_args 0 av) →
      W p l e (rmO fr mc ms lo) s m args below meth c s.heap [] 0 0 Q (F0 m 0 ls [])) : wvM l y ws fr lo mc ms D y3 w av post w2 := by
  intro sz
  refine Met.ofW (cc := cc) (maxL := maxL) (ret := none) hy hw ?_
  intro p e s m args below meth c s₁ B hml hv
  obtain ⟨rfl, hsz, hP, hK, hD0⟩ := hv
  subst hsz
  rw [lg_entry_eq]
  exact body p e s m av.toArray below meth c (va_A w s.heap.size) _ B.exec B.bytes hml (findClass_of_methodNamed B.named) (atoms_spec (ws := ws) B.pre) hP hK hD0.self (fun q h => Or.inr h) va_S.rf (name_of_methodNamed B.named B.method).1
    (fun pc ls H locs cells slots u h1 h2 h3 h4 h5 h6 hdg => W.widen h4 h5 (W.vret B.exec B.bytes B.returns (fun t ht _ => ⟨⟨u, rfl, h6, by rw [ht]; exact h1, h2⟩, h3.F ht⟩) h3.2.2 hdg B.notSynchronized)) _ (lv_entry av hn)
section CL
variable {p : Program} {l : Launch} {e : Env} {R : Room} {s : State} {m : MethodId} {args : Array Value} {below : List Frame} {meth : Method} {c : Code} {H : Heap} {locs : List Loc} {cells slots : Nat} {Q : State → Prop}
variable {cc : ByteArray} {pc nL : Nat} {ls : Array Slot} {rest st0 : List Value}
/-! calls of readers -/
theorem rd_V {y : MethodName} {ws ws' : List Cond} {fr lo index maxL ci q0 : Nat} {bytes : ByteArray} {ret : Option FieldType} {D : va_G} {y3 : ClassId × ClassId × ClassId} {w w' : va_W} {b : Addr} {As : List Value} {post : Int32 → Prop} {Ts : List Cond} {own C : String} {T : u_T} {N : Nat} {fs : List Value}
    (S : CallFix p m c cc nL s args Ts own) (hM : rdM l y ws fr lo D y3 w' (.ref b :: As) post) (hT : GoodIn Ts (wsV own index C y ws)) (hw : ws = Cond.code y bytes maxL ret :: ws')
    (hd : y.cls = C ∧ y.cls ≠ "java/lang/invoke/MethodHandle" ∧ y.cls ≠ "java/lang/invoke/VarHandle" ∧ (parseMethodDescriptor y.desc).map (fun d => d.parameters.length) = some As.length) (hR : fr + 1 ≤ R.frames ∧ 8 + (maxL + 11) + lo ≤ R.locals)
    (hP : va_P D vwCl w H) (hK : va_K D vwCl (ty3 y3) s) (iw : List Nat) (ew : iw.filterMap (fun i => w[i]?) = w') (hc : vwCl[ci]? = some (C, T, N)) (he : w'[q0]? = some (b, .inr (ci, fs)))
    (hsize : ls.size = nL) (hst : st0 = As.reverse ++ .ref b :: rest) (hW : (rest.map fun v => v.category).sum ≤ 8) (hdg : decode cc pc = .ok (.invokevirtual index, 3)) (hcl : cells ≤ R.cells ∧ slots ≤ R.slots)
    (kk : ∀ r : Int32, post r → W p l e R s m args below meth c H locs cells slots Q (F0 m (pc + 3) ls (.int r :: rest))) : W p l e R s m args below meth c H locs cells slots Q (F0 m pc ls st0) :=
  vp_callSi (W.runV (As := As) (rest := rest) (b := b) (C := C) (n := As.length) S hM (cwV As.length S.2.2.2.2 hT hw rfl rfl hd hR)
    ⟨rd_blind, va_recv hK (hP.sub iw ew) hc he, fun U hU hW2 => ⟨rfl, by rw [hU]; exact hP.sub iw ew, va_K.moved hW2.alike hK⟩⟩ rfl rfl hsize hst (lv_room hW) hdg hcl) kk
theorem rd_S {y : MethodName} {ws ws' : List Cond} {fr lo index maxL : Nat} {bytes : ByteArray} {ret : Option FieldType} {D : va_G} {y3 : ClassId × ClassId × ClassId} {w w' : va_W} {As : List Value} {post : Int32 → Prop} {Ts : List Cond} {own : String}
    (S : CallFix p m c cc nL s args Ts own) (hM : rdM l y ws fr lo D y3 w' As post) (hT : GoodIn Ts (va_wsS own index y ws)) (hw : ws = Cond.code y bytes maxL ret :: ws')
    (hd : y.cls ≠ "java/lang/invoke/MethodHandle" ∧ y.cls ≠ "java/lang/invoke/VarHandle" ∧ (parseMethodDescriptor y.desc).map (fun d => d.parameters.length) = some As.length) (hR : fr + 1 ≤ R.frames ∧ 8 + (maxL + 11) + lo ≤ R.locals)
    (hP : va_P D vwCl w H) (hK : va_K D vwCl (ty3 y3) s) (iw : List Nat) (ew : iw.filterMap (fun i => w[i]?) = w')
    (hsize : ls.size = nL) (hst : st0 = As.reverse ++ rest) (hW : (rest.map fun v => v.category).sum ≤ 8) (hdg : decode cc pc = .ok (.invokestatic index, 3)) (hcl : cells ≤ R.cells ∧ slots ≤ R.slots)
    (kk : ∀ r : Int32, post r → W p l e R s m args below meth c H locs cells slots Q (F0 m (pc + 3) ls (.int r :: rest))) : W p l e R s m args below meth c H locs cells slots Q (F0 m pc ls st0) :=
  vp_callSi (W.runS (As := As) (rest := rest) (n := As.length) S hM (va_cwS As.length S.2.2.2.2 hT hw rfl rfl hd hR)
    ⟨rd_blind, fun U hU hW2 => ⟨rfl, by rw [hU]; exact hP.sub iw ew, va_K.moved hW2.alike hK⟩⟩ rfl rfl hsize hst (lv_room hW) hdg hcl) kk
/-! calls of writers: iw the callee's places, ir the others, ip the new order of 'others, callee's' -/
theorem wr_V {y : MethodName} {ws ws' : List Cond} {fr lo index maxL ci q0 mc ms : Nat} {bytes : ByteArray} {ret : Option FieldType} {D : va_G} {y3 : ClassId × ClassId × ClassId} {w w' wr : va_W} {b : Addr} {As : List Value} {X : Type} {post : Int32 → X → Prop} {w2 w3 : X → va_W} {Ts : List Cond} {own C : String} {T : u_T} {N : Nat} {fs : List Value} {A : Nat → Prop} {H0 : Heap}
    (S : CallFix p m c cc nL s args Ts own) (hM : wrM l y ws fr lo mc ms D y3 w' (.ref b :: As) post w2) (hT : GoodIn Ts (wsV own index C y ws)) (hw : ws = Cond.code y bytes maxL ret :: ws')
    (hd : y.cls = C ∧ y.cls ≠ "java/lang/invoke/MethodHandle" ∧ y.cls ≠ "java/lang/invoke/VarHandle" ∧ (parseMethodDescriptor y.desc).map (fun d => d.parameters.length) = some As.length) (hR : fr + 1 ≤ R.frames ∧ 8 + (maxL + 11) + lo ≤ R.locals)
    (hP : va_P D vwCl w H) (hK : va_K D vwCl (ty3 y3) s) (hD : va_D A w) (hS : va_S A H0 H locs) (hA : ∀ q, H0.size ≤ q → A q) (iw ir : List Nat) (ip : List Nat) (ew : iw.map (fun i => w[i]?) = w'.map some) (er : ir.map (fun i => w[i]?) = wr.map some) (hnw : va_nd iw = true) (hnr : va_nd ir = true) (hdis : ∀ i ∈ ir, i ∉ iw) (ep : ∀ u, ip.map (fun i => (wr ++ w2 u)[i]?) = (w3 u).map some) (hnp : va_nd ip = true)
    (hc : vwCl[ci]? = some (C, T, N)) (he : w'[q0]? = some (b, .inr (ci, fs)))
    (hsize : ls.size = nL) (hst : st0 = As.reverse ++ .ref b :: rest) (hW : (rest.map fun v => v.category).sum ≤ 8) (hdg : decode cc pc = .ok (.invokevirtual index, 3)) (hcl : cells + mc ≤ R.cells ∧ slots + ms ≤ R.slots)
    (kk : ∀ (r : Int32) (u : X) (H1 : Heap) (locs1 : List Loc), post r u → va_P D vwCl (w3 u) H1 → va_D A (w3 u) → va_S A H0 H1 locs1 → W p l e R s m args below meth c H1 locs1 (cells + mc) (slots + ms) Q (F0 m (pc + 3) ls (.int r :: rest))) : W p l e R s m args below meth c H locs cells slots Q (F0 m pc ls st0) := by
  have hPc : va_P D vwCl w' H := fun k q hk => by
    have h1 : (iw.map (fun i => w[i]?))[k]? = some (some q) := by rw [ew, List.getElem?_map, hk]; rfl
    rw [List.getElem?_map] at h1
    cases hi : iw[k]? with
    | none => rw [hi] at h1; cases h1
    | some i => rw [hi] at h1; exact hP i q (Option.some.inj h1)
  have hDc := hD.sub iw hnw ew
  have hFc := va_free (wc := w') hD hS hA iw ew
  refine va_calli (va_runV (As := As) (rest := rest) (b := b) (C := C) (n := As.length) S (hM H.size) (cwV As.length S.2.2.2.2 hT hw rfl rfl hd hR)
    ⟨wr_blind, va_recv hK hPc hc he, fun U hU hW2 => ⟨rfl, by rw [hU], by rw [hU]; exact hPc, va_K.moved hW2.alike hK, hDc.weaken (fun _ _ _ _ => trivial)⟩⟩ rfl rfl hsize hst (lv_room hW) hdg hcl) hS (fun q _ h => hFc q h) hFc (fun r u t H1 locs1 ht hvm hp hB hz hk hS1 => ?_)
  obtain ⟨hP1, hD1⟩ := hB
  rw [ht] at hP1
  obtain ⟨hPj, hDj⟩ := va_join (wr := wr) (w1 := w2 u) hP hD iw ir ew er hnr hdis hk hFc hP1 hD1
  refine kk r u H1 locs1 hp (fun k q hq => ?_) (hDj.sub ip hnp (ep u)) hS1
  have h1 : (ip.map (fun i => (wr ++ w2 u)[i]?))[k]? = some (some q) := by rw [ep u, List.getElem?_map, hq]; rfl
  rw [List.getElem?_map] at h1
  cases hi : ip[k]? with
  | none => rw [hi] at h1; cases h1
  | some i => rw [hi] at h1; exact hPj i q (Option.some.inj h1)
theorem wv_V {y : MethodName} {ws ws' : List Cond} {fr lo index maxL ci q0 mc ms : Nat} {bytes : ByteArray} {D : va_G} {y3 : ClassId × ClassId × ClassId} {w w' wr : va_W} {b : Addr} {As : List Value} {X : Type} {post : X → Prop} {w2 w3 : X → va_W} {Ts : List Cond} {own C : String} {T : u_T} {N : Nat} {fs : List Value} {A : Nat → Prop} {H0 : Heap}
    (S : CallFix p m c cc nL s args Ts own) (hM : wvM l y ws fr lo mc ms D y3 w' (.ref b :: As) post w2) (hT : GoodIn Ts (wsV own index C y ws)) (hw : ws = Cond.code y bytes maxL none :: ws')
    (hd : y.cls = C ∧ y.cls ≠ "java/lang/invoke/MethodHandle" ∧ y.cls ≠ "java/lang/invoke/VarHandle" ∧ (parseMethodDescriptor y.desc).map (fun d => d.parameters.length) = some As.length) (hR : fr + 1 ≤ R.frames ∧ 8 + (maxL + 11) + lo ≤ R.locals)
    (hP : va_P D vwCl w H) (hK : va_K D vwCl (ty3 y3) s) (hD : va_D A w) (hS : va_S A H0 H locs) (hA : ∀ q, H0.size ≤ q → A q) (iw ir : List Nat) (ip : List Nat) (ew : iw.map (fun i => w[i]?) = w'.map some) (er : ir.map (fun i => w[i]?) = wr.map some) (hnw : va_nd iw = true) (hnr : va_nd ir = true) (hdis : ∀ i ∈ ir, i ∉ iw) (ep : ∀ u, ip.map (fun i => (wr ++ w2 u)[i]?) = (w3 u).map some) (hnp : va_nd ip = true)
    (hc : vwCl[ci]? = some (C, T, N)) (he : w'[q0]? = some (b, .inr (ci, fs)))
    (hsize : ls.size = nL) (hst : st0 = As.reverse ++ .ref b :: rest) (hW : (rest.map fun v => v.category).sum ≤ 8) (hdg : decode cc pc = .ok (.invokevirtual index, 3)) (hcl : cells + mc ≤ R.cells ∧ slots + ms ≤ R.slots)
    (kk : ∀ (u : X) (H1 : Heap) (locs1 : List Loc), post u → va_P D vwCl (w3 u) H1 → va_D A (w3 u) → va_S A H0 H1 locs1 → W p l e R s m args below meth c H1 locs1 (cells + mc) (slots + ms) Q (F0 m (pc + 3) ls rest)) : W p l e R s m args below meth c H locs cells slots Q (F0 m pc ls st0) := by
  have hPc : va_P D vwCl w' H := fun k q hk => by
    have h1 : (iw.map (fun i => w[i]?))[k]? = some (some q) := by rw [ew, List.getElem?_map, hk]; rfl
    rw [List.getElem?_map] at h1
    cases hi : iw[k]? with
    | none => rw [hi] at h1; cases h1
    | some i => rw [hi] at h1; exact hP i q (Option.some.inj h1)
  have hDc := hD.sub iw hnw ew
  have hFc := va_free (wc := w') hD hS hA iw ew
  refine va_callv (va_runV (As := As) (rest := rest) (b := b) (C := C) (n := As.length) S (hM H.size) (cwV As.length S.2.2.2.2 hT hw rfl rfl hd hR)
    ⟨wr_blind, va_recv hK hPc hc he, fun U hU hW2 => ⟨rfl, by rw [hU], by rw [hU]; exact hPc, va_K.moved hW2.alike hK, hDc.weaken (fun _ _ _ _ => trivial)⟩⟩ rfl rfl hsize hst (lv_room hW) hdg hcl) hS (fun q _ h => hFc q h) hFc (fun u t H1 locs1 ht hvm hp hB hz hk hS1 => ?_)
  obtain ⟨hP1, hD1⟩ := hB
  rw [ht] at hP1
  obtain ⟨hPj, hDj⟩ := va_join (wr := wr) (w1 := w2 u) hP hD iw ir ew er hnr hdis hk hFc hP1 hD1
  refine kk u H1 locs1 hp (fun k q hq => ?_) (hDj.sub ip hnp (ep u)) hS1
  have h1 : (ip.map (fun i => (wr ++ w2 u)[i]?))[k]? = some (some q) := by rw [ep u, List.getElem?_map, hq]; rfl
  rw [List.getElem?_map] at h1
  cases hi : ip[k]? with
  | none => rw [hi] at h1; cases h1
  | some i => rw [hi] at h1; exact hPj i q (Option.some.inj h1)
/-! branches on truth values -/
theorem lb_if_eq {b : Bool} {off : Int} {tgt : Nat} (hexec : p.tables.exec = Jvm.exec) (hb : c.code = cc) (hdg : decode cc pc = .ok (.ifCond .eq off, 3)) (ht : (pc : Int) + off = (tgt : Int)) (kt : b = false → W p l e R s m args below meth c H locs cells slots Q (F0 m tgt ls rest)) (kf : b = true → W p l e R s m args below meth c H locs cells slots Q (F0 m (pc + 3) ls rest)) : W p l e R s m args below meth c H locs cells slots Q (F0 m pc ls (.int (bI b) :: rest)) :=
  lv_if_eq hexec hb hdg ht (fun h => kt (bI_z.mp h)) (fun h => kf (bI_nz.mp h))
theorem lb_if_ne {b : Bool} {off : Int} {tgt : Nat} (hexec : p.tables.exec = Jvm.exec) (hb : c.code = cc) (hdg : decode cc pc = .ok (.ifCond .ne off, 3)) (ht : (pc : Int) + off = (tgt : Int)) (kt : b = true → W p l e R s m args below meth c H locs cells slots Q (F0 m tgt ls rest)) (kf : b = false → W p l e R s m args below meth c H locs cells slots Q (F0 m (pc + 3) ls rest)) : W p l e R s m args below meth c H locs cells slots Q (F0 m pc ls (.int (bI b) :: rest)) :=
  lv_if_ne hexec hb hdg ht (fun h => kt (bI_nz.mp h)) (fun h => kf (bI_z.mp h))
end CL
end
section
/-! ===== own layer: what the class's answers are, as plain functions ===== -/
def inB (k : Int32) (n : Nat) : Bool := decide (0 ≤ k.toInt ∧ k.toInt < n)
theorem inB_t {k : Int32} {n : Nat} (h0 : ¬ k < 0) (h1 : ¬ nI n ≤ k) (hn : n < 2 ^ 31) : inB k n = true := by
  have e0 : ¬ k.toInt < (0 : Int32).toInt := fun q => h0 (Int32.lt_iff_toInt_lt.mpr q)
  have e1 : ¬ (nI n).toInt ≤ k.toInt := fun q => h1 (Int32.le_iff_toInt_le.mpr q)
  rw [nI_toInt hn] at e1
  have e2 : (0 : Int32).toInt = 0 := rfl
  rw [e2] at e0
  exact decide_eq_true ⟨by omega, by omega⟩
theorem inB_f0 {k : Int32} {n : Nat} (h0 : k < 0) : inB k n = false := by
  have e0 := Int32.lt_iff_toInt_lt.mp h0
  have e2 : (0 : Int32).toInt = 0 := rfl
  rw [e2] at e0
  exact decide_eq_false (fun q => by omega)
theorem inB_f1 {k : Int32} {n : Nat} (h1 : nI n ≤ k) (hn : n < 2 ^ 31) : inB k n = false := by
  have e1 := Int32.le_iff_toInt_le.mp h1
  rw [nI_toInt hn] at e1
  exact decide_eq_false (fun q => by omega)
theorem inB_N {k : Int32} {n : Nat} (h : inB k n = true) (hn : n < 2 ^ 31) : ∃ j : Nat, j < n ∧ k = nI j := vp_in_of (vp_in_iff.mpr (of_decide_eq_true h)) hn
theorem inB_nI {j n : Nat} (hj : j < 2 ^ 31) : inB (nI j) n = decide (j < n) := by
  unfold inB
  rw [nI_toInt hj]
  by_cases h : j < n
  · rw [decide_eq_true h, decide_eq_true ⟨by omega, by omega⟩]
  · rw [decide_eq_false h, decide_eq_false (fun q => by omega)]
theorem nI_m1 {a : Nat} (h : 0 < a) : nI a + Int32.ofInt (-1) = nI (a - 1) := by
  obtain ⟨b, rfl⟩ : ∃ b, a = b + 1 := ⟨a - 1, by omega⟩
  rw [show b + 1 - 1 = b from rfl]
  exact pk_m1 b
theorem nI_ne_m1 {j : Nat} (hj : j < 2 ^ 31) : ¬ nI j = -1 := fun q => by
  have h := congrArg Int32.toInt q
  rw [nI_toInt hj] at h
  have e2 : (-1 : Int32).toInt = -1 := rfl
  omega
/-- the parent of a kind, -1 for none: an earlier kind -/
def parOK (par : Nat → Int32) (nk : Nat) : Prop := ∀ i : Nat, i < nk → par i = -1 ∨ ∃ q : Nat, q < i ∧ par i = nI q
def parO (par : Nat → Int32) (nk : Nat) (k : Int32) : Int32 := if inB k nk = true then par k.toNatClampNeg else -1
theorem parO_N {par : Nat → Int32} {nk j : Nat} (hj : j < nk) (hn : nk < 2 ^ 31) : parO par nk (nI j) = par j := by
  unfold parO
  rw [inB_nI (by omega), decide_eq_true hj, if_pos rfl, nI_clamp (by omega)]
/-- whether u leads up to o within f steps -/
def spc (par : Nat → Int32) : Nat → Int32 → Int32 → Bool
  | 0, _, _ => false
  | f + 1, u, o => if u = -1 then false else if u = o then true else spc par f (par u.toNatClampNeg) o
theorem spc_m1 (par : Nat → Int32) (f : Nat) (o : Int32) : spc par f (-1) o = false := by cases f <;> simp [spc]
theorem spc_eq {par : Nat → Int32} {f : Nat} {u o : Int32} (h : ¬ u = -1) (h2 : u = o) : spc par (f + 1) u o = true := by simp [spc, h, h2]; intro h3; exact absurd (h2.trans h3) h
theorem spc_up {par : Nat → Int32} {f : Nat} {u o : Int32} (h : ¬ u = -1) (h2 : ¬ u = o) : spc par (f + 1) u o = spc par f (par u.toNatClampNeg) o := by simp [spc, h, h2]
end
section
/-! begun with the kit family of Int32 by its bits (kit/laws); own rows behind it -/
def bt (x : Int32) (i : Nat) : Bool := x.toBitVec.getLsbD i
theorem b_ext {x y : Int32} (h : ∀ i, i < 32 → bt x i = bt y i) : x = y := Int32.toBitVec_inj.mp (BitVec.eq_of_getLsbD_eq (fun i hi => h i hi))
theorem b_or (x y : Int32) (i : Nat) : bt (x ||| y) i = (bt x i || bt y i) := by unfold bt; rw [Int32.toBitVec_or, BitVec.getLsbD_or]
theorem b_and (x y : Int32) (i : Nat) : bt (x &&& y) i = (bt x i && bt y i) := by unfold bt; rw [Int32.toBitVec_and, BitVec.getLsbD_and]
theorem b_xor (x y : Int32) (i : Nat) : bt (x ^^^ y) i = (bt x i ^^ bt y i) := by unfold bt; rw [Int32.toBitVec_xor, BitVec.getLsbD_xor]
theorem b_big {x : Int32} {i : Nat} (h : 32 ≤ i) : bt x i = false := BitVec.getLsbD_of_ge _ _ h
theorem b_255 (i : Nat) : bt 255 i = decide (i < 8) := by
  rcases Nat.lt_or_ge i 32 with h | h
  · exact (by decide +kernel : ∀ i, i < 32 → bt 255 i = decide (i < 8)) i h
  · rw [b_big h, decide_eq_false (by omega)]
theorem b_65535 (i : Nat) : bt 65535 i = decide (i < 16) := by
  rcases Nat.lt_or_ge i 32 with h | h
  · exact (by decide +kernel : ∀ i, i < 32 → bt 65535 i = decide (i < 16)) i h
  · rw [b_big h, decide_eq_false (by omega)]
theorem b_m1 : ∀ i, i < 32 → bt (-1) i = true := by decide +kernel
theorem b_0 (i : Nat) : bt 0 i = false := BitVec.getLsbD_zero
theorem s_l : ∀ n, n < 32 → ((nI n &&& 31).toBitVec.smod 32).toNat = n := by decide +kernel
theorem s_u : ∀ n, n < 32 → (((nI n).toUInt32 &&& Int32.toUInt32 31).toBitVec % 32).toNat = n := by decide +kernel
theorem b_shl (n : Nat) (hn : n < 32) (x : Int32) {i : Nat} (hi : i < 32) : bt (x <<< (nI n &&& 31)) i = (decide (n ≤ i) && bt x (i - n)) := by
  unfold bt
  rw [Int32.toBitVec_shiftLeft]
  show (x.toBitVec <<< ((nI n &&& 31).toBitVec.smod 32).toNat).getLsbD i = _
  rw [s_l n hn, BitVec.getLsbD_shiftLeft]
  rcases Nat.lt_or_ge i n with h | h
  · simp [h, Nat.not_le.mpr h]
  · simp [hi, h, Nat.not_lt.mpr h]
theorem b_ushr (n : Nat) (hn : n < 32) (x : Int32) (i : Nat) : bt ((x.toUInt32 >>> ((nI n).toUInt32 &&& Int32.toUInt32 31)).toInt32) i = bt x (n + i) := by
  show (x.toUInt32 >>> ((nI n).toUInt32 &&& Int32.toUInt32 31)).toBitVec.getLsbD i = x.toUInt32.toBitVec.getLsbD (n + i)
  rw [UInt32.toBitVec_shiftRight]
  show (x.toUInt32.toBitVec >>> (((nI n).toUInt32 &&& Int32.toUInt32 31).toBitVec % 32).toNat).getLsbD i = _
  rw [s_u n hn, BitVec.getLsbD_ushiftRight]
theorem b_sshr (n : Nat) (hn : n < 32) (x : Int32) {i : Nat} (hi : i < 32) : bt (x >>> (nI n &&& 31)) i = if n + i < 32 then bt x (n + i) else bt x 31 := by
  unfold bt
  rw [Int32.toBitVec_shiftRight]
  show (x.toBitVec.sshiftRight ((nI n &&& 31).toBitVec.smod 32).toNat).getLsbD i = _
  rw [s_l n hn, BitVec.getLsbD_sshiftRight, BitVec.msb_eq_getLsbD_last]
  simp [hi]
theorem b_shl8 (x : Int32) {i : Nat} (hi : i < 32) : bt (x <<< ((8 : Int32) &&& 31)) i = (decide (8 ≤ i) && bt x (i - 8)) := b_shl 8 (by omega) x hi
theorem b_shl16 (x : Int32) {i : Nat} (hi : i < 32) : bt (x <<< ((16 : Int32) &&& 31)) i = (decide (16 ≤ i) && bt x (i - 16)) := b_shl 16 (by omega) x hi
theorem b_shl24 (x : Int32) {i : Nat} (hi : i < 32) : bt (x <<< ((24 : Int32) &&& 31)) i = (decide (24 ≤ i) && bt x (i - 24)) := b_shl 24 (by omega) x hi
theorem b_sshr8 (x : Int32) {i : Nat} (hi : i < 32) : bt (x >>> ((8 : Int32) &&& 31)) i = if 8 + i < 32 then bt x (8 + i) else bt x 31 := b_sshr 8 (by omega) x hi
theorem b_one : ∀ k, k < 32 → bt (nI 1) k = decide (k = 0) := by decide +kernel
theorem bt_is {x : Int32} {i : Nat} (hi : i < 32) : ((x >>> (nI i &&& 31)) &&& nI 1) = nI 1 ↔ bt x i = true := by
  constructor
  · intro h
    have h2 := congrArg (fun z => bt z 0) h
    simp only [b_and] at h2
    rw [b_sshr i hi x (by omega), if_pos (by omega), b_one 0 (by omega)] at h2
    simpa using h2
  · intro h
    refine b_ext (fun k hk => ?_)
    rw [b_and, b_one k hk]
    by_cases hk0 : k = 0
    · subst hk0
      rw [b_sshr i hi x (by omega), if_pos (by omega), Nat.add_zero, h]
      rfl
    · rw [decide_eq_false hk0, Bool.and_false]
theorem bt_t {x : Int32} {i : Nat} (hi : i < 32) (h : ((x >>> (nI i &&& 31)) &&& nI 1) = nI 1) : bt x i = true := (bt_is hi).mp h
theorem bt_f {x : Int32} {i : Nat} (hi : i < 32) (h : ¬ ((x >>> (nI i &&& 31)) &&& nI 1) = nI 1) : bt x i = false := by
  cases hb : bt x i
  · rfl
  · exact absurd ((bt_is hi).mpr hb) h
theorem bt_set (x : Int32) {n i : Nat} (hn : n < 32) (hi : i < 32) : bt (x ||| (nI 1 <<< (nI n &&& 31))) i = (bt x i || decide (i = n)) := by
  rw [b_or, b_shl n hn (nI 1) hi, b_one _ (by omega)]
  congr 1
  by_cases h : i = n
  · subst h; simp
  · rw [decide_eq_false h]
    by_cases h2 : n ≤ i
    · rw [decide_eq_false (by omega : ¬ i - n = 0), Bool.and_false]
    · rw [decide_eq_false h2, Bool.false_and]
theorem bt_0 (i : Nat) : bt (nI 0) i = false := b_0 i
end
section
/-! ===== own layer: rows of numbers and of truth values; patterns of names, as plain functions ===== -/
theorem up_s {α : Type} {f : Nat → α} {k : Nat} {v : α} : va_up f k v k = v := by simp [va_up]
theorem up_n {α : Type} {f : Nat → α} {k j : Nat} {v : α} (h : j ≠ k) : va_up f k v j = f j := by simp [va_up, h]
def fN (f : Nat → Nat) : Nat → Int32 := fun q => nI (f q)
def fB (f : Nat → Bool) : Nat → Int32 := fun q => bI (f q)
theorem fN_up (f : Nat → Nat) (k x : Nat) : upd (fN f) k (nI x) = fN (va_up f k x) := by
  funext j
  by_cases h : j = k
  · subst h; rw [pk_us]; unfold fN; rw [up_s]
  · rw [pk_un h]; unfold fN; rw [up_n h]
theorem fB_up (f : Nat → Bool) (k : Nat) (x : Bool) : upd (fB f) k (bI x) = fB (va_up f k x) := by
  funext j
  by_cases h : j = k
  · subst h; rw [pk_us]; unfold fB; rw [up_s]
  · rw [pk_un h]; unfold fB; rw [up_n h]
section LN2
variable {p : Program} {l : Launch} {e : Env} {R : Room} {s : State} {m : MethodId} {args : Array Value} {below : List Frame} {meth : Method} {c : Code} {H : Heap} {locs : List Loc} {cells slots : Nat} {Q : State → Prop}
variable {cc : ByteArray} {pc : Nat} {ls : Array Slot} {rest : List Value}
variable {D : va_G} {cl : List vw_C} {ws : va_W} {tys : List (ClassId × FieldType)} {a : Nat} {A : Nat → Prop} {H0 : Heap}
theorem ln_ialdN (hexec : p.tables.exec = Jvm.exec) (hb : c.code = cc) (hK : va_K D cl tys s) (hP : va_P D cl ws H) (q0 t0 : Nat) {cA : ClassId} {n j : Nat} {f : Nat → Nat} (ha : ws[q0]? = some (a, .inl (cA, n, .inl (fN f)))) (ht : tys[t0]? = some (cA, .int)) (hj : j < n) (hn : n < 2 ^ 31) (hdg : decode cc pc = .ok (.iaload, 1))
    (kk : W p l e R s m args below meth c H locs cells slots Q (F0 m (pc + 1) ls (.int (nI (f j)) :: rest))) : W p l e R s m args below meth c H locs cells slots Q (F0 m pc ls (.int (nI j) :: .ref a :: rest)) :=
  ln_iald hexec hb hK hP q0 t0 ha ht hj hn hdg kk
theorem ln_zaldB (hexec : p.tables.exec = Jvm.exec) (hb : c.code = cc) (hK : va_K D cl tys s) (hP : va_P D cl ws H) (q0 t0 : Nat) {cA : ClassId} {n j : Nat} {f : Nat → Bool} (ha : ws[q0]? = some (a, .inl (cA, n, .inl (fB f)))) (ht : tys[t0]? = some (cA, .boolean)) (hj : j < n) (hn : n < 2 ^ 31) (hdg : decode cc pc = .ok (.baload, 1))
    (kk : W p l e R s m args below meth c H locs cells slots Q (F0 m (pc + 1) ls (.int (bI (f j)) :: rest))) : W p l e R s m args below meth c H locs cells slots Q (F0 m pc ls (.int (nI j) :: .ref a :: rest)) :=
  ln_zald hexec hb hK hP q0 t0 ha ht hj hn hdg kk
theorem ln_iastN (hexec : p.tables.exec = Jvm.exec) (hb : c.code = cc) (hK : va_K D cl tys s) (hP : va_P D cl ws H) (hD : va_D A ws) (hS : va_S A H0 H locs) (q0 t0 : Nat) {cA : ClassId} {n j : Nat} {f : Nat → Nat} (ha : ws[q0]? = some (a, .inl (cA, n, .inl (fN f)))) (ht : tys[t0]? = some (cA, .int)) {x : Nat} (hj : j < n) (hn : n < 2 ^ 31) (hdg : decode cc pc = .ok (.iastore, 1)) (w1 : va_W) (hw : ws.set q0 (a, .inl (cA, n, .inl (fN (va_up f j x)))) = w1)
    (kk : ∀ (H1 : Heap) (locs1 : List Loc), va_P D cl w1 H1 → va_D A w1 → va_S A H0 H1 locs1 → W p l e R s m args below meth c H1 locs1 cells slots Q (F0 m (pc + 1) ls rest)) : W p l e R s m args below meth c H locs cells slots Q (F0 m pc ls (.int (nI x) :: .int (nI j) :: .ref a :: rest)) :=
  ln_iast hexec hb hK hP hD hS q0 t0 ha ht hj hn hdg w1 (by rw [fN_up]; exact hw) kk
theorem ln_zastB {b : Bool} (hexec : p.tables.exec = Jvm.exec) (hb : c.code = cc) (hK : va_K D cl tys s) (hP : va_P D cl ws H) (hD : va_D A ws) (hS : va_S A H0 H locs) (q0 t0 : Nat) {cA : ClassId} {n j : Nat} {f : Nat → Bool} (ha : ws[q0]? = some (a, .inl (cA, n, .inl (fB f)))) (ht : tys[t0]? = some (cA, .boolean)) (hj : j < n) (hn : n < 2 ^ 31) (hdg : decode cc pc = .ok (.bastore, 1)) (w1 : va_W) (hw : ws.set q0 (a, .inl (cA, n, .inl (fB (va_up f j b)))) = w1)
    (kk : ∀ (H1 : Heap) (locs1 : List Loc), va_P D cl w1 H1 → va_D A w1 → va_S A H0 H1 locs1 → W p l e R s m args below meth c H1 locs1 cells slots Q (F0 m (pc + 1) ls rest)) : W p l e R s m args below meth c H locs cells slots Q (F0 m pc ls (.int (bI b) :: .int (nI j) :: .ref a :: rest)) :=
  ln_zast hexec hb hK hP hD hS q0 t0 ha ht (bI_nar b) hj hn hdg w1 (by rw [fB_up]; exact hw) kk
end LN2
def stB (lt : Nat → Int32) (tok : Int32) (i : Nat) : Bool := decide (tok = nI 11) || decide (tok = lt i)
theorem stB_11 {lt : Nat → Int32} {tok : Int32} {i : Nat} (h : tok = nI 11) : stB lt tok i = true := by unfold stB; rw [decide_eq_true h]; rfl
theorem stB_lt {lt : Nat → Int32} {tok : Int32} {i : Nat} (h : tok = lt i) : stB lt tok i = true := by unfold stB; rw [decide_eq_true h, Bool.or_true]
theorem stB_no {lt : Nat → Int32} {tok : Int32} {i : Nat} (h : ¬ tok = nI 11) (h2 : ¬ tok = lt i) : stB lt tok i = false := by unfold stB; rw [decide_eq_false h, decide_eq_false h2]; rfl
def anB (R : Nat → Bool) : Nat → Bool
  | 0 => R 0
  | i + 1 => anB R i || R (i + 1)
theorem anB_iff (R : Nat → Bool) : ∀ i, anB R i = true ↔ ∃ q, q ≤ i ∧ R q = true
  | 0 => ⟨fun h => ⟨0, Nat.le_refl _, h⟩, fun ⟨q, h1, h2⟩ => by rw [Nat.le_zero.mp h1] at h2; exact h2⟩
  | i + 1 => by
    unfold anB
    rw [Bool.or_eq_true, anB_iff R i]
    constructor
    · rintro (⟨q, h1, h2⟩ | h)
      · exact ⟨q, by omega, h2⟩
      · exact ⟨i + 1, Nat.le_refl _, h⟩
    · rintro ⟨q, h1, h2⟩
      by_cases h : q = i + 1
      · subst h; exact Or.inr h2
      · exact Or.inl ⟨q, by omega, h2⟩
theorem anB_congr {R S : Nat → Bool} : ∀ {i : Nat}, (∀ q, q ≤ i → R q = S q) → anB R i = anB S i
  | 0, h => h 0 (Nat.le_refl _)
  | i + 1, h => by unfold anB; rw [anB_congr (fun q hq => h q (by omega)), h (i + 1) (Nat.le_refl _)]
/-- which beginnings of the name stand for one token more -/
def stpB (lt : Nat → Int32) (tok : Int32) (R : Nat → Bool) (i : Nat) : Bool := if tok = nI 10 then anB R i else match i with
  | 0 => false
  | q + 1 => R q && stB lt tok q
theorem stpB_congr {lt : Nat → Int32} {tok : Int32} {R S : Nat → Bool} {i : Nat} (h : ∀ q, q ≤ i → R q = S q) : stpB lt tok R i = stpB lt tok S i := by
  unfold stpB
  by_cases ht : tok = nI 10
  · rw [if_pos ht, if_pos ht, anB_congr h]
  · rw [if_neg ht, if_neg ht]
    cases i with
    | zero => rfl
    | succ q => dsimp only; rw [h q (by omega)]
theorem stpB_ok {lt : Nat → Int32} {tok : Int32} {R : Nat → Bool} {i : Nat} (h : tok = nI 10) : stpB lt tok R i = anB R i := by unfold stpB; rw [if_pos h]
theorem stpB_0 {lt : Nat → Int32} {tok : Int32} {R : Nat → Bool} (h : ¬ tok = nI 10) : stpB lt tok R 0 = false := by unfold stpB; rw [if_neg h]
theorem stpB_s {lt : Nat → Int32} {tok : Int32} {R : Nat → Bool} {q : Nat} (h : ¬ tok = nI 10) : stpB lt tok R (q + 1) = (R q && stB lt tok q) := by unfold stpB; rw [if_neg h]
/-- the beginnings of the name (by their lengths) for which the first k tokens from a place on stand -/
def rchB (lt tk : Nat → Int32) (base : Nat) : Nat → Nat → Bool
  | 0 => fun i => decide (i = 0)
  | k + 1 => stpB lt (tk (base + k)) (rchB lt tk base k)
/-- whether n tokens from the pattern's row on fit the name of nl letters -/
def fitB (lt : Nat → Int32) (nl : Nat) (tk : Nat → Int32) (ln : Nat → Nat) (j : Nat) : Bool := rchB lt tk (j * 8) (ln j) nl
/-- the class's set of beginnings, in the middle of a token: up to q done, a bit for each -/
def raI (lt : Nat → Int32) (tok x a : Int32) (q : Nat) : Prop := (∀ i, i ≤ q → bt a i = stpB lt tok (bt x) i) ∧ ∀ i, q < i → i < 32 → bt a i = (decide (tok = nI 10) && bt x i)
theorem raI_0 {lt : Nat → Int32} {tok x : Int32} : raI lt tok x (if tok = nI 10 then x else nI 0) 0 := by
  by_cases h : tok = nI 10
  · rw [if_pos h]
    refine ⟨fun i hi => ?_, fun i h1 h2 => by rw [decide_eq_true h, Bool.true_and]⟩
    rw [Nat.le_zero.mp hi, stpB_ok h]; rfl
  · rw [if_neg h]
    refine ⟨fun i hi => ?_, fun i h1 h2 => by rw [decide_eq_false h, Bool.false_and]; exact bt_0 i⟩
    rw [Nat.le_zero.mp hi, stpB_0 h]; exact bt_0 0
theorem raI_s {lt : Nat → Int32} {tok x a : Int32} {q : Nat} (hq : q + 1 < 32) (h : raI lt tok x a q) {g : Bool} (hg : g = if tok = nI 10 then bt a q else (bt x q && stB lt tok q)) :
    raI lt tok x (if g = true then a ||| (nI 1 <<< (nI (q + 1) &&& 31)) else a) (q + 1) := by
  have key : ∀ i, i < 32 → bt (if g = true then a ||| (nI 1 <<< (nI (q + 1) &&& 31)) else a) i = (bt a i || (g && decide (i = q + 1))) := by
    intro i hi
    cases g with
    | false => simp
    | true => simp only [if_true, Bool.true_and]; exact bt_set a hq hi
  refine ⟨fun i hi => ?_, fun i h1 h2 => ?_⟩
  · rw [key i (by omega)]
    by_cases hiq : i = q + 1
    · subst hiq
      rw [h.2 (q + 1) (by omega) hq, decide_eq_true (rfl : q + 1 = q + 1), Bool.and_true]
      by_cases ht : tok = nI 10
      · rw [decide_eq_true ht, Bool.true_and, hg, if_pos ht, h.1 q (Nat.le_refl _), stpB_ok ht, stpB_ok ht, Bool.or_comm]
        rfl
      · rw [decide_eq_false ht, Bool.false_and, Bool.false_or, hg, if_neg ht, stpB_s ht]
    · rw [h.1 i (by omega), decide_eq_false hiq, Bool.and_false, Bool.or_false]
  · rw [key i h2, h.2 i (by omega) h2, decide_eq_false (by omega : ¬ i = q + 1), Bool.and_false, Bool.or_false]
/-- the first of the best: a later one comes in only if it is ahead of what stands -/
def bstB (cand : Nat → Bool) (ahd : Nat → Nat → Bool) : Nat → Option Nat
  | 0 => none
  | k + 1 => match bstB cand ahd k with
    | none => if cand k = true then some k else none
    | some b => if (cand k && ahd k b) = true then some k else some b
def oI : Option Nat → Int32
  | none => -1
  | some k => nI k
def ahO (ahd : Nat → Nat → Bool) (k : Nat) : Option Nat → Bool
  | none => true
  | some b => ahd k b
theorem bstB_s (cand : Nat → Bool) (ahd : Nat → Nat → Bool) (k : Nat) : bstB cand ahd (k + 1) = if (cand k && ahO ahd k (bstB cand ahd k)) = true then some k else bstB cand ahd k := by
  unfold ahO
  cases h : bstB cand ahd k <;> simp [bstB, h]
theorem bstB_lt {cand : Nat → Bool} {ahd : Nat → Nat → Bool} : ∀ {k b : Nat}, bstB cand ahd k = some b → b < k ∧ cand b = true
  | 0, b, h => by simp [bstB] at h
  | k + 1, b, h => by
    rw [bstB_s] at h
    by_cases hc : (cand k && ahO ahd k (bstB cand ahd k)) = true
    · rw [if_pos hc] at h
      cases h
      exact ⟨by omega, (Bool.and_eq_true_iff.mp hc).1⟩
    · rw [if_neg hc] at h
      have := bstB_lt h
      exact ⟨by omega, this.2⟩
theorem bstB_yes {cand : Nat → Bool} {ahd : Nat → Nat → Bool} {k : Nat} {o : Option Nat} (h : o = bstB cand ahd k) (h1 : ahO ahd k o = true) (h2 : cand k = true) : some k = bstB cand ahd (k + 1) := by
  rw [bstB_s, ← h, h1, h2]; rfl
theorem bstB_no {cand : Nat → Bool} {ahd : Nat → Nat → Bool} {k : Nat} {o : Option Nat} (h : o = bstB cand ahd k) (h1 : ahO ahd k o = false ∨ cand k = false) : o = bstB cand ahd (k + 1) := by
  rw [bstB_s, ← h]
  rcases h1 with h1 | h1 <;> rw [h1] <;> simp
theorem oI_some {o : Option Nat} (h : ¬ oI o = -1) : ∃ b, o = some b := by
  cases o with
  | none => exact absurd rfl h
  | some b => exact ⟨b, rfl⟩
theorem oI_none {o : Option Nat} (hb : ∀ b, o = some b → b < 2 ^ 31) (h : oI o = -1) : o = none := by
  cases o with
  | none => rfl
  | some b => exact absurd h (nI_ne_m1 (hb b rfl))
/-- which pattern is ahead of which -/
def ahP (wt : Nat → Int32) (ln : Nat → Nat) (k b : Nat) : Bool := if wt k = wt b then decide (ln b < ln k) else decide (wt b < wt k)
/-- whether a pattern's kind is a special one of another, or any kind is meant -/
def isO (par : Nat → Int32) (kp : Nat → Nat) (g : Int32) (j : Nat) : Bool := decide (g = -1) || spc par 14 (nI (kp j)) g
/-- whether a pattern is there, fits, and is of the kind -/
def cnP (par : Nat → Int32) (kp : Nat → Nat) (th : Nat → Bool) (lt : Nat → Int32) (nl : Nat) (tk : Nat → Int32) (ln : Nat → Nat) (g : Int32) (j : Nat) : Bool := th j && (isO par kp g j && fitB lt nl tk ln j)
end
section
theorem hvX1_size : yX1_size.cls = RX1 ∧ yX1_size.cls ≠ "java/lang/invoke/MethodHandle" ∧ yX1_size.cls ≠ "java/lang/invoke/VarHandle" ∧ (parseMethodDescriptor yX1_size.desc).map (fun d => d.parameters.length) = some 0 := by decide +kernel
theorem hvX1_has : yX1_has.cls = RX1 ∧ yX1_has.cls ≠ "java/lang/invoke/MethodHandle" ∧ yX1_has.cls ≠ "java/lang/invoke/VarHandle" ∧ (parseMethodDescriptor yX1_has.desc).map (fun d => d.parameters.length) = some 1 := by decide +kernel
theorem hvX1_isFull : yX1_isFull.cls = RX1 ∧ yX1_isFull.cls ≠ "java/lang/invoke/MethodHandle" ∧ yX1_isFull.cls ≠ "java/lang/invoke/VarHandle" ∧ (parseMethodDescriptor yX1_isFull.desc).map (fun d => d.parameters.length) = some 0 := by decide +kernel
theorem hvX1_add : yX1_add.cls = RX1 ∧ yX1_add.cls ≠ "java/lang/invoke/MethodHandle" ∧ yX1_add.cls ≠ "java/lang/invoke/VarHandle" ∧ (parseMethodDescriptor yX1_add.desc).map (fun d => d.parameters.length) = some 1 := by decide +kernel
theorem hvX1_parentOf : yX1_parentOf.cls = RX1 ∧ yX1_parentOf.cls ≠ "java/lang/invoke/MethodHandle" ∧ yX1_parentOf.cls ≠ "java/lang/invoke/VarHandle" ∧ (parseMethodDescriptor yX1_parentOf.desc).map (fun d => d.parameters.length) = some 1 := by decide +kernel
theorem hvX1_leadsUp : yX1_leadsUp.cls = RX1 ∧ yX1_leadsUp.cls ≠ "java/lang/invoke/MethodHandle" ∧ yX1_leadsUp.cls ≠ "java/lang/invoke/VarHandle" ∧ (parseMethodDescriptor yX1_leadsUp.desc).map (fun d => d.parameters.length) = some 2 := by decide +kernel
set_option maxHeartbeats 4000000 in
set_option maxRecDepth 100000 in
theorem kX1_size (l : Launch) (D : va_G) (y3 : ClassId × ClassId × ClassId) (a0 : Nat) (a1 : Nat) (nk : Nat) : rdM l yX1_size wsX1_size 0 0 D y3 [(a0, .inr (1, [.ref a1, .int (nI nk)]))] [.ref a0] (fun r => r = (nI nk)) := by
  refine rd_of (cc := cX1_size) (maxL := 1) (by decide) rfl (Nat.le_of_ble_eq_true rfl) ?_
  intro p e s m args below meth c Q hx hb hml hown hts hP hK hret ls hl
  replace hl : lv_has ls 1 [(0, .ref a0)] := hl
  have hf15 := hts (.fieldLink RX1 15 "KindGuesser$KindTree" "count" "I") (by decide +kernel)
  have hiX1 : ∀ q ∈ wsX10, q ∈ wsX1_size := by decide +kernel
  refine lv_aload_n hx hb dX1_size_0 rfl (lv_at hl 0 rfl) ?_
  refine va_get (D := D) (ci := 1) (v := .int (nI nk)) (C := RX1) (T := TX1) (N := 2) hx hb hts hiX1 hown hK hP 0 rfl rfl 1 (by decide) hf15 (fun _ h9 => h9) rfl dX1_size_1 ?_
  exact hret 4 ls _ rfl dX1_size_4

set_option maxHeartbeats 4000000 in
set_option maxRecDepth 100000 in
theorem kX1_has (l : Launch) (D : va_G) (y3 : ClassId × ClassId × ClassId) (a0 : Nat) (a1 : Nat) (nk : Nat) (k : Int32) (hk : nk ≤ 14) : rdM l yX1_has wsX1_has 0 0 D y3 [(a0, .inr (1, [.ref a1, .int (nI nk)]))] [.ref a0, .int k] (fun r => r = (bI (inB k nk))) := by
  refine rz_of (cc := cX1_has) (maxL := 2) (by decide) rfl (Nat.le_of_ble_eq_true rfl) ?_
  intro p e s m args below meth c Q hx hb hml hown hts hP hK hret ls hl
  replace hl : lv_has ls 2 [(0, .ref a0), (1, .int k)] := hl
  have hf15 := hts (.fieldLink RX1 15 "KindGuesser$KindTree" "count" "I") (by decide +kernel)
  have hiX1 : ∀ q ∈ wsX10, q ∈ wsX1_has := by decide +kernel
  refine lv_iload_n hx hb dX1_has_0 rfl (lv_at hl 1 rfl) ?_
  refine lv_if_lt (tgt := 16) hx hb dX1_has_1 (by decide) (fun c1 => ?_) (fun c1 => ?_)
  · refine lv_iconst (v := (nI 0)) hx hb dX1_has_16 rfl ?_
    exact hret 17 ls _ (bI_f (by first | exact inB_f0 c1 | exact inB_f1 c9 (by omega))) dX1_has_17
  · refine lv_iload_n hx hb dX1_has_4 rfl (lv_at hl 1 rfl) ?_
    refine lv_aload_n hx hb dX1_has_5 rfl (lv_at hl 0 rfl) ?_
    refine va_get (D := D) (ci := 1) (v := .int (nI nk)) (C := RX1) (T := TX1) (N := 2) hx hb hts hiX1 hown hK hP 0 rfl rfl 1 (by decide) hf15 (fun _ h9 => h9) rfl dX1_has_6 ?_
    refine lv_icmp_ge (tgt := 16) hx hb dX1_has_9 (by decide) (fun c9 => ?_) (fun c9 => ?_)
    · refine lv_iconst (v := (nI 0)) hx hb dX1_has_16 rfl ?_
      exact hret 17 ls _ (bI_f (by first | exact inB_f0 c1 | exact inB_f1 c9 (by omega))) dX1_has_17
    · refine lv_iconst (v := (nI 1)) hx hb dX1_has_12 rfl ?_
      refine lv_goto (tgt := 17) hx hb dX1_has_13 (by decide) ?_
      exact hret 17 ls _ (bI_t (inB_t c1 c9 (by omega))) dX1_has_17

set_option maxHeartbeats 4000000 in
set_option maxRecDepth 100000 in
theorem kX1_isFull (l : Launch) (D : va_G) (y3 : ClassId × ClassId × ClassId) (a0 : Nat) (a1 : Nat) (nk : Nat) (hk : nk ≤ 14) : rdM l yX1_isFull wsX1_isFull 0 0 D y3 [(a0, .inr (1, [.ref a1, .int (nI nk)]))] [.ref a0] (fun r => r = (bI (decide (14 ≤ nk)))) := by
  refine rz_of (cc := cX1_isFull) (maxL := 1) (by decide) rfl (Nat.le_of_ble_eq_true rfl) ?_
  intro p e s m args below meth c Q hx hb hml hown hts hP hK hret ls hl
  replace hl : lv_has ls 1 [(0, .ref a0)] := hl
  have hf15 := hts (.fieldLink RX1 15 "KindGuesser$KindTree" "count" "I") (by decide +kernel)
  have hiX1 : ∀ q ∈ wsX10, q ∈ wsX1_isFull := by decide +kernel
  refine lv_aload_n hx hb dX1_isFull_0 rfl (lv_at hl 0 rfl) ?_
  refine va_get (D := D) (ci := 1) (v := .int (nI nk)) (C := RX1) (T := TX1) (N := 2) hx hb hts hiX1 hown hK hP 0 rfl rfl 1 (by decide) hf15 (fun _ h9 => h9) rfl dX1_isFull_1 ?_
  refine lv_bipush (v := (nI 14)) hx hb dX1_isFull_4 rfl ?_
  refine ln_icmp_lt (tgt := 13) hx hb (by omega) (by omega) dX1_isFull_6 (by decide) (fun c6 => ?_) (fun c6 => ?_)
  · refine lv_iconst (v := (nI 0)) hx hb dX1_isFull_13 rfl ?_
    exact hret 14 ls _ (bI_df (by omega)) dX1_isFull_14
  · refine lv_iconst (v := (nI 1)) hx hb dX1_isFull_9 rfl ?_
    refine lv_goto (tgt := 14) hx hb dX1_isFull_10 (by decide) ?_
    exact hret 14 ls _ (bI_dt (by omega)) dX1_isFull_14

set_option maxHeartbeats 4000000 in
set_option maxRecDepth 100000 in
theorem kX1_add (l : Launch) (D : va_G) (y3 : ClassId × ClassId × ClassId) (a0 : Nat) (a1 : Nat) (nk : Nat) (par : Nat → Int32) (k : Int32) (hk : nk < 14) : wrM l yX1_add wsX1_add 0 0 0 0 D y3 [(a0, .inr (1, [.ref a1, .int (nI nk)])), (a1, .inl (y3.1, 14, .inl par))] [.ref a0, .int k] (fun r (_ : Unit) => r = (nI nk)) (fun (_ : Unit) => [(a0, .inr (1, [.ref a1, .int (nI (nk + 1))])), (a1, .inl (y3.1, 14, .inl (upd par nk k)))]) := by
  refine wr_of (cc := cX1_add) (maxL := 2) (by decide) rfl (Nat.le_of_ble_eq_true rfl) ?_
  intro p e s m args below meth c A Q hx hb hml hown hts hP hK hD hA hS hret ls hl
  replace hl : lv_has ls 2 [(0, .ref a0), (1, .int k)] := hl
  have hf15 := hts (.fieldLink RX1 15 "KindGuesser$KindTree" "count" "I") (by decide +kernel)
  have hf9 := hts (.fieldLink RX1 9 "KindGuesser$KindTree" "parents" "[I") (by decide +kernel)
  have hiX1 : ∀ q ∈ wsX10, q ∈ wsX1_add := by decide +kernel
  refine lv_aload_n hx hb dX1_add_0 rfl (lv_at hl 0 rfl) ?_
  refine va_get (D := D) (ci := 1) (v := .ref a1) (C := RX1) (T := TX1) (N := 2) hx hb hts hiX1 hown hK hP 0 rfl rfl 0 (by decide) hf9 (fun _ h9 => h9) rfl dX1_add_1 ?_
  refine lv_aload_n hx hb dX1_add_4 rfl (lv_at hl 0 rfl) ?_
  refine va_get (D := D) (ci := 1) (v := .int (nI nk)) (C := RX1) (T := TX1) (N := 2) hx hb hts hiX1 hown hK hP 0 rfl rfl 1 (by decide) hf15 (fun _ h9 => h9) rfl dX1_add_5 ?_
  refine lv_iload_n hx hb dX1_add_8 rfl (lv_at hl 1 rfl) ?_
  refine ln_iast hx hb hK hP hD hS 1 0 rfl rfl (by omega) (by decide) dX1_add_9 _ rfl (fun H locs hP hD hS => ?_)
  have hP : va_P D vwCl [(a0, .inr (1, [.ref a1, .int (nI nk)])), (a1, .inl (y3.1, 14, .inl (upd par nk k)))] H := hP
  have hD : va_D A [(a0, .inr (1, [.ref a1, .int (nI nk)])), (a1, .inl (y3.1, 14, .inl (upd par nk k)))] := hD
  refine lv_aload_n hx hb dX1_add_10 rfl (lv_at hl 0 rfl) ?_
  refine lv_dup hx hb dX1_add_11 rfl ?_
  refine va_get (D := D) (ci := 1) (v := .int (nI nk)) (C := RX1) (T := TX1) (N := 2) hx hb hts hiX1 hown hK hP 0 rfl rfl 1 (by decide) hf15 (fun _ h9 => h9) rfl dX1_add_12 ?_
  refine lv_iconst (v := (nI 1)) hx hb dX1_add_15 rfl ?_
  refine ln_iadd (n := nk + 1) hx hb rfl dX1_add_16 ?_
  refine va_put (D := D) (ci := 1) (v := .int (nI (nk + 1))) (ty := .int) (C := RX1) (T := TX1) (N := 2) hx hb hts hiX1 tyX1 tyX1_ok nmX1 hown hK hP hD hS 0 rfl rfl 1 (by decide) hf15 (fun _ h9 => h9) rfl (by decide +kernel) rfl rfl (Nat.le_of_ble_eq_true rfl) dX1_add_17 (fun H locs hP hD hS => ?_)
  have hP : va_P D vwCl [(a0, .inr (1, [.ref a1, .int (nI (nk + 1))])), (a1, .inl (y3.1, 14, .inl (upd par nk k)))] H := hP
  have hD : va_D A [(a0, .inr (1, [.ref a1, .int (nI (nk + 1))])), (a1, .inl (y3.1, 14, .inl (upd par nk k)))] := hD
  refine lv_aload_n hx hb dX1_add_20 rfl (lv_at hl 0 rfl) ?_
  refine va_get (D := D) (ci := 1) (v := .int (nI (nk + 1))) (C := RX1) (T := TX1) (N := 2) hx hb hts hiX1 hown hK hP 0 rfl rfl 1 (by decide) hf15 (fun _ h9 => h9) rfl dX1_add_21 ?_
  refine lv_iconst (v := (nI 1)) hx hb dX1_add_24 rfl ?_
  refine ln_isub (n := nk) hx hb (by omega) (by omega) dX1_add_25 ?_
  exact hret 26 ls H locs _ _ () _ hP hD hS (Nat.le_of_ble_eq_true rfl) (Nat.le_of_ble_eq_true rfl) rfl dX1_add_26

set_option maxHeartbeats 4000000 in
set_option maxRecDepth 100000 in
theorem kX1_parentOf (l : Launch) (D : va_G) (y3 : ClassId × ClassId × ClassId) (a0 : Nat) (a1 : Nat) (nk : Nat) (par : Nat → Int32) (k : Int32) (hk : nk ≤ 14) : rdM l yX1_parentOf wsX1_parentOf 1 21 D y3 [(a0, .inr (1, [.ref a1, .int (nI nk)])), (a1, .inl (y3.1, 14, .inl par))] [.ref a0, .int k] (fun r => r = (parO par nk k)) := by
  refine rd_of (cc := cX1_parentOf) (maxL := 2) (by decide) rfl (Nat.le_of_ble_eq_true rfl) ?_
  intro p e s m args below meth c Q hx hb hml hown hts hP hK hret ls hl
  replace hl : lv_has ls 2 [(0, .ref a0), (1, .int k)] := hl
  have hf9 := hts (.fieldLink RX1 9 "KindGuesser$KindTree" "parents" "[I") (by decide +kernel)
  have hiX1 : ∀ q ∈ wsX10, q ∈ wsX1_parentOf := by decide +kernel
  refine lv_aload_n hx hb dX1_parentOf_0 rfl (lv_at hl 0 rfl) ?_
  refine lv_iload_n hx hb dX1_parentOf_1 rfl (lv_at hl 1 rfl) ?_
  refine rd_V (ci := 1) (q0 := 0) (own := RX1) (As := [.int k]) (rest := []) (bytes := cX1_has) (maxL := 2) ⟨hx, hb, hml, hown, hts⟩ (kX1_has l D y3 a0 a1 nk k (by omega)) gX1_parentOf_X1_has rfl hvX1_has ⟨Nat.le_of_ble_eq_true rfl, Nat.le_of_ble_eq_true rfl⟩ hP hK [0] rfl rfl rfl hl.1 rfl (Nat.le_of_ble_eq_true rfl) dX1_parentOf_2 ⟨Nat.zero_le _, Nat.zero_le _⟩ (fun r1 hr1 => ?_)
  subst hr1
  refine lb_if_eq (tgt := 17) hx hb dX1_parentOf_5 (by decide) (fun c5 => ?_) (fun c5 => ?_)
  · refine lv_iconst (v := (-1)) hx hb dX1_parentOf_17 rfl ?_
    exact hret 18 ls _ (by unfold parO; rw [c5]; rfl) dX1_parentOf_18
  · refine lv_aload_n hx hb dX1_parentOf_8 rfl (lv_at hl 0 rfl) ?_
    refine va_get (D := D) (ci := 1) (v := .ref a1) (C := RX1) (T := TX1) (N := 2) hx hb hts hiX1 hown hK hP 0 rfl rfl 0 (by decide) hf9 (fun _ h9 => h9) rfl dX1_parentOf_9 ?_
    refine lv_iload_n hx hb dX1_parentOf_12 rfl (lv_at hl 1 rfl) ?_
    obtain ⟨j, hj, ej⟩ := inB_N c5 (by omega)
    refine ln_eqi (y := (nI j)) ej ?_
    refine ln_iald hx hb hK hP 1 0 rfl rfl (by omega) (by decide) dX1_parentOf_13 ?_
    refine lv_goto (tgt := 18) hx hb dX1_parentOf_14 (by decide) ?_
    exact hret 18 ls _ (by rw [ej, parO_N hj (by omega)]) dX1_parentOf_18

set_option maxHeartbeats 4000000 in
set_option maxRecDepth 100000 in
theorem kX1_leadsUp (l : Launch) (D : va_G) (y3 : ClassId × ClassId × ClassId) (a0 : Nat) (a1 : Nat) (nk : Nat) (par : Nat → Int32) (j : Nat) (o : Int32) (hk : nk ≤ 14) (hp : parOK par nk) (hj : j < nk) : rdM l yX1_leadsUp wsX1_leadsUp 2 42 D y3 [(a0, .inr (1, [.ref a1, .int (nI nk)])), (a1, .inl (y3.1, 14, .inl par))] [.ref a0, .int (nI j), .int o] (fun r => r = (bI (spc par 14 (nI j) o))) := by
  refine rz_of (cc := cX1_leadsUp) (maxL := 5) (by decide) rfl (Nat.le_of_ble_eq_true rfl) ?_
  intro p e s m args below meth c Q hx hb hml hown hts hP hK hret ls hl
  replace hl : lv_has ls 5 [(0, .ref a0), (1, .int (nI j)), (2, .int o)] := hl
  refine lv_iload_n hx hb dX1_leadsUp_0 rfl (lv_at hl 1 rfl) ?_
  refine lv_istore_n (lv' := [(3, .int (nI j)), (0, .ref a0), (1, .int (nI j)), (2, .int o)]) hx hb dX1_leadsUp_1 rfl hl (by decide) rfl (fun ls hl => ?_)
  refine lv_iconst (v := (nI 0)) hx hb dX1_leadsUp_2 rfl ?_
  refine lv_istore (lv' := [(4, .int (nI 0)), (3, .int (nI j)), (0, .ref a0), (1, .int (nI j)), (2, .int o)]) hx hb dX1_leadsUp_3 hl (by decide) rfl (fun ls hl => ?_)
  have lp5 : ∀ (n1 : Nat) (t : Nat) (u : Int32), 14 - t < n1 → (t ≤ 14) → (u = -1 ∨ ∃ i : Nat, i < nk ∧ u = nI i) → (spc par (14 - t) u o = spc par 14 (nI j) o) → ∀ ls : Array Slot, lv_has ls 5 [(4, .int (nI t)), (3, .int u), (0, .ref a0), (1, .int (nI j)), (2, .int o)] → W p l e (rmO 2 0 0 42) s m args below meth c s.heap [] 0 0 Q (F0 m 5 ls []) := by
    intro n1
    induction n1 with
    | zero => intro t u hm; exact absurd hm (Nat.not_lt_zero _)
    | succ n1 ih5 =>
      intro t u hm5 h1 h2 h3 ls hl
      refine lv_iload hx hb dX1_leadsUp_5 (lv_at hl 0 rfl) ?_
      refine lv_bipush (v := (nI 14)) hx hb dX1_leadsUp_7 rfl ?_
      refine ln_icmp_ge (tgt := 36) hx hb (by omega) (by omega) dX1_leadsUp_9 (by decide) (fun c9 => ?_) (fun c9 => ?_)
      · refine lv_iconst (v := (nI 0)) hx hb dX1_leadsUp_36 rfl ?_
        exact hret 37 ls _ (bI_f (by first | (rw [← h3, c14, spc_m1]; done) | (rw [← h3, show 14 - t = 0 from by omega]; rfl))) dX1_leadsUp_37
      · refine lv_iload_n hx hb dX1_leadsUp_12 rfl (lv_at hl 1 rfl) ?_
        refine lv_iconst (v := (-1)) hx hb dX1_leadsUp_13 rfl ?_
        refine lv_icmp_eq (tgt := 36) hx hb dX1_leadsUp_14 (by decide) (fun c14 => ?_) (fun c14 => ?_)
        · refine lv_iconst (v := (nI 0)) hx hb dX1_leadsUp_36 rfl ?_
          exact hret 37 ls _ (bI_f (by first | (rw [← h3, c14, spc_m1]; done) | (rw [← h3, show 14 - t = 0 from by omega]; rfl))) dX1_leadsUp_37
        · refine lv_iload_n hx hb dX1_leadsUp_17 rfl (lv_at hl 1 rfl) ?_
          refine lv_iload_n hx hb dX1_leadsUp_18 rfl (lv_at hl 4 rfl) ?_
          refine lv_icmp_ne (tgt := 24) hx hb dX1_leadsUp_19 (by decide) (fun c19 => ?_) (fun c19 => ?_)
          · obtain ⟨i, hi, ei⟩ := h2.resolve_left c14
            refine lv_aload_n hx hb dX1_leadsUp_24 rfl (lv_at hl 2 rfl) ?_
            refine lv_iload_n hx hb dX1_leadsUp_25 rfl (lv_at hl 1 rfl) ?_
            refine rd_V (ci := 1) (q0 := 0) (own := RX1) (As := [.int u]) (rest := []) (bytes := cX1_parentOf) (maxL := 2) ⟨hx, hb, hml, hown, hts⟩ (kX1_parentOf l D y3 a0 a1 nk par u (by omega)) gX1_leadsUp_X1_parentOf rfl hvX1_parentOf ⟨Nat.le_of_ble_eq_true rfl, Nat.le_of_ble_eq_true rfl⟩ hP hK [0, 1] rfl rfl rfl hl.1 rfl (Nat.le_of_ble_eq_true rfl) dX1_leadsUp_26 ⟨Nat.zero_le _, Nat.zero_le _⟩ (fun r2 hr2 => ?_)
            subst hr2
            refine lv_istore_n (lv' := [(3, .int (parO par nk u)), (4, .int (nI t)), (0, .ref a0), (1, .int (nI j)), (2, .int o)]) hx hb dX1_leadsUp_29 rfl hl (by decide) rfl (fun ls hl => ?_)
            refine lv_iinc (v := (nI (t + 1))) (lv' := [(4, .int (nI (t + 1))), (3, .int (parO par nk u)), (0, .ref a0), (1, .int (nI j)), (2, .int o)]) hx hb dX1_leadsUp_30 hl (k := 1) rfl (nI_add _ _) (by decide) rfl (fun ls hl => ?_)
            refine lv_goto (tgt := 5) hx hb dX1_leadsUp_33 (by decide) ?_
            exact ih5 (t + 1) (parO par nk u) (by omega) (by omega) (by rw [ei, parO_N hi (by omega)]; exact (hp i hi).imp id (fun ⟨q, hq, e⟩ => ⟨q, by omega, e⟩)) (by rw [ei, parO_N hi (by omega), ← h3, ei, show 14 - t = (14 - (t + 1)) + 1 from by omega, spc_up (by rw [← ei]; exact c14) (by rw [← ei]; exact c19), nI_clamp (by omega)]) _ (lv_sub hl [0, 1, 2, 3, 4] rfl)
          · refine lv_iconst (v := (nI 1)) hx hb dX1_leadsUp_22 rfl ?_
            exact hret 23 ls _ (bI_t (by rw [← h3, show 14 - t = (14 - (t + 1)) + 1 from by omega, spc_eq c14 c19])) dX1_leadsUp_23
  exact lp5 _ 0 (nI j) (Nat.lt_succ_self _) (Nat.zero_le _) (Or.inr ⟨j, hj, rfl⟩) rfl _ (lv_sub hl [0, 1, 2, 3, 4] rfl)
end
section
def hasP (th : Nat → Bool) (np : Nat) (k : Int32) : Bool := inB k np && th k.toNatClampNeg
theorem hasP_N {th : Nat → Bool} {np j : Nat} (hj : j < np) (hn : np < 2 ^ 31) : hasP th np (nI j) = th j := by
  unfold hasP
  rw [inB_nI (by omega), decide_eq_true hj, nI_clamp (by omega), Bool.true_and]
theorem hasP_no {th : Nat → Bool} {np : Nat} {k : Int32} (h : inB k np = false) : hasP th np k = false := by unfold hasP; rw [h]; rfl
theorem hasP_yes {th : Nat → Bool} {np : Nat} {k : Int32} (h : hasP th np k = true) (hn : np < 2 ^ 31) : ∃ j, j < np ∧ k = nI j ∧ th j = true := by
  have h1 := Bool.and_eq_true_iff.mp h
  obtain ⟨j, hj, e⟩ := inB_N h1.1 hn
  exact ⟨j, hj, e, by have h2 := h1.2; rw [e, nI_clamp (by omega)] at h2; exact h2⟩
def kndO (th : Nat → Bool) (np : Nat) (kp : Nat → Nat) (k : Int32) : Int32 := if hasP th np k = true then nI (kp k.toNatClampNeg) else -1
theorem kndO_N {th : Nat → Bool} {np : Nat} {kp : Nat → Nat} {j : Nat} (hj : j < np) (hn : np < 2 ^ 31) : kndO th np kp (nI j) = if th j = true then nI (kp j) else -1 := by
  unfold kndO
  rw [hasP_N hj hn, nI_clamp (by omega)]
theorem ff_no {t a x : Bool} (h : (t && a) = false) : a = false ∨ (t && x) = false := by cases t <;> simp_all
theorem cnP_n1 {par : Nat → Int32} {kp : Nat → Nat} {th : Nat → Bool} {lt : Nat → Int32} {nl : Nat} {tk : Nat → Int32} {ln : Nat → Nat} {g : Int32} {j : Nat} (h : isO par kp g j = false) : cnP par kp th lt nl tk ln g j = false := by unfold cnP; rw [h, Bool.false_and, Bool.and_false]
theorem cnP_n2 {par : Nat → Int32} {kp : Nat → Nat} {th : Nat → Bool} {lt : Nat → Int32} {nl : Nat} {tk : Nat → Int32} {ln : Nat → Nat} {g : Int32} {j : Nat} (h : fitB lt nl tk ln j = false) : cnP par kp th lt nl tk ln g j = false := by unfold cnP; rw [h, Bool.and_false, Bool.and_false]
theorem stpB_z {lt : Nat → Int32} {tok : Int32} {R : Nat → Bool} : stpB lt tok R 0 = (decide (tok = nI 10) && R 0) := by
  by_cases h : tok = nI 10
  · rw [stpB_ok h, decide_eq_true h]; rfl
  · rw [stpB_0 h, decide_eq_false h]; rfl
theorem fl_10 {lt : Nat → Int32} {tok : Int32} {R : Nat → Bool} {c : Nat} (h : tok = nI 10) (h1 : 1 ≤ c) : stpB lt tok R c = (stpB lt tok R (c - 1) || R c) := by
  obtain ⟨q, rfl⟩ : ∃ q, c = q + 1 := ⟨c - 1, by omega⟩
  rw [stpB_ok h, stpB_ok h]; rfl
theorem fl_n {lt : Nat → Int32} {tok : Int32} {R : Nat → Bool} {c : Nat} (h : ¬ tok = nI 10) (h1 : 1 ≤ c) : stpB lt tok R c = (R (c - 1) && stB lt tok (c - 1)) := by
  obtain ⟨q, rfl⟩ : ∃ q, c = q + 1 := ⟨c - 1, by omega⟩
  rw [stpB_s h]; rfl
/-- a line of the table, filled out of the one ahead of it -/
def flP (lt : Nat → Int32) (nl : Nat) (tok : Int32) (tb : Nat → Bool) (t : Nat) (u : Nat → Bool) : Prop := (∀ q : Nat, (q < t * 13 ∨ t * 13 + 13 ≤ q) → u q = tb q) ∧ ∀ i : Nat, i ≤ nl → u (t * 13 + i) = stpB lt tok (fun i => tb (t * 13 - 13 + i)) i
theorem hvX2_isFullOfLetters : yX2_isFullOfLetters.cls = RX2 ∧ yX2_isFullOfLetters.cls ≠ "java/lang/invoke/MethodHandle" ∧ yX2_isFullOfLetters.cls ≠ "java/lang/invoke/VarHandle" ∧ (parseMethodDescriptor yX2_isFullOfLetters.desc).map (fun d => d.parameters.length) = some 0 := by decide +kernel
theorem hvX2_addLetter : yX2_addLetter.cls = RX2 ∧ yX2_addLetter.cls ≠ "java/lang/invoke/MethodHandle" ∧ yX2_addLetter.cls ≠ "java/lang/invoke/VarHandle" ∧ (parseMethodDescriptor yX2_addLetter.desc).map (fun d => d.parameters.length) = some 1 := by decide +kernel
theorem hvX2_clearName : yX2_clearName.cls = RX2 ∧ yX2_clearName.cls ≠ "java/lang/invoke/MethodHandle" ∧ yX2_clearName.cls ≠ "java/lang/invoke/VarHandle" ∧ (parseMethodDescriptor yX2_clearName.desc).map (fun d => d.parameters.length) = some 0 := by decide +kernel
theorem hvX2_hasPattern : yX2_hasPattern.cls = RX2 ∧ yX2_hasPattern.cls ≠ "java/lang/invoke/MethodHandle" ∧ yX2_hasPattern.cls ≠ "java/lang/invoke/VarHandle" ∧ (parseMethodDescriptor yX2_hasPattern.desc).map (fun d => d.parameters.length) = some 1 := by decide +kernel
theorem hvX2_isFullOfPatterns : yX2_isFullOfPatterns.cls = RX2 ∧ yX2_isFullOfPatterns.cls ≠ "java/lang/invoke/MethodHandle" ∧ yX2_isFullOfPatterns.cls ≠ "java/lang/invoke/VarHandle" ∧ (parseMethodDescriptor yX2_isFullOfPatterns.desc).map (fun d => d.parameters.length) = some 0 := by decide +kernel
theorem hvX2_writeToken : yX2_writeToken.cls = RX2 ∧ yX2_writeToken.cls ≠ "java/lang/invoke/MethodHandle" ∧ yX2_writeToken.cls ≠ "java/lang/invoke/VarHandle" ∧ (parseMethodDescriptor yX2_writeToken.desc).map (fun d => d.parameters.length) = some 2 := by decide +kernel
theorem hvX2_addPattern : yX2_addPattern.cls = RX2 ∧ yX2_addPattern.cls ≠ "java/lang/invoke/MethodHandle" ∧ yX2_addPattern.cls ≠ "java/lang/invoke/VarHandle" ∧ (parseMethodDescriptor yX2_addPattern.desc).map (fun d => d.parameters.length) = some 3 := by decide +kernel
theorem hvX2_dropPattern : yX2_dropPattern.cls = RX2 ∧ yX2_dropPattern.cls ≠ "java/lang/invoke/MethodHandle" ∧ yX2_dropPattern.cls ≠ "java/lang/invoke/VarHandle" ∧ (parseMethodDescriptor yX2_dropPattern.desc).map (fun d => d.parameters.length) = some 1 := by decide +kernel
theorem hvX2_kindOf : yX2_kindOf.cls = RX2 ∧ yX2_kindOf.cls ≠ "java/lang/invoke/MethodHandle" ∧ yX2_kindOf.cls ≠ "java/lang/invoke/VarHandle" ∧ (parseMethodDescriptor yX2_kindOf.desc).map (fun d => d.parameters.length) = some 1 := by decide +kernel
theorem hvX2_isAhead : yX2_isAhead.cls = RX2 ∧ yX2_isAhead.cls ≠ "java/lang/invoke/MethodHandle" ∧ yX2_isAhead.cls ≠ "java/lang/invoke/VarHandle" ∧ (parseMethodDescriptor yX2_isAhead.desc).map (fun d => d.parameters.length) = some 2 := by decide +kernel
theorem hvX2_isReached : yX2_isReached.cls ≠ "java/lang/invoke/MethodHandle" ∧ yX2_isReached.cls ≠ "java/lang/invoke/VarHandle" ∧ (parseMethodDescriptor yX2_isReached.desc).map (fun d => d.parameters.length) = some 2 := by decide +kernel
theorem hvX2_standsFor : yX2_standsFor.cls = RX2 ∧ yX2_standsFor.cls ≠ "java/lang/invoke/MethodHandle" ∧ yX2_standsFor.cls ≠ "java/lang/invoke/VarHandle" ∧ (parseMethodDescriptor yX2_standsFor.desc).map (fun d => d.parameters.length) = some 2 := by decide +kernel
theorem hvX2_reachedAfter : yX2_reachedAfter.cls = RX2 ∧ yX2_reachedAfter.cls ≠ "java/lang/invoke/MethodHandle" ∧ yX2_reachedAfter.cls ≠ "java/lang/invoke/VarHandle" ∧ (parseMethodDescriptor yX2_reachedAfter.desc).map (fun d => d.parameters.length) = some 2 := by decide +kernel
theorem hvX2_fitsName : yX2_fitsName.cls = RX2 ∧ yX2_fitsName.cls ≠ "java/lang/invoke/MethodHandle" ∧ yX2_fitsName.cls ≠ "java/lang/invoke/VarHandle" ∧ (parseMethodDescriptor yX2_fitsName.desc).map (fun d => d.parameters.length) = some 1 := by decide +kernel
theorem hvX2_isOf : yX2_isOf.cls = RX2 ∧ yX2_isOf.cls ≠ "java/lang/invoke/MethodHandle" ∧ yX2_isOf.cls ≠ "java/lang/invoke/VarHandle" ∧ (parseMethodDescriptor yX2_isOf.desc).map (fun d => d.parameters.length) = some 3 := by decide +kernel
theorem hvX2_firstFitting : yX2_firstFitting.cls = RX2 ∧ yX2_firstFitting.cls ≠ "java/lang/invoke/MethodHandle" ∧ yX2_firstFitting.cls ≠ "java/lang/invoke/VarHandle" ∧ (parseMethodDescriptor yX2_firstFitting.desc).map (fun d => d.parameters.length) = some 2 := by decide +kernel
theorem hvX2_fillLine : yX2_fillLine.cls = RX2 ∧ yX2_fillLine.cls ≠ "java/lang/invoke/MethodHandle" ∧ yX2_fillLine.cls ≠ "java/lang/invoke/VarHandle" ∧ (parseMethodDescriptor yX2_fillLine.desc).map (fun d => d.parameters.length) = some 2 := by decide +kernel
theorem hvX2_fitsNameByTable : yX2_fitsNameByTable.cls = RX2 ∧ yX2_fitsNameByTable.cls ≠ "java/lang/invoke/MethodHandle" ∧ yX2_fitsNameByTable.cls ≠ "java/lang/invoke/VarHandle" ∧ (parseMethodDescriptor yX2_fitsNameByTable.desc).map (fun d => d.parameters.length) = some 1 := by decide +kernel
set_option maxHeartbeats 4000000 in
set_option maxRecDepth 100000 in
theorem kX2_isFullOfLetters (l : Launch) (D : va_G) (y3 : ClassId × ClassId × ClassId) (b0 : Nat) (b1 : Nat) (b2 : Nat) (b3 : Nat) (b4 : Nat) (b5 : Nat) (b6 : Nat) (b7 : Nat) (nl : Nat) (np : Nat) (nt : Nat) (hnl : nl ≤ 12) : rdM l yX2_isFullOfLetters wsX2_isFullOfLetters 0 0 D y3 [(b0, .inr (2, [.ref b1, .int (nI nl), .ref b2, .ref b3, .ref b4, .ref b5, .ref b6, .int (nI np), .int (nI nt), .ref b7]))] [.ref b0] (fun r => r = (bI (decide (12 ≤ nl)))) := by
  refine rz_of (cc := cX2_isFullOfLetters) (maxL := 1) (by decide) rfl (Nat.le_of_ble_eq_true rfl) ?_
  intro p e s m args below meth c Q hx hb hml hown hts hP hK hret ls hl
  replace hl : lv_has ls 1 [(0, .ref b0)] := hl
  have hf15 := hts (.fieldLink RX2 15 "KindGuesser$NameSide" "letterCount" "I") (by decide +kernel)
  have hiX2 : ∀ q ∈ wsX20, q ∈ wsX2_isFullOfLetters := by decide +kernel
  refine lv_aload_n hx hb dX2_isFullOfLetters_0 rfl (lv_at hl 0 rfl) ?_
  refine va_get (D := D) (ci := 2) (v := .int (nI nl)) (C := RX2) (T := TX2) (N := 10) hx hb hts hiX2 hown hK hP 0 rfl rfl 1 (by decide) hf15 (fun _ h9 => h9) rfl dX2_isFullOfLetters_1 ?_
  refine lv_bipush (v := (nI 12)) hx hb dX2_isFullOfLetters_4 rfl ?_
  refine ln_icmp_lt (tgt := 13) hx hb (by omega) (by omega) dX2_isFullOfLetters_6 (by decide) (fun c6 => ?_) (fun c6 => ?_)
  · refine lv_iconst (v := (nI 0)) hx hb dX2_isFullOfLetters_13 rfl ?_
    exact hret 14 ls _ (bI_df (by omega)) dX2_isFullOfLetters_14
  · refine lv_iconst (v := (nI 1)) hx hb dX2_isFullOfLetters_9 rfl ?_
    refine lv_goto (tgt := 14) hx hb dX2_isFullOfLetters_10 (by decide) ?_
    exact hret 14 ls _ (bI_dt (by omega)) dX2_isFullOfLetters_14

set_option maxHeartbeats 4000000 in
set_option maxRecDepth 100000 in
theorem kX2_addLetter (l : Launch) (D : va_G) (y3 : ClassId × ClassId × ClassId) (b0 : Nat) (b1 : Nat) (b2 : Nat) (b3 : Nat) (b4 : Nat) (b5 : Nat) (b6 : Nat) (b7 : Nat) (nl : Nat) (np : Nat) (nt : Nat) (lt : Nat → Int32) (k : Int32) (hnl : nl < 12) : wrM l yX2_addLetter wsX2_addLetter 0 0 0 0 D y3 [(b0, .inr (2, [.ref b1, .int (nI nl), .ref b2, .ref b3, .ref b4, .ref b5, .ref b6, .int (nI np), .int (nI nt), .ref b7])), (b1, .inl (y3.1, 12, .inl lt))] [.ref b0, .int k] (fun r (_ : Unit) => r = (nI (nl + 1))) (fun (_ : Unit) => [(b0, .inr (2, [.ref b1, .int (nI (nl + 1)), .ref b2, .ref b3, .ref b4, .ref b5, .ref b6, .int (nI np), .int (nI nt), .ref b7])), (b1, .inl (y3.1, 12, .inl (upd lt nl k)))]) := by
  refine wr_of (cc := cX2_addLetter) (maxL := 2) (by decide) rfl (Nat.le_of_ble_eq_true rfl) ?_
  intro p e s m args below meth c A Q hx hb hml hown hts hP hK hD hA hS hret ls hl
  replace hl : lv_has ls 2 [(0, .ref b0), (1, .int k)] := hl
  have hf15 := hts (.fieldLink RX2 15 "KindGuesser$NameSide" "letterCount" "I") (by decide +kernel)
  have hf9 := hts (.fieldLink RX2 9 "KindGuesser$NameSide" "letters" "[I") (by decide +kernel)
  have hiX2 : ∀ q ∈ wsX20, q ∈ wsX2_addLetter := by decide +kernel
  refine lv_aload_n hx hb dX2_addLetter_0 rfl (lv_at hl 0 rfl) ?_
  refine va_get (D := D) (ci := 2) (v := .ref b1) (C := RX2) (T := TX2) (N := 10) hx hb hts hiX2 hown hK hP 0 rfl rfl 0 (by decide) hf9 (fun _ h9 => h9) rfl dX2_addLetter_1 ?_
  refine lv_aload_n hx hb dX2_addLetter_4 rfl (lv_at hl 0 rfl) ?_
  refine va_get (D := D) (ci := 2) (v := .int (nI nl)) (C := RX2) (T := TX2) (N := 10) hx hb hts hiX2 hown hK hP 0 rfl rfl 1 (by decide) hf15 (fun _ h9 => h9) rfl dX2_addLetter_5 ?_
  refine lv_iload_n hx hb dX2_addLetter_8 rfl (lv_at hl 1 rfl) ?_
  refine ln_iast hx hb hK hP hD hS 1 0 rfl rfl (by omega) (by decide) dX2_addLetter_9 _ rfl (fun H locs hP hD hS => ?_)
  have hP : va_P D vwCl [(b0, .inr (2, [.ref b1, .int (nI nl), .ref b2, .ref b3, .ref b4, .ref b5, .ref b6, .int (nI np), .int (nI nt), .ref b7])), (b1, .inl (y3.1, 12, .inl (upd lt nl k)))] H := hP
  have hD : va_D A [(b0, .inr (2, [.ref b1, .int (nI nl), .ref b2, .ref b3, .ref b4, .ref b5, .ref b6, .int (nI np), .int (nI nt), .ref b7])), (b1, .inl (y3.1, 12, .inl (upd lt nl k)))] := hD
  refine lv_aload_n hx hb dX2_addLetter_10 rfl (lv_at hl 0 rfl) ?_
  refine lv_dup hx hb dX2_addLetter_11 rfl ?_
  refine va_get (D := D) (ci := 2) (v := .int (nI nl)) (C := RX2) (T := TX2) (N := 10) hx hb hts hiX2 hown hK hP 0 rfl rfl 1 (by decide) hf15 (fun _ h9 => h9) rfl dX2_addLetter_12 ?_
  refine lv_iconst (v := (nI 1)) hx hb dX2_addLetter_15 rfl ?_
  refine ln_iadd (n := nl + 1) hx hb rfl dX2_addLetter_16 ?_
  refine va_put (D := D) (ci := 2) (v := .int (nI (nl + 1))) (ty := .int) (C := RX2) (T := TX2) (N := 10) hx hb hts hiX2 tyX2 tyX2_ok nmX2 hown hK hP hD hS 0 rfl rfl 1 (by decide) hf15 (fun _ h9 => h9) rfl (by decide +kernel) rfl rfl (Nat.le_of_ble_eq_true rfl) dX2_addLetter_17 (fun H locs hP hD hS => ?_)
  have hP : va_P D vwCl [(b0, .inr (2, [.ref b1, .int (nI (nl + 1)), .ref b2, .ref b3, .ref b4, .ref b5, .ref b6, .int (nI np), .int (nI nt), .ref b7])), (b1, .inl (y3.1, 12, .inl (upd lt nl k)))] H := hP
  have hD : va_D A [(b0, .inr (2, [.ref b1, .int (nI (nl + 1)), .ref b2, .ref b3, .ref b4, .ref b5, .ref b6, .int (nI np), .int (nI nt), .ref b7])), (b1, .inl (y3.1, 12, .inl (upd lt nl k)))] := hD
  refine lv_aload_n hx hb dX2_addLetter_20 rfl (lv_at hl 0 rfl) ?_
  refine va_get (D := D) (ci := 2) (v := .int (nI (nl + 1))) (C := RX2) (T := TX2) (N := 10) hx hb hts hiX2 hown hK hP 0 rfl rfl 1 (by decide) hf15 (fun _ h9 => h9) rfl dX2_addLetter_21 ?_
  exact hret 24 ls H locs _ _ () _ hP hD hS (Nat.le_of_ble_eq_true rfl) (Nat.le_of_ble_eq_true rfl) rfl dX2_addLetter_24

set_option maxHeartbeats 4000000 in
set_option maxRecDepth 100000 in
theorem kX2_clearName (l : Launch) (D : va_G) (y3 : ClassId × ClassId × ClassId) (b0 : Nat) (b1 : Nat) (b2 : Nat) (b3 : Nat) (b4 : Nat) (b5 : Nat) (b6 : Nat) (b7 : Nat) (nl : Nat) (np : Nat) (nt : Nat) : wrM l yX2_clearName wsX2_clearName 0 0 0 0 D y3 [(b0, .inr (2, [.ref b1, .int (nI nl), .ref b2, .ref b3, .ref b4, .ref b5, .ref b6, .int (nI np), .int (nI nt), .ref b7]))] [.ref b0] (fun r (_ : Unit) => r = (nI nl)) (fun (_ : Unit) => [(b0, .inr (2, [.ref b1, .int (nI 0), .ref b2, .ref b3, .ref b4, .ref b5, .ref b6, .int (nI np), .int (nI nt), .ref b7]))]) := by
  refine wr_of (cc := cX2_clearName) (maxL := 2) (by decide) rfl (Nat.le_of_ble_eq_true rfl) ?_
  intro p e s m args below meth c A Q hx hb hml hown hts hP hK hD hA hS hret ls hl
  replace hl : lv_has ls 2 [(0, .ref b0)] := hl
  have hf15 := hts (.fieldLink RX2 15 "KindGuesser$NameSide" "letterCount" "I") (by decide +kernel)
  have hiX2 : ∀ q ∈ wsX20, q ∈ wsX2_clearName := by decide +kernel
  refine lv_aload_n hx hb dX2_clearName_0 rfl (lv_at hl 0 rfl) ?_
  refine va_get (D := D) (ci := 2) (v := .int (nI nl)) (C := RX2) (T := TX2) (N := 10) hx hb hts hiX2 hown hK hP 0 rfl rfl 1 (by decide) hf15 (fun _ h9 => h9) rfl dX2_clearName_1 ?_
  refine lv_istore_n (lv' := [(1, .int (nI nl)), (0, .ref b0)]) hx hb dX2_clearName_4 rfl hl (by decide) rfl (fun ls hl => ?_)
  refine lv_aload_n hx hb dX2_clearName_5 rfl (lv_at hl 1 rfl) ?_
  refine lv_iconst (v := (nI 0)) hx hb dX2_clearName_6 rfl ?_
  refine va_put (D := D) (ci := 2) (v := .int (nI 0)) (ty := .int) (C := RX2) (T := TX2) (N := 10) hx hb hts hiX2 tyX2 tyX2_ok nmX2 hown hK hP hD hS 0 rfl rfl 1 (by decide) hf15 (fun _ h9 => h9) rfl (by decide +kernel) rfl rfl (Nat.le_of_ble_eq_true rfl) dX2_clearName_7 (fun H locs hP hD hS => ?_)
  have hP : va_P D vwCl [(b0, .inr (2, [.ref b1, .int (nI 0), .ref b2, .ref b3, .ref b4, .ref b5, .ref b6, .int (nI np), .int (nI nt), .ref b7]))] H := hP
  have hD : va_D A [(b0, .inr (2, [.ref b1, .int (nI 0), .ref b2, .ref b3, .ref b4, .ref b5, .ref b6, .int (nI np), .int (nI nt), .ref b7]))] := hD
  refine lv_iload_n hx hb dX2_clearName_10 rfl (lv_at hl 0 rfl) ?_
  exact hret 11 ls H locs _ _ () _ hP hD hS (Nat.le_of_ble_eq_true rfl) (Nat.le_of_ble_eq_true rfl) rfl dX2_clearName_11

set_option maxHeartbeats 4000000 in
set_option maxRecDepth 100000 in
theorem kX2_hasPattern (l : Launch) (D : va_G) (y3 : ClassId × ClassId × ClassId) (b0 : Nat) (b1 : Nat) (b2 : Nat) (b3 : Nat) (b4 : Nat) (b5 : Nat) (b6 : Nat) (b7 : Nat) (nl : Nat) (np : Nat) (nt : Nat) (th : Nat → Bool) (k : Int32) (hnp : np ≤ 20) : rdM l yX2_hasPattern wsX2_hasPattern 0 0 D y3 [(b0, .inr (2, [.ref b1, .int (nI nl), .ref b2, .ref b3, .ref b4, .ref b5, .ref b6, .int (nI np), .int (nI nt), .ref b7])), (b5, .inl (y3.2.1, 20, .inl (fB th)))] [.ref b0, .int k] (fun r => r = (bI (hasP th np k))) := by
  refine rz_of (cc := cX2_hasPattern) (maxL := 2) (by decide) rfl (Nat.le_of_ble_eq_true rfl) ?_
  intro p e s m args below meth c Q hx hb hml hown hts hP hK hret ls hl
  replace hl : lv_has ls 2 [(0, .ref b0), (1, .int k)] := hl
  have hf28 := hts (.fieldLink RX2 28 "KindGuesser$NameSide" "there" "[Z") (by decide +kernel)
  have hf35 := hts (.fieldLink RX2 35 "KindGuesser$NameSide" "patternCount" "I") (by decide +kernel)
  have hiX2 : ∀ q ∈ wsX20, q ∈ wsX2_hasPattern := by decide +kernel
  refine lv_iload_n hx hb dX2_hasPattern_0 rfl (lv_at hl 1 rfl) ?_
  refine lv_if_lt (tgt := 25) hx hb dX2_hasPattern_1 (by decide) (fun c1 => ?_) (fun c1 => ?_)
  · refine lv_iconst (v := (nI 0)) hx hb dX2_hasPattern_25 rfl ?_
    exact hret 26 ls _ (bI_f (by first | exact hasP_no (inB_f0 c1) | exact hasP_no (inB_f1 c9 (by omega)) | (rw [ej, hasP_N hj (by omega)]; exact c18))) dX2_hasPattern_26
  · refine lv_iload_n hx hb dX2_hasPattern_4 rfl (lv_at hl 1 rfl) ?_
    refine lv_aload_n hx hb dX2_hasPattern_5 rfl (lv_at hl 0 rfl) ?_
    refine va_get (D := D) (ci := 2) (v := .int (nI np)) (C := RX2) (T := TX2) (N := 10) hx hb hts hiX2 hown hK hP 0 rfl rfl 7 (by decide) hf35 (fun _ h9 => h9) rfl dX2_hasPattern_6 ?_
    refine lv_icmp_ge (tgt := 25) hx hb dX2_hasPattern_9 (by decide) (fun c9 => ?_) (fun c9 => ?_)
    · refine lv_iconst (v := (nI 0)) hx hb dX2_hasPattern_25 rfl ?_
      exact hret 26 ls _ (bI_f (by first | exact hasP_no (inB_f0 c1) | exact hasP_no (inB_f1 c9 (by omega)) | (rw [ej, hasP_N hj (by omega)]; exact c18))) dX2_hasPattern_26
    · refine lv_aload_n hx hb dX2_hasPattern_12 rfl (lv_at hl 0 rfl) ?_
      refine va_get (D := D) (ci := 2) (v := .ref b5) (C := RX2) (T := TX2) (N := 10) hx hb hts hiX2 hown hK hP 0 rfl rfl 5 (by decide) hf28 (fun _ h9 => h9) rfl dX2_hasPattern_13 ?_
      refine lv_iload_n hx hb dX2_hasPattern_16 rfl (lv_at hl 1 rfl) ?_
      obtain ⟨j, hj, ej⟩ := inB_N (inB_t c1 c9 (by omega)) (by omega)
      refine ln_eqi (y := (nI j)) ej ?_
      refine ln_zaldB hx hb hK hP 1 1 rfl rfl (by omega) (by decide) dX2_hasPattern_17 ?_
      refine lb_if_eq (tgt := 25) hx hb dX2_hasPattern_18 (by decide) (fun c18 => ?_) (fun c18 => ?_)
      · refine lv_iconst (v := (nI 0)) hx hb dX2_hasPattern_25 rfl ?_
        exact hret 26 ls _ (bI_f (by first | exact hasP_no (inB_f0 c1) | exact hasP_no (inB_f1 c9 (by omega)) | (rw [ej, hasP_N hj (by omega)]; exact c18))) dX2_hasPattern_26
      · refine lv_iconst (v := (nI 1)) hx hb dX2_hasPattern_21 rfl ?_
        refine lv_goto (tgt := 26) hx hb dX2_hasPattern_22 (by decide) ?_
        exact hret 26 ls _ (bI_t (by rw [ej, hasP_N hj (by omega)]; exact c18)) dX2_hasPattern_26

set_option maxHeartbeats 4000000 in
set_option maxRecDepth 100000 in
theorem kX2_isFullOfPatterns (l : Launch) (D : va_G) (y3 : ClassId × ClassId × ClassId) (b0 : Nat) (b1 : Nat) (b2 : Nat) (b3 : Nat) (b4 : Nat) (b5 : Nat) (b6 : Nat) (b7 : Nat) (nl : Nat) (np : Nat) (nt : Nat) (hnp : np ≤ 20) : rdM l yX2_isFullOfPatterns wsX2_isFullOfPatterns 0 0 D y3 [(b0, .inr (2, [.ref b1, .int (nI nl), .ref b2, .ref b3, .ref b4, .ref b5, .ref b6, .int (nI np), .int (nI nt), .ref b7]))] [.ref b0] (fun r => r = (bI (decide (20 ≤ np)))) := by
  refine rz_of (cc := cX2_isFullOfPatterns) (maxL := 1) (by decide) rfl (Nat.le_of_ble_eq_true rfl) ?_
  intro p e s m args below meth c Q hx hb hml hown hts hP hK hret ls hl
  replace hl : lv_has ls 1 [(0, .ref b0)] := hl
  have hf35 := hts (.fieldLink RX2 35 "KindGuesser$NameSide" "patternCount" "I") (by decide +kernel)
  have hiX2 : ∀ q ∈ wsX20, q ∈ wsX2_isFullOfPatterns := by decide +kernel
  refine lv_aload_n hx hb dX2_isFullOfPatterns_0 rfl (lv_at hl 0 rfl) ?_
  refine va_get (D := D) (ci := 2) (v := .int (nI np)) (C := RX2) (T := TX2) (N := 10) hx hb hts hiX2 hown hK hP 0 rfl rfl 7 (by decide) hf35 (fun _ h9 => h9) rfl dX2_isFullOfPatterns_1 ?_
  refine lv_bipush (v := (nI 20)) hx hb dX2_isFullOfPatterns_4 rfl ?_
  refine ln_icmp_lt (tgt := 13) hx hb (by omega) (by omega) dX2_isFullOfPatterns_6 (by decide) (fun c6 => ?_) (fun c6 => ?_)
  · refine lv_iconst (v := (nI 0)) hx hb dX2_isFullOfPatterns_13 rfl ?_
    exact hret 14 ls _ (bI_df (by omega)) dX2_isFullOfPatterns_14
  · refine lv_iconst (v := (nI 1)) hx hb dX2_isFullOfPatterns_9 rfl ?_
    refine lv_goto (tgt := 14) hx hb dX2_isFullOfPatterns_10 (by decide) ?_
    exact hret 14 ls _ (bI_dt (by omega)) dX2_isFullOfPatterns_14

set_option maxHeartbeats 4000000 in
set_option maxRecDepth 100000 in
theorem kX2_writeToken (l : Launch) (D : va_G) (y3 : ClassId × ClassId × ClassId) (b0 : Nat) (b1 : Nat) (b2 : Nat) (b3 : Nat) (b4 : Nat) (b5 : Nat) (b6 : Nat) (b7 : Nat) (nl : Nat) (np : Nat) (nt : Nat) (tk : Nat → Int32) (pl : Nat) (k : Int32) (hnp : np < 20) (hpl : pl < 8) : wvM l yX2_writeToken wsX2_writeToken 0 0 0 0 D y3 [(b0, .inr (2, [.ref b1, .int (nI nl), .ref b2, .ref b3, .ref b4, .ref b5, .ref b6, .int (nI np), .int (nI nt), .ref b7])), (b6, .inl (y3.1, 160, .inl tk))] [.ref b0, .int (nI pl), .int k] (fun (_ : Unit) => True) (fun (_ : Unit) => [(b0, .inr (2, [.ref b1, .int (nI nl), .ref b2, .ref b3, .ref b4, .ref b5, .ref b6, .int (nI np), .int (nI nt), .ref b7])), (b6, .inl (y3.1, 160, .inl (upd tk ((np * 8) + pl) k)))]) := by
  refine wv_of (cc := cX2_writeToken) (maxL := 3) (by decide) rfl (Nat.le_of_ble_eq_true rfl) ?_
  intro p e s m args below meth c A Q hx hb hml hown hts hP hK hD hA hS hin hret ls hl
  replace hl : lv_has ls 3 [(0, .ref b0), (1, .int (nI pl)), (2, .int k)] := hl
  have hf32 := hts (.fieldLink RX2 32 "KindGuesser$NameSide" "tokenRows" "[I") (by decide +kernel)
  have hf35 := hts (.fieldLink RX2 35 "KindGuesser$NameSide" "patternCount" "I") (by decide +kernel)
  have hiX2 : ∀ q ∈ wsX20, q ∈ wsX2_writeToken := by decide +kernel
  refine lv_aload_n hx hb dX2_writeToken_0 rfl (lv_at hl 0 rfl) ?_
  refine va_get (D := D) (ci := 2) (v := .ref b6) (C := RX2) (T := TX2) (N := 10) hx hb hts hiX2 hown hK hP 0 rfl rfl 6 (by decide) hf32 (fun _ h9 => h9) rfl dX2_writeToken_1 ?_
  refine lv_aload_n hx hb dX2_writeToken_4 rfl (lv_at hl 0 rfl) ?_
  refine va_get (D := D) (ci := 2) (v := .int (nI np)) (C := RX2) (T := TX2) (N := 10) hx hb hts hiX2 hown hK hP 0 rfl rfl 7 (by decide) hf35 (fun _ h9 => h9) rfl dX2_writeToken_5 ?_
  refine lv_bipush (v := (nI 8)) hx hb dX2_writeToken_8 rfl ?_
  refine ln_imul (n := np * 8) hx hb (by omega) dX2_writeToken_10 ?_
  refine lv_iload_n hx hb dX2_writeToken_11 rfl (lv_at hl 1 rfl) ?_
  refine ln_iadd (n := (np * 8) + pl) hx hb (by omega) dX2_writeToken_12 ?_
  refine lv_iload_n hx hb dX2_writeToken_13 rfl (lv_at hl 2 rfl) ?_
  refine ln_iast hx hb hK hP hD hS 1 0 rfl rfl (by omega) (by decide) dX2_writeToken_14 _ rfl (fun H locs hP hD hS => ?_)
  have hP : va_P D vwCl [(b0, .inr (2, [.ref b1, .int (nI nl), .ref b2, .ref b3, .ref b4, .ref b5, .ref b6, .int (nI np), .int (nI nt), .ref b7])), (b6, .inl (y3.1, 160, .inl (upd tk ((np * 8) + pl) k)))] H := hP
  have hD : va_D A [(b0, .inr (2, [.ref b1, .int (nI nl), .ref b2, .ref b3, .ref b4, .ref b5, .ref b6, .int (nI np), .int (nI nt), .ref b7])), (b6, .inl (y3.1, 160, .inl (upd tk ((np * 8) + pl) k)))] := hD
  exact hret 15 ls H locs _ _ () hP hD hS (Nat.le_of_ble_eq_true rfl) (Nat.le_of_ble_eq_true rfl) trivial dX2_writeToken_15

set_option maxHeartbeats 4000000 in
set_option maxRecDepth 100000 in
theorem kX2_addPattern (l : Launch) (D : va_G) (y3 : ClassId × ClassId × ClassId) (b0 : Nat) (b1 : Nat) (b2 : Nat) (b3 : Nat) (b4 : Nat) (b5 : Nat) (b6 : Nat) (b7 : Nat) (nl : Nat) (np : Nat) (nt : Nat) (kp : Nat → Nat) (wt : Nat → Int32) (ln : Nat → Nat) (th : Nat → Bool) (kd : Nat) (w : Int32) (n : Nat) (hnp : np < 20) : wrM l yX2_addPattern wsX2_addPattern 0 0 0 0 D y3 [(b0, .inr (2, [.ref b1, .int (nI nl), .ref b2, .ref b3, .ref b4, .ref b5, .ref b6, .int (nI np), .int (nI nt), .ref b7])), (b2, .inl (y3.1, 20, .inl (fN kp))), (b3, .inl (y3.1, 20, .inl wt)), (b4, .inl (y3.1, 20, .inl (fN ln))), (b5, .inl (y3.2.1, 20, .inl (fB th)))] [.ref b0, .int (nI kd), .int w, .int (nI n)] (fun r (_ : Unit) => r = (nI np)) (fun (_ : Unit) => [(b0, .inr (2, [.ref b1, .int (nI nl), .ref b2, .ref b3, .ref b4, .ref b5, .ref b6, .int (nI (np + 1)), .int (nI (nt + 1)), .ref b7])), (b2, .inl (y3.1, 20, .inl (fN (va_up kp np kd)))), (b3, .inl (y3.1, 20, .inl (upd wt np w))), (b4, .inl (y3.1, 20, .inl (fN (va_up ln np n)))), (b5, .inl (y3.2.1, 20, .inl (fB (va_up th np true))))]) := by
  refine wr_of (cc := cX2_addPattern) (maxL := 5) (by decide) rfl (Nat.le_of_ble_eq_true rfl) ?_
  intro p e s m args below meth c A Q hx hb hml hown hts hP hK hD hA hS hret ls hl
  replace hl : lv_has ls 5 [(0, .ref b0), (1, .int (nI kd)), (2, .int w), (3, .int (nI n))] := hl
  have hf19 := hts (.fieldLink RX2 19 "KindGuesser$NameSide" "kindsOfPatterns" "[I") (by decide +kernel)
  have hf22 := hts (.fieldLink RX2 22 "KindGuesser$NameSide" "weights" "[I") (by decide +kernel)
  have hf25 := hts (.fieldLink RX2 25 "KindGuesser$NameSide" "lengths" "[I") (by decide +kernel)
  have hf28 := hts (.fieldLink RX2 28 "KindGuesser$NameSide" "there" "[Z") (by decide +kernel)
  have hf35 := hts (.fieldLink RX2 35 "KindGuesser$NameSide" "patternCount" "I") (by decide +kernel)
  have hf38 := hts (.fieldLink RX2 38 "KindGuesser$NameSide" "thereCount" "I") (by decide +kernel)
  have hiX2 : ∀ q ∈ wsX20, q ∈ wsX2_addPattern := by decide +kernel
  refine lv_aload_n hx hb dX2_addPattern_0 rfl (lv_at hl 0 rfl) ?_
  refine va_get (D := D) (ci := 2) (v := .int (nI np)) (C := RX2) (T := TX2) (N := 10) hx hb hts hiX2 hown hK hP 0 rfl rfl 7 (by decide) hf35 (fun _ h9 => h9) rfl dX2_addPattern_1 ?_
  refine lv_istore (lv' := [(4, .int (nI np)), (0, .ref b0), (1, .int (nI kd)), (2, .int w), (3, .int (nI n))]) hx hb dX2_addPattern_4 hl (by decide) rfl (fun ls hl => ?_)
  refine lv_aload_n hx hb dX2_addPattern_6 rfl (lv_at hl 1 rfl) ?_
  refine va_get (D := D) (ci := 2) (v := .ref b2) (C := RX2) (T := TX2) (N := 10) hx hb hts hiX2 hown hK hP 0 rfl rfl 2 (by decide) hf19 (fun _ h9 => h9) rfl dX2_addPattern_7 ?_
  refine lv_iload hx hb dX2_addPattern_10 (lv_at hl 0 rfl) ?_
  refine lv_iload_n hx hb dX2_addPattern_12 rfl (lv_at hl 2 rfl) ?_
  refine ln_iastN hx hb hK hP hD hS 1 0 rfl rfl (by omega) (by decide) dX2_addPattern_13 _ rfl (fun H locs hP hD hS => ?_)
  have hP : va_P D vwCl [(b0, .inr (2, [.ref b1, .int (nI nl), .ref b2, .ref b3, .ref b4, .ref b5, .ref b6, .int (nI np), .int (nI nt), .ref b7])), (b2, .inl (y3.1, 20, .inl (fN (va_up kp np kd)))), (b3, .inl (y3.1, 20, .inl wt)), (b4, .inl (y3.1, 20, .inl (fN ln))), (b5, .inl (y3.2.1, 20, .inl (fB th)))] H := hP
  have hD : va_D A [(b0, .inr (2, [.ref b1, .int (nI nl), .ref b2, .ref b3, .ref b4, .ref b5, .ref b6, .int (nI np), .int (nI nt), .ref b7])), (b2, .inl (y3.1, 20, .inl (fN (va_up kp np kd)))), (b3, .inl (y3.1, 20, .inl wt)), (b4, .inl (y3.1, 20, .inl (fN ln))), (b5, .inl (y3.2.1, 20, .inl (fB th)))] := hD
  refine lv_aload_n hx hb dX2_addPattern_14 rfl (lv_at hl 1 rfl) ?_
  refine va_get (D := D) (ci := 2) (v := .ref b3) (C := RX2) (T := TX2) (N := 10) hx hb hts hiX2 hown hK hP 0 rfl rfl 3 (by decide) hf22 (fun _ h9 => h9) rfl dX2_addPattern_15 ?_
  refine lv_iload hx hb dX2_addPattern_18 (lv_at hl 0 rfl) ?_
  refine lv_iload_n hx hb dX2_addPattern_20 rfl (lv_at hl 3 rfl) ?_
  refine ln_iast hx hb hK hP hD hS 2 0 rfl rfl (by omega) (by decide) dX2_addPattern_21 _ rfl (fun H locs hP hD hS => ?_)
  have hP : va_P D vwCl [(b0, .inr (2, [.ref b1, .int (nI nl), .ref b2, .ref b3, .ref b4, .ref b5, .ref b6, .int (nI np), .int (nI nt), .ref b7])), (b2, .inl (y3.1, 20, .inl (fN (va_up kp np kd)))), (b3, .inl (y3.1, 20, .inl (upd wt np w))), (b4, .inl (y3.1, 20, .inl (fN ln))), (b5, .inl (y3.2.1, 20, .inl (fB th)))] H := hP
  have hD : va_D A [(b0, .inr (2, [.ref b1, .int (nI nl), .ref b2, .ref b3, .ref b4, .ref b5, .ref b6, .int (nI np), .int (nI nt), .ref b7])), (b2, .inl (y3.1, 20, .inl (fN (va_up kp np kd)))), (b3, .inl (y3.1, 20, .inl (upd wt np w))), (b4, .inl (y3.1, 20, .inl (fN ln))), (b5, .inl (y3.2.1, 20, .inl (fB th)))] := hD
  refine lv_aload_n hx hb dX2_addPattern_22 rfl (lv_at hl 1 rfl) ?_
  refine va_get (D := D) (ci := 2) (v := .ref b4) (C := RX2) (T := TX2) (N := 10) hx hb hts hiX2 hown hK hP 0 rfl rfl 4 (by decide) hf25 (fun _ h9 => h9) rfl dX2_addPattern_23 ?_
  refine lv_iload hx hb dX2_addPattern_26 (lv_at hl 0 rfl) ?_
  refine lv_iload_n hx hb dX2_addPattern_28 rfl (lv_at hl 4 rfl) ?_
  refine ln_iastN hx hb hK hP hD hS 3 0 rfl rfl (by omega) (by decide) dX2_addPattern_29 _ rfl (fun H locs hP hD hS => ?_)
  have hP : va_P D vwCl [(b0, .inr (2, [.ref b1, .int (nI nl), .ref b2, .ref b3, .ref b4, .ref b5, .ref b6, .int (nI np), .int (nI nt), .ref b7])), (b2, .inl (y3.1, 20, .inl (fN (va_up kp np kd)))), (b3, .inl (y3.1, 20, .inl (upd wt np w))), (b4, .inl (y3.1, 20, .inl (fN (va_up ln np n)))), (b5, .inl (y3.2.1, 20, .inl (fB th)))] H := hP
  have hD : va_D A [(b0, .inr (2, [.ref b1, .int (nI nl), .ref b2, .ref b3, .ref b4, .ref b5, .ref b6, .int (nI np), .int (nI nt), .ref b7])), (b2, .inl (y3.1, 20, .inl (fN (va_up kp np kd)))), (b3, .inl (y3.1, 20, .inl (upd wt np w))), (b4, .inl (y3.1, 20, .inl (fN (va_up ln np n)))), (b5, .inl (y3.2.1, 20, .inl (fB th)))] := hD
  refine lv_aload_n hx hb dX2_addPattern_30 rfl (lv_at hl 1 rfl) ?_
  refine va_get (D := D) (ci := 2) (v := .ref b5) (C := RX2) (T := TX2) (N := 10) hx hb hts hiX2 hown hK hP 0 rfl rfl 5 (by decide) hf28 (fun _ h9 => h9) rfl dX2_addPattern_31 ?_
  refine lv_iload hx hb dX2_addPattern_34 (lv_at hl 0 rfl) ?_
  refine lv_iconst (v := (nI 1)) hx hb dX2_addPattern_36 rfl ?_
  refine ln_zastB (b := true) hx hb hK hP hD hS 4 1 rfl rfl (by omega) (by decide) dX2_addPattern_37 _ rfl (fun H locs hP hD hS => ?_)
  have hP : va_P D vwCl [(b0, .inr (2, [.ref b1, .int (nI nl), .ref b2, .ref b3, .ref b4, .ref b5, .ref b6, .int (nI np), .int (nI nt), .ref b7])), (b2, .inl (y3.1, 20, .inl (fN (va_up kp np kd)))), (b3, .inl (y3.1, 20, .inl (upd wt np w))), (b4, .inl (y3.1, 20, .inl (fN (va_up ln np n)))), (b5, .inl (y3.2.1, 20, .inl (fB (va_up th np true))))] H := hP
  have hD : va_D A [(b0, .inr (2, [.ref b1, .int (nI nl), .ref b2, .ref b3, .ref b4, .ref b5, .ref b6, .int (nI np), .int (nI nt), .ref b7])), (b2, .inl (y3.1, 20, .inl (fN (va_up kp np kd)))), (b3, .inl (y3.1, 20, .inl (upd wt np w))), (b4, .inl (y3.1, 20, .inl (fN (va_up ln np n)))), (b5, .inl (y3.2.1, 20, .inl (fB (va_up th np true))))] := hD
  refine lv_aload_n hx hb dX2_addPattern_38 rfl (lv_at hl 1 rfl) ?_
  refine lv_dup hx hb dX2_addPattern_39 rfl ?_
  refine va_get (D := D) (ci := 2) (v := .int (nI np)) (C := RX2) (T := TX2) (N := 10) hx hb hts hiX2 hown hK hP 0 rfl rfl 7 (by decide) hf35 (fun _ h9 => h9) rfl dX2_addPattern_40 ?_
  refine lv_iconst (v := (nI 1)) hx hb dX2_addPattern_43 rfl ?_
  refine ln_iadd (n := np + 1) hx hb rfl dX2_addPattern_44 ?_
  refine va_put (D := D) (ci := 2) (v := .int (nI (np + 1))) (ty := .int) (C := RX2) (T := TX2) (N := 10) hx hb hts hiX2 tyX2 tyX2_ok nmX2 hown hK hP hD hS 0 rfl rfl 7 (by decide) hf35 (fun _ h9 => h9) rfl (by decide +kernel) rfl rfl (Nat.le_of_ble_eq_true rfl) dX2_addPattern_45 (fun H locs hP hD hS => ?_)
  have hP : va_P D vwCl [(b0, .inr (2, [.ref b1, .int (nI nl), .ref b2, .ref b3, .ref b4, .ref b5, .ref b6, .int (nI (np + 1)), .int (nI nt), .ref b7])), (b2, .inl (y3.1, 20, .inl (fN (va_up kp np kd)))), (b3, .inl (y3.1, 20, .inl (upd wt np w))), (b4, .inl (y3.1, 20, .inl (fN (va_up ln np n)))), (b5, .inl (y3.2.1, 20, .inl (fB (va_up th np true))))] H := hP
  have hD : va_D A [(b0, .inr (2, [.ref b1, .int (nI nl), .ref b2, .ref b3, .ref b4, .ref b5, .ref b6, .int (nI (np + 1)), .int (nI nt), .ref b7])), (b2, .inl (y3.1, 20, .inl (fN (va_up kp np kd)))), (b3, .inl (y3.1, 20, .inl (upd wt np w))), (b4, .inl (y3.1, 20, .inl (fN (va_up ln np n)))), (b5, .inl (y3.2.1, 20, .inl (fB (va_up th np true))))] := hD
  refine lv_aload_n hx hb dX2_addPattern_48 rfl (lv_at hl 1 rfl) ?_
  refine lv_dup hx hb dX2_addPattern_49 rfl ?_
  refine va_get (D := D) (ci := 2) (v := .int (nI nt)) (C := RX2) (T := TX2) (N := 10) hx hb hts hiX2 hown hK hP 0 rfl rfl 8 (by decide) hf38 (fun _ h9 => h9) rfl dX2_addPattern_50 ?_
  refine lv_iconst (v := (nI 1)) hx hb dX2_addPattern_53 rfl ?_
  refine ln_iadd (n := nt + 1) hx hb rfl dX2_addPattern_54 ?_
  refine va_put (D := D) (ci := 2) (v := .int (nI (nt + 1))) (ty := .int) (C := RX2) (T := TX2) (N := 10) hx hb hts hiX2 tyX2 tyX2_ok nmX2 hown hK hP hD hS 0 rfl rfl 8 (by decide) hf38 (fun _ h9 => h9) rfl (by decide +kernel) rfl rfl (Nat.le_of_ble_eq_true rfl) dX2_addPattern_55 (fun H locs hP hD hS => ?_)
  have hP : va_P D vwCl [(b0, .inr (2, [.ref b1, .int (nI nl), .ref b2, .ref b3, .ref b4, .ref b5, .ref b6, .int (nI (np + 1)), .int (nI (nt + 1)), .ref b7])), (b2, .inl (y3.1, 20, .inl (fN (va_up kp np kd)))), (b3, .inl (y3.1, 20, .inl (upd wt np w))), (b4, .inl (y3.1, 20, .inl (fN (va_up ln np n)))), (b5, .inl (y3.2.1, 20, .inl (fB (va_up th np true))))] H := hP
  have hD : va_D A [(b0, .inr (2, [.ref b1, .int (nI nl), .ref b2, .ref b3, .ref b4, .ref b5, .ref b6, .int (nI (np + 1)), .int (nI (nt + 1)), .ref b7])), (b2, .inl (y3.1, 20, .inl (fN (va_up kp np kd)))), (b3, .inl (y3.1, 20, .inl (upd wt np w))), (b4, .inl (y3.1, 20, .inl (fN (va_up ln np n)))), (b5, .inl (y3.2.1, 20, .inl (fB (va_up th np true))))] := hD
  refine lv_iload hx hb dX2_addPattern_58 (lv_at hl 0 rfl) ?_
  exact hret 60 ls H locs _ _ () _ hP hD hS (Nat.le_of_ble_eq_true rfl) (Nat.le_of_ble_eq_true rfl) rfl dX2_addPattern_60

set_option maxHeartbeats 4000000 in
set_option maxRecDepth 100000 in
theorem kX2_dropPattern (l : Launch) (D : va_G) (y3 : ClassId × ClassId × ClassId) (b0 : Nat) (b1 : Nat) (b2 : Nat) (b3 : Nat) (b4 : Nat) (b5 : Nat) (b6 : Nat) (b7 : Nat) (nl : Nat) (np : Nat) (nt : Nat) (th : Nat → Bool) (j : Nat) (hnp : np ≤ 20) (hj : j < np) (hnt : 0 < nt) : wrM l yX2_dropPattern wsX2_dropPattern 0 0 0 0 D y3 [(b0, .inr (2, [.ref b1, .int (nI nl), .ref b2, .ref b3, .ref b4, .ref b5, .ref b6, .int (nI np), .int (nI nt), .ref b7])), (b5, .inl (y3.2.1, 20, .inl (fB th)))] [.ref b0, .int (nI j)] (fun r (_ : Unit) => r = (nI (nt - 1))) (fun (_ : Unit) => [(b0, .inr (2, [.ref b1, .int (nI nl), .ref b2, .ref b3, .ref b4, .ref b5, .ref b6, .int (nI np), .int (nI (nt - 1)), .ref b7])), (b5, .inl (y3.2.1, 20, .inl (fB (va_up th j false))))]) := by
  refine wr_of (cc := cX2_dropPattern) (maxL := 2) (by decide) rfl (Nat.le_of_ble_eq_true rfl) ?_
  intro p e s m args below meth c A Q hx hb hml hown hts hP hK hD hA hS hret ls hl
  replace hl : lv_has ls 2 [(0, .ref b0), (1, .int (nI j))] := hl
  have hf28 := hts (.fieldLink RX2 28 "KindGuesser$NameSide" "there" "[Z") (by decide +kernel)
  have hf38 := hts (.fieldLink RX2 38 "KindGuesser$NameSide" "thereCount" "I") (by decide +kernel)
  have hiX2 : ∀ q ∈ wsX20, q ∈ wsX2_dropPattern := by decide +kernel
  refine lv_aload_n hx hb dX2_dropPattern_0 rfl (lv_at hl 0 rfl) ?_
  refine va_get (D := D) (ci := 2) (v := .ref b5) (C := RX2) (T := TX2) (N := 10) hx hb hts hiX2 hown hK hP 0 rfl rfl 5 (by decide) hf28 (fun _ h9 => h9) rfl dX2_dropPattern_1 ?_
  refine lv_iload_n hx hb dX2_dropPattern_4 rfl (lv_at hl 1 rfl) ?_
  refine lv_iconst (v := (nI 0)) hx hb dX2_dropPattern_5 rfl ?_
  refine ln_zastB (b := false) hx hb hK hP hD hS 1 1 rfl rfl (by omega) (by decide) dX2_dropPattern_6 _ rfl (fun H locs hP hD hS => ?_)
  have hP : va_P D vwCl [(b0, .inr (2, [.ref b1, .int (nI nl), .ref b2, .ref b3, .ref b4, .ref b5, .ref b6, .int (nI np), .int (nI nt), .ref b7])), (b5, .inl (y3.2.1, 20, .inl (fB (va_up th j false))))] H := hP
  have hD : va_D A [(b0, .inr (2, [.ref b1, .int (nI nl), .ref b2, .ref b3, .ref b4, .ref b5, .ref b6, .int (nI np), .int (nI nt), .ref b7])), (b5, .inl (y3.2.1, 20, .inl (fB (va_up th j false))))] := hD
  refine lv_aload_n hx hb dX2_dropPattern_7 rfl (lv_at hl 0 rfl) ?_
  refine lv_dup hx hb dX2_dropPattern_8 rfl ?_
  refine va_get (D := D) (ci := 2) (v := .int (nI nt)) (C := RX2) (T := TX2) (N := 10) hx hb hts hiX2 hown hK hP 0 rfl rfl 8 (by decide) hf38 (fun _ h9 => h9) rfl dX2_dropPattern_9 ?_
  refine lv_iconst (v := (nI 1)) hx hb dX2_dropPattern_12 rfl ?_
  refine ln_isub (n := nt - 1) hx hb (by omega) (by omega) dX2_dropPattern_13 ?_
  refine va_put (D := D) (ci := 2) (v := .int (nI (nt - 1))) (ty := .int) (C := RX2) (T := TX2) (N := 10) hx hb hts hiX2 tyX2 tyX2_ok nmX2 hown hK hP hD hS 0 rfl rfl 8 (by decide) hf38 (fun _ h9 => h9) rfl (by decide +kernel) rfl rfl (Nat.le_of_ble_eq_true rfl) dX2_dropPattern_14 (fun H locs hP hD hS => ?_)
  have hP : va_P D vwCl [(b0, .inr (2, [.ref b1, .int (nI nl), .ref b2, .ref b3, .ref b4, .ref b5, .ref b6, .int (nI np), .int (nI (nt - 1)), .ref b7])), (b5, .inl (y3.2.1, 20, .inl (fB (va_up th j false))))] H := hP
  have hD : va_D A [(b0, .inr (2, [.ref b1, .int (nI nl), .ref b2, .ref b3, .ref b4, .ref b5, .ref b6, .int (nI np), .int (nI (nt - 1)), .ref b7])), (b5, .inl (y3.2.1, 20, .inl (fB (va_up th j false))))] := hD
  refine lv_aload_n hx hb dX2_dropPattern_17 rfl (lv_at hl 0 rfl) ?_
  refine va_get (D := D) (ci := 2) (v := .int (nI (nt - 1))) (C := RX2) (T := TX2) (N := 10) hx hb hts hiX2 hown hK hP 0 rfl rfl 8 (by decide) hf38 (fun _ h9 => h9) rfl dX2_dropPattern_18 ?_
  exact hret 21 ls H locs _ _ () _ hP hD hS (Nat.le_of_ble_eq_true rfl) (Nat.le_of_ble_eq_true rfl) rfl dX2_dropPattern_21

set_option maxHeartbeats 4000000 in
set_option maxRecDepth 100000 in
theorem kX2_kindOf (l : Launch) (D : va_G) (y3 : ClassId × ClassId × ClassId) (b0 : Nat) (b1 : Nat) (b2 : Nat) (b3 : Nat) (b4 : Nat) (b5 : Nat) (b6 : Nat) (b7 : Nat) (nl : Nat) (np : Nat) (nt : Nat) (kp : Nat → Nat) (th : Nat → Bool) (k : Int32) (hnp : np ≤ 20) : rdM l yX2_kindOf wsX2_kindOf 1 21 D y3 [(b0, .inr (2, [.ref b1, .int (nI nl), .ref b2, .ref b3, .ref b4, .ref b5, .ref b6, .int (nI np), .int (nI nt), .ref b7])), (b2, .inl (y3.1, 20, .inl (fN kp))), (b5, .inl (y3.2.1, 20, .inl (fB th)))] [.ref b0, .int k] (fun r => r = (kndO th np kp k)) := by
  refine rd_of (cc := cX2_kindOf) (maxL := 2) (by decide) rfl (Nat.le_of_ble_eq_true rfl) ?_
  intro p e s m args below meth c Q hx hb hml hown hts hP hK hret ls hl
  replace hl : lv_has ls 2 [(0, .ref b0), (1, .int k)] := hl
  have hf19 := hts (.fieldLink RX2 19 "KindGuesser$NameSide" "kindsOfPatterns" "[I") (by decide +kernel)
  have hiX2 : ∀ q ∈ wsX20, q ∈ wsX2_kindOf := by decide +kernel
  refine lv_aload_n hx hb dX2_kindOf_0 rfl (lv_at hl 0 rfl) ?_
  refine lv_iload_n hx hb dX2_kindOf_1 rfl (lv_at hl 1 rfl) ?_
  refine rd_V (ci := 2) (q0 := 0) (own := RX2) (As := [.int k]) (rest := []) (bytes := cX2_hasPattern) (maxL := 2) ⟨hx, hb, hml, hown, hts⟩ (kX2_hasPattern l D y3 b0 b1 b2 b3 b4 b5 b6 b7 nl np nt th k (by omega)) gX2_kindOf_X2_hasPattern rfl hvX2_hasPattern ⟨Nat.le_of_ble_eq_true rfl, Nat.le_of_ble_eq_true rfl⟩ hP hK [0, 2] rfl rfl rfl hl.1 rfl (Nat.le_of_ble_eq_true rfl) dX2_kindOf_2 ⟨Nat.zero_le _, Nat.zero_le _⟩ (fun r1 hr1 => ?_)
  subst hr1
  refine lb_if_eq (tgt := 17) hx hb dX2_kindOf_5 (by decide) (fun c5 => ?_) (fun c5 => ?_)
  · refine lv_iconst (v := (-1)) hx hb dX2_kindOf_17 rfl ?_
    exact hret 18 ls _ (by unfold kndO; rw [c5]; rfl) dX2_kindOf_18
  · refine lv_aload_n hx hb dX2_kindOf_8 rfl (lv_at hl 0 rfl) ?_
    refine va_get (D := D) (ci := 2) (v := .ref b2) (C := RX2) (T := TX2) (N := 10) hx hb hts hiX2 hown hK hP 0 rfl rfl 2 (by decide) hf19 (fun _ h9 => h9) rfl dX2_kindOf_9 ?_
    refine lv_iload_n hx hb dX2_kindOf_12 rfl (lv_at hl 1 rfl) ?_
    obtain ⟨j, hj, ej, hth⟩ := hasP_yes c5 (by omega)
    refine ln_eqi (y := (nI j)) ej ?_
    refine ln_ialdN hx hb hK hP 1 0 rfl rfl (by omega) (by decide) dX2_kindOf_13 ?_
    refine lv_goto (tgt := 18) hx hb dX2_kindOf_14 (by decide) ?_
    exact hret 18 ls _ (by rw [ej, kndO_N hj (by omega), hth]; rfl) dX2_kindOf_18

set_option maxHeartbeats 4000000 in
set_option maxRecDepth 100000 in
theorem kX2_isAhead (l : Launch) (D : va_G) (y3 : ClassId × ClassId × ClassId) (b0 : Nat) (b1 : Nat) (b2 : Nat) (b3 : Nat) (b4 : Nat) (b5 : Nat) (b6 : Nat) (b7 : Nat) (nl : Nat) (np : Nat) (nt : Nat) (wt : Nat → Int32) (ln : Nat → Nat) (k : Nat) (b : Nat) (hk : k < 20) (hb : b < 20) (hln : ∀ q : Nat, ln q ≤ 8) : rdM l yX2_isAhead wsX2_isAhead 0 0 D y3 [(b0, .inr (2, [.ref b1, .int (nI nl), .ref b2, .ref b3, .ref b4, .ref b5, .ref b6, .int (nI np), .int (nI nt), .ref b7])), (b3, .inl (y3.1, 20, .inl wt)), (b4, .inl (y3.1, 20, .inl (fN ln)))] [.ref b0, .int (nI k), .int (nI b)] (fun r => r = (bI (ahP wt ln k b))) := by
  refine rz_of (cc := cX2_isAhead) (maxL := 3) (by decide) rfl (Nat.le_of_ble_eq_true rfl) ?_
  intro p e s m args below meth c Q hx hb hml hown hts hP hK hret ls hl
  replace hl : lv_has ls 3 [(0, .ref b0), (1, .int (nI k)), (2, .int (nI b))] := hl
  have q1 := hln k
  have q2 := hln b
  have hf22 := hts (.fieldLink RX2 22 "KindGuesser$NameSide" "weights" "[I") (by decide +kernel)
  have hf25 := hts (.fieldLink RX2 25 "KindGuesser$NameSide" "lengths" "[I") (by decide +kernel)
  have hiX2 : ∀ q ∈ wsX20, q ∈ wsX2_isAhead := by decide +kernel
  refine lv_aload_n hx hb dX2_isAhead_0 rfl (lv_at hl 0 rfl) ?_
  refine va_get (D := D) (ci := 2) (v := .ref b3) (C := RX2) (T := TX2) (N := 10) hx hb hts hiX2 hown hK hP 0 rfl rfl 3 (by decide) hf22 (fun _ h9 => h9) rfl dX2_isAhead_1 ?_
  refine lv_iload_n hx hb dX2_isAhead_4 rfl (lv_at hl 1 rfl) ?_
  refine ln_iald hx hb hK hP 1 0 rfl rfl (by omega) (by decide) dX2_isAhead_5 ?_
  refine lv_aload_n hx hb dX2_isAhead_6 rfl (lv_at hl 0 rfl) ?_
  refine va_get (D := D) (ci := 2) (v := .ref b3) (C := RX2) (T := TX2) (N := 10) hx hb hts hiX2 hown hK hP 0 rfl rfl 3 (by decide) hf22 (fun _ h9 => h9) rfl dX2_isAhead_7 ?_
  refine lv_iload_n hx hb dX2_isAhead_10 rfl (lv_at hl 2 rfl) ?_
  refine ln_iald hx hb hK hP 1 0 rfl rfl (by omega) (by decide) dX2_isAhead_11 ?_
  refine lv_icmp_eq (tgt := 36) hx hb dX2_isAhead_12 (by decide) (fun c12 => ?_) (fun c12 => ?_)
  · refine lv_aload_n hx hb dX2_isAhead_36 rfl (lv_at hl 0 rfl) ?_
    refine va_get (D := D) (ci := 2) (v := .ref b4) (C := RX2) (T := TX2) (N := 10) hx hb hts hiX2 hown hK hP 0 rfl rfl 4 (by decide) hf25 (fun _ h9 => h9) rfl dX2_isAhead_37 ?_
    refine lv_iload_n hx hb dX2_isAhead_40 rfl (lv_at hl 1 rfl) ?_
    refine ln_ialdN hx hb hK hP 2 0 rfl rfl (by omega) (by decide) dX2_isAhead_41 ?_
    refine lv_aload_n hx hb dX2_isAhead_42 rfl (lv_at hl 0 rfl) ?_
    refine va_get (D := D) (ci := 2) (v := .ref b4) (C := RX2) (T := TX2) (N := 10) hx hb hts hiX2 hown hK hP 0 rfl rfl 4 (by decide) hf25 (fun _ h9 => h9) rfl dX2_isAhead_43 ?_
    refine lv_iload_n hx hb dX2_isAhead_46 rfl (lv_at hl 2 rfl) ?_
    refine ln_ialdN hx hb hK hP 2 0 rfl rfl (by omega) (by decide) dX2_isAhead_47 ?_
    refine ln_icmp_le (tgt := 55) hx hb (by omega) (by omega) dX2_isAhead_48 (by decide) (fun c48 => ?_) (fun c48 => ?_)
    · refine lv_iconst (v := (nI 0)) hx hb dX2_isAhead_55 rfl ?_
      exact hret 56 ls _ (bI_f (by unfold ahP; first | (rw [if_neg c12]; exact decide_eq_false (fun h => absurd c27 (Int32.not_le.mpr h))) | (rw [if_pos c12]; exact decide_eq_false (by omega)))) dX2_isAhead_56
    · refine lv_iconst (v := (nI 1)) hx hb dX2_isAhead_51 rfl ?_
      refine lv_goto (tgt := 56) hx hb dX2_isAhead_52 (by decide) ?_
      exact hret 56 ls _ (bI_t (by unfold ahP; first | (rw [if_neg c12]; exact decide_eq_true (Int32.not_le.mp c27)) | (rw [if_pos c12]; exact decide_eq_true (by omega)))) dX2_isAhead_56
  · refine lv_aload_n hx hb dX2_isAhead_15 rfl (lv_at hl 0 rfl) ?_
    refine va_get (D := D) (ci := 2) (v := .ref b3) (C := RX2) (T := TX2) (N := 10) hx hb hts hiX2 hown hK hP 0 rfl rfl 3 (by decide) hf22 (fun _ h9 => h9) rfl dX2_isAhead_16 ?_
    refine lv_iload_n hx hb dX2_isAhead_19 rfl (lv_at hl 1 rfl) ?_
    refine ln_iald hx hb hK hP 1 0 rfl rfl (by omega) (by decide) dX2_isAhead_20 ?_
    refine lv_aload_n hx hb dX2_isAhead_21 rfl (lv_at hl 0 rfl) ?_
    refine va_get (D := D) (ci := 2) (v := .ref b3) (C := RX2) (T := TX2) (N := 10) hx hb hts hiX2 hown hK hP 0 rfl rfl 3 (by decide) hf22 (fun _ h9 => h9) rfl dX2_isAhead_22 ?_
    refine lv_iload_n hx hb dX2_isAhead_25 rfl (lv_at hl 2 rfl) ?_
    refine ln_iald hx hb hK hP 1 0 rfl rfl (by omega) (by decide) dX2_isAhead_26 ?_
    refine lv_icmp_le (tgt := 34) hx hb dX2_isAhead_27 (by decide) (fun c27 => ?_) (fun c27 => ?_)
    · refine lv_iconst (v := (nI 0)) hx hb dX2_isAhead_34 rfl ?_
      exact hret 35 ls _ (bI_f (by unfold ahP; first | (rw [if_neg c12]; exact decide_eq_false (fun h => absurd c27 (Int32.not_le.mpr h))) | (rw [if_pos c12]; exact decide_eq_false (by omega)))) dX2_isAhead_35
    · refine lv_iconst (v := (nI 1)) hx hb dX2_isAhead_30 rfl ?_
      refine lv_goto (tgt := 35) hx hb dX2_isAhead_31 (by decide) ?_
      exact hret 35 ls _ (bI_t (by unfold ahP; first | (rw [if_neg c12]; exact decide_eq_true (Int32.not_le.mp c27)) | (rw [if_pos c12]; exact decide_eq_true (by omega)))) dX2_isAhead_35

set_option maxHeartbeats 4000000 in
set_option maxRecDepth 100000 in
theorem kX2_isReached (l : Launch) (D : va_G) (y3 : ClassId × ClassId × ClassId) (x : Int32) (i : Nat) (hi : i < 32) : rdM l yX2_isReached wsX2_isReached 0 0 D y3 [] [.int x, .int (nI i)] (fun r => r = (bI (bt x i))) := by
  refine rz_of (cc := cX2_isReached) (maxL := 2) (by decide) rfl (Nat.le_of_ble_eq_true rfl) ?_
  intro p e s m args below meth c Q hx hb hml hown hts hP hK hret ls hl
  replace hl : lv_has ls 2 [(0, .int x), (1, .int (nI i))] := hl
  refine lv_iload_n hx hb dX2_isReached_0 rfl (lv_at hl 0 rfl) ?_
  refine lv_iload_n hx hb dX2_isReached_1 rfl (lv_at hl 1 rfl) ?_
  refine lv_ishr hx hb dX2_isReached_2 ?_
  refine lv_iconst (v := (nI 1)) hx hb dX2_isReached_3 rfl ?_
  refine lv_iand hx hb dX2_isReached_4 ?_
  refine lv_iconst (v := (nI 1)) hx hb dX2_isReached_5 rfl ?_
  refine lv_icmp_ne (tgt := 13) hx hb dX2_isReached_6 (by decide) (fun c6 => ?_) (fun c6 => ?_)
  · refine lv_iconst (v := (nI 0)) hx hb dX2_isReached_13 rfl ?_
    exact hret 14 ls _ (bI_f (bt_f hi c6)) dX2_isReached_14
  · refine lv_iconst (v := (nI 1)) hx hb dX2_isReached_9 rfl ?_
    refine lv_goto (tgt := 14) hx hb dX2_isReached_10 (by decide) ?_
    exact hret 14 ls _ (bI_t (bt_t hi c6)) dX2_isReached_14

set_option maxHeartbeats 4000000 in
set_option maxRecDepth 100000 in
theorem kX2_standsFor (l : Launch) (D : va_G) (y3 : ClassId × ClassId × ClassId) (b0 : Nat) (b1 : Nat) (b2 : Nat) (b3 : Nat) (b4 : Nat) (b5 : Nat) (b6 : Nat) (b7 : Nat) (nl : Nat) (np : Nat) (nt : Nat) (lt : Nat → Int32) (tok : Int32) (i : Nat) (hi : i < 12) : rdM l yX2_standsFor wsX2_standsFor 0 0 D y3 [(b0, .inr (2, [.ref b1, .int (nI nl), .ref b2, .ref b3, .ref b4, .ref b5, .ref b6, .int (nI np), .int (nI nt), .ref b7])), (b1, .inl (y3.1, 12, .inl lt))] [.ref b0, .int tok, .int (nI i)] (fun r => r = (bI (stB lt tok i))) := by
  refine rz_of (cc := cX2_standsFor) (maxL := 3) (by decide) rfl (Nat.le_of_ble_eq_true rfl) ?_
  intro p e s m args below meth c Q hx hb hml hown hts hP hK hret ls hl
  replace hl : lv_has ls 3 [(0, .ref b0), (1, .int tok), (2, .int (nI i))] := hl
  have hf9 := hts (.fieldLink RX2 9 "KindGuesser$NameSide" "letters" "[I") (by decide +kernel)
  have hiX2 : ∀ q ∈ wsX20, q ∈ wsX2_standsFor := by decide +kernel
  refine lv_iload_n hx hb dX2_standsFor_0 rfl (lv_at hl 1 rfl) ?_
  refine lv_bipush (v := (nI 11)) hx hb dX2_standsFor_1 rfl ?_
  refine lv_icmp_eq (tgt := 16) hx hb dX2_standsFor_3 (by decide) (fun c3 => ?_) (fun c3 => ?_)
  · refine lv_iconst (v := (nI 1)) hx hb dX2_standsFor_16 rfl ?_
    refine lv_goto (tgt := 21) hx hb dX2_standsFor_17 (by decide) ?_
    exact hret 21 ls _ (bI_t (by first | exact stB_11 c3 | exact stB_lt c13)) dX2_standsFor_21
  · refine lv_iload_n hx hb dX2_standsFor_6 rfl (lv_at hl 1 rfl) ?_
    refine lv_aload_n hx hb dX2_standsFor_7 rfl (lv_at hl 0 rfl) ?_
    refine va_get (D := D) (ci := 2) (v := .ref b1) (C := RX2) (T := TX2) (N := 10) hx hb hts hiX2 hown hK hP 0 rfl rfl 0 (by decide) hf9 (fun _ h9 => h9) rfl dX2_standsFor_8 ?_
    refine lv_iload_n hx hb dX2_standsFor_11 rfl (lv_at hl 2 rfl) ?_
    refine ln_iald hx hb hK hP 1 0 rfl rfl (by omega) (by decide) dX2_standsFor_12 ?_
    refine lv_icmp_ne (tgt := 20) hx hb dX2_standsFor_13 (by decide) (fun c13 => ?_) (fun c13 => ?_)
    · refine lv_iconst (v := (nI 0)) hx hb dX2_standsFor_20 rfl ?_
      exact hret 21 ls _ (bI_f (stB_no c3 c13)) dX2_standsFor_21
    · refine lv_iconst (v := (nI 1)) hx hb dX2_standsFor_16 rfl ?_
      refine lv_goto (tgt := 21) hx hb dX2_standsFor_17 (by decide) ?_
      exact hret 21 ls _ (bI_t (by first | exact stB_11 c3 | exact stB_lt c13)) dX2_standsFor_21

set_option maxHeartbeats 4000000 in
set_option maxRecDepth 100000 in
theorem kX2_reachedAfter (l : Launch) (D : va_G) (y3 : ClassId × ClassId × ClassId) (b0 : Nat) (b1 : Nat) (b2 : Nat) (b3 : Nat) (b4 : Nat) (b5 : Nat) (b6 : Nat) (b7 : Nat) (nl : Nat) (np : Nat) (nt : Nat) (lt : Nat → Int32) (tok : Int32) (x : Int32) (hnl : nl ≤ 12) : rdM l yX2_reachedAfter wsX2_reachedAfter 1 22 D y3 [(b0, .inr (2, [.ref b1, .int (nI nl), .ref b2, .ref b3, .ref b4, .ref b5, .ref b6, .int (nI np), .int (nI nt), .ref b7])), (b1, .inl (y3.1, 12, .inl lt))] [.ref b0, .int tok, .int x] (fun r => ∀ i : Nat, i ≤ nl → bt r i = stpB lt tok (bt x) i) := by
  refine rd_of (cc := cX2_reachedAfter) (maxL := 6) (by decide) rfl (Nat.le_of_ble_eq_true rfl) ?_
  intro p e s m args below meth c Q hx hb hml hown hts hP hK hret ls hl
  replace hl : lv_has ls 6 [(0, .ref b0), (1, .int tok), (2, .int x)] := hl
  have hf15 := hts (.fieldLink RX2 15 "KindGuesser$NameSide" "letterCount" "I") (by decide +kernel)
  have hiX2 : ∀ q ∈ wsX20, q ∈ wsX2_reachedAfter := by decide +kernel
  refine lv_iload_n hx hb dX2_reachedAfter_0 rfl (lv_at hl 1 rfl) ?_
  refine lv_bipush (v := (nI 10)) hx hb dX2_reachedAfter_1 rfl ?_
  have jn11 : ∀ (y : Int32), (y = if tok = nI 10 then x else nI 0) → ∀ ls : Array Slot, lv_has ls 6 [(0, .ref b0), (1, .int tok), (2, .int x)] → W p l e (rmO 1 0 0 22) s m args below meth c s.heap [] 0 0 Q (F0 m 11 ls [.int y]) := by
    intro y e11 ls hl
    refine lv_istore_n (lv' := [(3, .int y), (0, .ref b0), (1, .int tok), (2, .int x)]) hx hb dX2_reachedAfter_11 rfl hl (by decide) rfl (fun ls hl => ?_)
    refine lv_iconst (v := (nI 0)) hx hb dX2_reachedAfter_12 rfl ?_
    refine lv_istore (lv' := [(4, .int (nI 0)), (3, .int y), (0, .ref b0), (1, .int tok), (2, .int x)]) hx hb dX2_reachedAfter_13 hl (by decide) rfl (fun ls hl => ?_)
    have lp15 : ∀ (n1 : Nat) (q : Nat) (a : Int32), nl - q < n1 → (q ≤ nl) → (raI lt tok x a q) → ∀ ls : Array Slot, lv_has ls 6 [(4, .int (nI q)), (3, .int a), (0, .ref b0), (1, .int tok), (2, .int x)] → W p l e (rmO 1 0 0 22) s m args below meth c s.heap [] 0 0 Q (F0 m 15 ls []) := by
      intro n1
      induction n1 with
      | zero => intro q a hm; exact absurd hm (Nat.not_lt_zero _)
      | succ n1 ih15 =>
        intro q a hm15 h1 h2 ls hl
        refine lv_iload hx hb dX2_reachedAfter_15 (lv_at hl 0 rfl) ?_
        refine lv_aload_n hx hb dX2_reachedAfter_17 rfl (lv_at hl 2 rfl) ?_
        refine va_get (D := D) (ci := 2) (v := .int (nI nl)) (C := RX2) (T := TX2) (N := 10) hx hb hts hiX2 hown hK hP 0 rfl rfl 1 (by decide) hf15 (fun _ h9 => h9) rfl dX2_reachedAfter_18 ?_
        refine ln_icmp_ge (tgt := 85) hx hb (by omega) (by omega) dX2_reachedAfter_21 (by decide) (fun c21 => ?_) (fun c21 => ?_)
        · refine lv_iload_n hx hb dX2_reachedAfter_85 rfl (lv_at hl 1 rfl) ?_
          exact hret 86 ls _ (fun i hi => h2.1 i (by omega)) dX2_reachedAfter_86
        · have jn63 : ∀ (g : Bool), (g = if tok = nI 10 then bt a q else (bt x q && stB lt tok q)) → ∀ ls : Array Slot, lv_has ls 6 [(4, .int (nI q)), (3, .int a), (0, .ref b0), (1, .int tok), (2, .int x)] → W p l e (rmO 1 0 0 22) s m args below meth c s.heap [] 0 0 Q (F0 m 63 ls [.int (bI g)]) := by
            intro g hg ls hl
            refine lv_istore (lv' := [(5, .int (bI g)), (4, .int (nI q)), (3, .int a), (0, .ref b0), (1, .int tok), (2, .int x)]) hx hb dX2_reachedAfter_63 hl (by decide) rfl (fun ls hl => ?_)
            refine lv_iload hx hb dX2_reachedAfter_65 (lv_at hl 0 rfl) ?_
            refine lb_if_eq (tgt := 79) hx hb dX2_reachedAfter_67 (by decide) (fun c67 => ?_) (fun c67 => ?_)
            · refine lv_iinc (v := (nI (q + 1))) (lv' := [(4, .int (nI (q + 1))), (5, .int (bI g)), (3, .int a), (0, .ref b0), (1, .int tok), (2, .int x)]) hx hb dX2_reachedAfter_79 hl (k := 1) rfl (nI_add _ _) (by decide) rfl (fun ls hl => ?_)
              refine lv_goto (tgt := 15) hx hb dX2_reachedAfter_82 (by decide) ?_
              exact ih15 (q + 1) a (by omega) (by omega) (by have h9 := raI_s (by omega) h2 hg; rw [if_neg (by rw [c67]; decide)] at h9; exact h9) _ (lv_sub hl [0, 2, 3, 4, 5] rfl)
            · refine lv_iload_n hx hb dX2_reachedAfter_70 rfl (lv_at hl 2 rfl) ?_
              refine lv_iconst (v := (nI 1)) hx hb dX2_reachedAfter_71 rfl ?_
              refine lv_iload hx hb dX2_reachedAfter_72 (lv_at hl 1 rfl) ?_
              refine lv_iconst (v := (nI 1)) hx hb dX2_reachedAfter_74 rfl ?_
              refine ln_iadd (n := q + 1) hx hb rfl dX2_reachedAfter_75 ?_
              refine lv_ishl hx hb dX2_reachedAfter_76 ?_
              refine lv_ior hx hb dX2_reachedAfter_77 ?_
              refine lv_istore_n (lv' := [(3, .int (a ||| ((nI 1) <<< ((nI (q + 1)) &&& 31)))), (5, .int (bI g)), (4, .int (nI q)), (0, .ref b0), (1, .int tok), (2, .int x)]) hx hb dX2_reachedAfter_78 rfl hl (by decide) rfl (fun ls hl => ?_)
              refine lv_iinc (v := (nI (q + 1))) (lv' := [(4, .int (nI (q + 1))), (3, .int (a ||| ((nI 1) <<< ((nI (q + 1)) &&& 31)))), (5, .int (bI g)), (0, .ref b0), (1, .int tok), (2, .int x)]) hx hb dX2_reachedAfter_79 hl (k := 2) rfl (nI_add _ _) (by decide) rfl (fun ls hl => ?_)
              refine lv_goto (tgt := 15) hx hb dX2_reachedAfter_82 (by decide) ?_
              exact ih15 (q + 1) (a ||| ((nI 1) <<< ((nI (q + 1)) &&& 31))) (by omega) (by omega) (by have h9 := raI_s (by omega) h2 hg; rw [if_pos c67] at h9; exact h9) _ (lv_sub hl [0, 1, 3, 4, 5] rfl)
          refine lv_iload_n hx hb dX2_reachedAfter_24 rfl (lv_at hl 3 rfl) ?_
          refine lv_bipush (v := (nI 10)) hx hb dX2_reachedAfter_25 rfl ?_
          refine lv_icmp_ne (tgt := 39) hx hb dX2_reachedAfter_27 (by decide) (fun c27 => ?_) (fun c27 => ?_)
          · refine lv_iload_n hx hb dX2_reachedAfter_39 rfl (lv_at hl 4 rfl) ?_
            refine lv_iload hx hb dX2_reachedAfter_40 (lv_at hl 0 rfl) ?_
            refine rd_S (own := RX2) (As := [.int x, .int (nI q)]) (rest := []) (bytes := cX2_isReached) (maxL := 2) ⟨hx, hb, hml, hown, hts⟩ (kX2_isReached l D y3 x q (by omega)) gX2_reachedAfter_X2_isReached rfl hvX2_isReached ⟨Nat.le_of_ble_eq_true rfl, Nat.le_of_ble_eq_true rfl⟩ hP hK [] rfl  hl.1 rfl (Nat.le_of_ble_eq_true rfl) dX2_reachedAfter_42 ⟨Nat.zero_le _, Nat.zero_le _⟩ (fun r2 hr2 => ?_)
            subst hr2
            refine lb_if_eq (tgt := 62) hx hb dX2_reachedAfter_45 (by decide) (fun c45 => ?_) (fun c45 => ?_)
            · refine lv_iconst (v := (nI 0)) hx hb dX2_reachedAfter_62 rfl ?_
              exact jn63 false (by first | (rw [if_neg c27, c45]; rfl) | (rw [if_neg c27, c55, Bool.and_false])) _ (lv_sub hl [0, 1, 2, 3, 4] rfl)
            · refine lv_aload_n hx hb dX2_reachedAfter_48 rfl (lv_at hl 2 rfl) ?_
              refine lv_iload_n hx hb dX2_reachedAfter_49 rfl (lv_at hl 3 rfl) ?_
              refine lv_iload hx hb dX2_reachedAfter_50 (lv_at hl 0 rfl) ?_
              refine rd_V (ci := 2) (q0 := 0) (own := RX2) (As := [.int tok, .int (nI q)]) (rest := []) (bytes := cX2_standsFor) (maxL := 3) ⟨hx, hb, hml, hown, hts⟩ (kX2_standsFor l D y3 b0 b1 b2 b3 b4 b5 b6 b7 nl np nt lt tok q (by omega)) gX2_reachedAfter_X2_standsFor rfl hvX2_standsFor ⟨Nat.le_of_ble_eq_true rfl, Nat.le_of_ble_eq_true rfl⟩ hP hK [0, 1] rfl rfl rfl hl.1 rfl (Nat.le_of_ble_eq_true rfl) dX2_reachedAfter_52 ⟨Nat.zero_le _, Nat.zero_le _⟩ (fun r3 hr3 => ?_)
              subst hr3
              refine lb_if_eq (tgt := 62) hx hb dX2_reachedAfter_55 (by decide) (fun c55 => ?_) (fun c55 => ?_)
              · refine lv_iconst (v := (nI 0)) hx hb dX2_reachedAfter_62 rfl ?_
                exact jn63 false (by first | (rw [if_neg c27, c45]; rfl) | (rw [if_neg c27, c55, Bool.and_false])) _ (lv_sub hl [0, 1, 2, 3, 4] rfl)
              · refine lv_iconst (v := (nI 1)) hx hb dX2_reachedAfter_58 rfl ?_
                refine lv_goto (tgt := 63) hx hb dX2_reachedAfter_59 (by decide) ?_
                exact jn63 true (by rw [if_neg c27, c45, c55]; rfl) _ (lv_sub hl [0, 1, 2, 3, 4] rfl)
          · refine lv_iload_n hx hb dX2_reachedAfter_30 rfl (lv_at hl 1 rfl) ?_
            refine lv_iload hx hb dX2_reachedAfter_31 (lv_at hl 0 rfl) ?_
            refine rd_S (own := RX2) (As := [.int a, .int (nI q)]) (rest := []) (bytes := cX2_isReached) (maxL := 2) ⟨hx, hb, hml, hown, hts⟩ (kX2_isReached l D y3 a q (by omega)) gX2_reachedAfter_X2_isReached rfl hvX2_isReached ⟨Nat.le_of_ble_eq_true rfl, Nat.le_of_ble_eq_true rfl⟩ hP hK [] rfl  hl.1 rfl (Nat.le_of_ble_eq_true rfl) dX2_reachedAfter_33 ⟨Nat.zero_le _, Nat.zero_le _⟩ (fun r4 hr4 => ?_)
            subst hr4
            refine lv_goto (tgt := 63) hx hb dX2_reachedAfter_36 (by decide) ?_
            exact jn63 (bt a q) (by rw [if_pos c27]) _ (lv_sub hl [0, 1, 2, 3, 4] rfl)
    exact lp15 _ 0 y (Nat.lt_succ_self _) (Nat.zero_le _) (by rw [e11]; exact raI_0) _ (lv_sub hl [0, 1, 2, 3, 4] rfl)
  refine lv_icmp_ne (tgt := 10) hx hb dX2_reachedAfter_3 (by decide) (fun c3 => ?_) (fun c3 => ?_)
  · refine lv_iconst (v := (nI 0)) hx hb dX2_reachedAfter_10 rfl ?_
    exact jn11 (nI 0) (by first | rw [if_pos c3] | rw [if_neg c3]) _ (lv_sub hl [0, 1, 2] rfl)
  · refine lv_iload_n hx hb dX2_reachedAfter_6 rfl (lv_at hl 2 rfl) ?_
    refine lv_goto (tgt := 11) hx hb dX2_reachedAfter_7 (by decide) ?_
    exact jn11 x (by first | rw [if_pos c3] | rw [if_neg c3]) _ (lv_sub hl [0, 1, 2] rfl)

set_option maxHeartbeats 4000000 in
set_option maxRecDepth 100000 in
theorem kX2_fitsName (l : Launch) (D : va_G) (y3 : ClassId × ClassId × ClassId) (b0 : Nat) (b1 : Nat) (b2 : Nat) (b3 : Nat) (b4 : Nat) (b5 : Nat) (b6 : Nat) (b7 : Nat) (nl : Nat) (np : Nat) (nt : Nat) (lt : Nat → Int32) (ln : Nat → Nat) (tk : Nat → Int32) (j : Nat) (hj : j < 20) (hnl : nl ≤ 12) (hln : ∀ q : Nat, ln q ≤ 8) : rdM l yX2_fitsName wsX2_fitsName 2 47 D y3 [(b0, .inr (2, [.ref b1, .int (nI nl), .ref b2, .ref b3, .ref b4, .ref b5, .ref b6, .int (nI np), .int (nI nt), .ref b7])), (b1, .inl (y3.1, 12, .inl lt)), (b4, .inl (y3.1, 20, .inl (fN ln))), (b6, .inl (y3.1, 160, .inl tk))] [.ref b0, .int (nI j)] (fun r => r = (bI (fitB lt nl tk ln j))) := by
  refine rz_of (cc := cX2_fitsName) (maxL := 5) (by decide) rfl (Nat.le_of_ble_eq_true rfl) ?_
  intro p e s m args below meth c Q hx hb hml hown hts hP hK hret ls hl
  replace hl : lv_has ls 5 [(0, .ref b0), (1, .int (nI j))] := hl
  have q1 := hln j
  have hf15 := hts (.fieldLink RX2 15 "KindGuesser$NameSide" "letterCount" "I") (by decide +kernel)
  have hf25 := hts (.fieldLink RX2 25 "KindGuesser$NameSide" "lengths" "[I") (by decide +kernel)
  have hf32 := hts (.fieldLink RX2 32 "KindGuesser$NameSide" "tokenRows" "[I") (by decide +kernel)
  have hiX2 : ∀ q ∈ wsX20, q ∈ wsX2_fitsName := by decide +kernel
  refine lv_iload_n hx hb dX2_fitsName_0 rfl (lv_at hl 1 rfl) ?_
  refine lv_bipush (v := (nI 8)) hx hb dX2_fitsName_1 rfl ?_
  refine ln_imul (n := j * 8) hx hb (by omega) dX2_fitsName_3 ?_
  refine lv_istore_n (lv' := [(2, .int (nI (j * 8))), (0, .ref b0), (1, .int (nI j))]) hx hb dX2_fitsName_4 rfl hl (by decide) rfl (fun ls hl => ?_)
  refine lv_iconst (v := (nI 1)) hx hb dX2_fitsName_5 rfl ?_
  refine lv_istore_n (lv' := [(3, .int (nI 1)), (2, .int (nI (j * 8))), (0, .ref b0), (1, .int (nI j))]) hx hb dX2_fitsName_6 rfl hl (by decide) rfl (fun ls hl => ?_)
  refine lv_iconst (v := (nI 0)) hx hb dX2_fitsName_7 rfl ?_
  refine lv_istore (lv' := [(4, .int (nI 0)), (3, .int (nI 1)), (2, .int (nI (j * 8))), (0, .ref b0), (1, .int (nI j))]) hx hb dX2_fitsName_8 hl (by decide) rfl (fun ls hl => ?_)
  have lp10 : ∀ (n1 : Nat) (k : Nat) (x : Int32), ln j - k < n1 → (k ≤ ln j) → (∀ i : Nat, i ≤ nl → bt x i = rchB lt tk (j * 8) k i) → ∀ ls : Array Slot, lv_has ls 5 [(4, .int (nI k)), (3, .int x), (2, .int (nI (j * 8))), (0, .ref b0), (1, .int (nI j))] → W p l e (rmO 2 0 0 47) s m args below meth c s.heap [] 0 0 Q (F0 m 10 ls []) := by
    intro n1
    induction n1 with
    | zero => intro k x hm; exact absurd hm (Nat.not_lt_zero _)
    | succ n1 ih10 =>
      intro k x hm10 h1 h2 ls hl
      refine lv_iload hx hb dX2_fitsName_10 (lv_at hl 0 rfl) ?_
      refine lv_aload_n hx hb dX2_fitsName_12 rfl (lv_at hl 3 rfl) ?_
      refine va_get (D := D) (ci := 2) (v := .ref b4) (C := RX2) (T := TX2) (N := 10) hx hb hts hiX2 hown hK hP 0 rfl rfl 4 (by decide) hf25 (fun _ h9 => h9) rfl dX2_fitsName_13 ?_
      refine lv_iload_n hx hb dX2_fitsName_16 rfl (lv_at hl 4 rfl) ?_
      refine ln_ialdN hx hb hK hP 2 0 rfl rfl (by omega) (by decide) dX2_fitsName_17 ?_
      refine ln_icmp_ge (tgt := 42) hx hb (by omega) (by omega) dX2_fitsName_18 (by decide) (fun c18 => ?_) (fun c18 => ?_)
      · refine lv_iload_n hx hb dX2_fitsName_42 rfl (lv_at hl 1 rfl) ?_
        refine lv_aload_n hx hb dX2_fitsName_43 rfl (lv_at hl 3 rfl) ?_
        refine va_get (D := D) (ci := 2) (v := .int (nI nl)) (C := RX2) (T := TX2) (N := 10) hx hb hts hiX2 hown hK hP 0 rfl rfl 1 (by decide) hf15 (fun _ h9 => h9) rfl dX2_fitsName_44 ?_
        refine rd_S (own := RX2) (As := [.int x, .int (nI nl)]) (rest := []) (bytes := cX2_isReached) (maxL := 2) ⟨hx, hb, hml, hown, hts⟩ (kX2_isReached l D y3 x nl (by omega)) gX2_fitsName_X2_isReached rfl hvX2_isReached ⟨Nat.le_of_ble_eq_true rfl, Nat.le_of_ble_eq_true rfl⟩ hP hK [] rfl  hl.1 rfl (Nat.le_of_ble_eq_true rfl) dX2_fitsName_47 ⟨Nat.zero_le _, Nat.zero_le _⟩ (fun r2 hr2 => ?_)
        subst hr2
        exact hret 50 ls _ (by rw [h2 nl (Nat.le_refl _), show k = ln j from by omega]; rfl) dX2_fitsName_50
      · refine lv_aload_n hx hb dX2_fitsName_21 rfl (lv_at hl 3 rfl) ?_
        refine lv_aload_n hx hb dX2_fitsName_22 rfl (lv_at hl 3 rfl) ?_
        refine va_get (D := D) (ci := 2) (v := .ref b6) (C := RX2) (T := TX2) (N := 10) hx hb hts hiX2 hown hK hP 0 rfl rfl 6 (by decide) hf32 (fun _ h9 => h9) rfl dX2_fitsName_23 ?_
        refine lv_iload_n hx hb dX2_fitsName_26 rfl (lv_at hl 2 rfl) ?_
        refine lv_iload hx hb dX2_fitsName_27 (lv_at hl 0 rfl) ?_
        refine ln_iadd (n := (j * 8) + k) hx hb (by omega) dX2_fitsName_29 ?_
        refine ln_iald hx hb hK hP 3 0 rfl rfl (by omega) (by decide) dX2_fitsName_30 ?_
        refine lv_iload_n hx hb dX2_fitsName_31 rfl (lv_at hl 1 rfl) ?_
        refine rd_V (ci := 2) (q0 := 0) (own := RX2) (As := [.int (tk ((j * 8) + k)), .int x]) (rest := []) (bytes := cX2_reachedAfter) (maxL := 6) ⟨hx, hb, hml, hown, hts⟩ (kX2_reachedAfter l D y3 b0 b1 b2 b3 b4 b5 b6 b7 nl np nt lt (tk ((j * 8) + k)) x (by omega)) gX2_fitsName_X2_reachedAfter rfl hvX2_reachedAfter ⟨Nat.le_of_ble_eq_true rfl, Nat.le_of_ble_eq_true rfl⟩ hP hK [0, 1] rfl rfl rfl hl.1 rfl (Nat.le_of_ble_eq_true rfl) dX2_fitsName_32 ⟨Nat.zero_le _, Nat.zero_le _⟩ (fun r32 hr32 => ?_)
        refine lv_istore_n (lv' := [(3, .int r32), (4, .int (nI k)), (2, .int (nI (j * 8))), (0, .ref b0), (1, .int (nI j))]) hx hb dX2_fitsName_35 rfl hl (by decide) rfl (fun ls hl => ?_)
        refine lv_iinc (v := (nI (k + 1))) (lv' := [(4, .int (nI (k + 1))), (3, .int r32), (2, .int (nI (j * 8))), (0, .ref b0), (1, .int (nI j))]) hx hb dX2_fitsName_36 hl (k := 1) rfl (nI_add _ _) (by decide) rfl (fun ls hl => ?_)
        refine lv_goto (tgt := 10) hx hb dX2_fitsName_39 (by decide) ?_
        exact ih10 (k + 1) r32 (by omega) (by omega) (fun i hi => (hr32 i hi).trans (stpB_congr (fun q hq => h2 q (by omega)))) _ (lv_sub hl [0, 1, 2, 3, 4] rfl)
  exact lp10 _ 0 (nI 1) (Nat.lt_succ_self _) (Nat.zero_le _) (fun i hi => b_one i (by omega)) _ (lv_sub hl [0, 1, 2, 3, 4] rfl)

set_option maxHeartbeats 4000000 in
set_option maxRecDepth 100000 in
theorem kX2_isOf (l : Launch) (D : va_G) (y3 : ClassId × ClassId × ClassId) (b0 : Nat) (b1 : Nat) (b2 : Nat) (b3 : Nat) (b4 : Nat) (b5 : Nat) (b6 : Nat) (b7 : Nat) (nl : Nat) (np : Nat) (nt : Nat) (a0 : Nat) (a1 : Nat) (nk : Nat) (par : Nat → Int32) (kp : Nat → Nat) (j : Nat) (g : Int32) (hj : j < 20) (hkj : kp j < nk) (hk : nk ≤ 14) (hp : parOK par nk) : rdM l yX2_isOf wsX2_isOf 3 66 D y3 [(b0, .inr (2, [.ref b1, .int (nI nl), .ref b2, .ref b3, .ref b4, .ref b5, .ref b6, .int (nI np), .int (nI nt), .ref b7])), (b2, .inl (y3.1, 20, .inl (fN kp))), (a0, .inr (1, [.ref a1, .int (nI nk)])), (a1, .inl (y3.1, 14, .inl par))] [.ref b0, .ref a0, .int (nI j), .int g] (fun r => r = (bI (isO par kp g j))) := by
  refine rz_of (cc := cX2_isOf) (maxL := 4) (by decide) rfl (Nat.le_of_ble_eq_true rfl) ?_
  intro p e s m args below meth c Q hx hb hml hown hts hP hK hret ls hl
  replace hl : lv_has ls 4 [(0, .ref b0), (1, .ref a0), (2, .int (nI j)), (3, .int g)] := hl
  have hf19 := hts (.fieldLink RX2 19 "KindGuesser$NameSide" "kindsOfPatterns" "[I") (by decide +kernel)
  have hiX2 : ∀ q ∈ wsX20, q ∈ wsX2_isOf := by decide +kernel
  refine lv_iload_n hx hb dX2_isOf_0 rfl (lv_at hl 3 rfl) ?_
  refine lv_iconst (v := (-1)) hx hb dX2_isOf_1 rfl ?_
  refine lv_icmp_eq (tgt := 19) hx hb dX2_isOf_2 (by decide) (fun c2 => ?_) (fun c2 => ?_)
  · refine lv_iconst (v := (nI 1)) hx hb dX2_isOf_19 rfl ?_
    refine lv_goto (tgt := 24) hx hb dX2_isOf_20 (by decide) ?_
    exact hret 24 ls _ (bI_t (by unfold isO; first | (rw [decide_eq_true c2]; rfl) | (rw [c16, Bool.or_true]))) dX2_isOf_24
  · refine lv_aload_n hx hb dX2_isOf_5 rfl (lv_at hl 1 rfl) ?_
    refine lv_aload_n hx hb dX2_isOf_6 rfl (lv_at hl 0 rfl) ?_
    refine va_get (D := D) (ci := 2) (v := .ref b2) (C := RX2) (T := TX2) (N := 10) hx hb hts hiX2 hown hK hP 0 rfl rfl 2 (by decide) hf19 (fun _ h9 => h9) rfl dX2_isOf_7 ?_
    refine lv_iload_n hx hb dX2_isOf_10 rfl (lv_at hl 2 rfl) ?_
    refine ln_ialdN hx hb hK hP 1 0 rfl rfl (by omega) (by decide) dX2_isOf_11 ?_
    refine lv_iload_n hx hb dX2_isOf_12 rfl (lv_at hl 3 rfl) ?_
    refine rd_V (ci := 1) (q0 := 0) (own := RX2) (As := [.int (nI (kp j)), .int g]) (rest := []) (bytes := cX1_leadsUp) (maxL := 5) ⟨hx, hb, hml, hown, hts⟩ (kX1_leadsUp l D y3 a0 a1 nk par (kp j) g (by omega) (by assumption) (by omega)) gX2_isOf_X1_leadsUp rfl hvX1_leadsUp ⟨Nat.le_of_ble_eq_true rfl, Nat.le_of_ble_eq_true rfl⟩ hP hK [2, 3] rfl rfl rfl hl.1 rfl (Nat.le_of_ble_eq_true rfl) dX2_isOf_13 ⟨Nat.zero_le _, Nat.zero_le _⟩ (fun r1 hr1 => ?_)
    subst hr1
    refine lb_if_eq (tgt := 23) hx hb dX2_isOf_16 (by decide) (fun c16 => ?_) (fun c16 => ?_)
    · refine lv_iconst (v := (nI 0)) hx hb dX2_isOf_23 rfl ?_
      exact hret 24 ls _ (bI_f (by unfold isO; rw [decide_eq_false c2, c16]; rfl)) dX2_isOf_24
    · refine lv_iconst (v := (nI 1)) hx hb dX2_isOf_19 rfl ?_
      refine lv_goto (tgt := 24) hx hb dX2_isOf_20 (by decide) ?_
      exact hret 24 ls _ (bI_t (by unfold isO; first | (rw [decide_eq_true c2]; rfl) | (rw [c16, Bool.or_true]))) dX2_isOf_24

set_option maxHeartbeats 4000000 in
set_option maxRecDepth 100000 in
theorem kX2_firstFitting (l : Launch) (D : va_G) (y3 : ClassId × ClassId × ClassId) (b0 : Nat) (b1 : Nat) (b2 : Nat) (b3 : Nat) (b4 : Nat) (b5 : Nat) (b6 : Nat) (b7 : Nat) (nl : Nat) (np : Nat) (nt : Nat) (a0 : Nat) (a1 : Nat) (nk : Nat) (par : Nat → Int32) (lt : Nat → Int32) (kp : Nat → Nat) (wt : Nat → Int32) (ln : Nat → Nat) (th : Nat → Bool) (tk : Nat → Int32) (g : Int32) (hnp : np ≤ 20) (hnl : nl ≤ 12) (hk : nk ≤ 14) (hp : parOK par nk) (hkp : ∀ q : Nat, q < np → kp q < nk) (hln : ∀ q : Nat, ln q ≤ 8) : rdM l yX2_firstFitting wsX2_firstFitting 4 89 D y3 [(b0, .inr (2, [.ref b1, .int (nI nl), .ref b2, .ref b3, .ref b4, .ref b5, .ref b6, .int (nI np), .int (nI nt), .ref b7])), (b1, .inl (y3.1, 12, .inl lt)), (b2, .inl (y3.1, 20, .inl (fN kp))), (b3, .inl (y3.1, 20, .inl wt)), (b4, .inl (y3.1, 20, .inl (fN ln))), (b5, .inl (y3.2.1, 20, .inl (fB th))), (b6, .inl (y3.1, 160, .inl tk)), (a0, .inr (1, [.ref a1, .int (nI nk)])), (a1, .inl (y3.1, 14, .inl par))] [.ref b0, .ref a0, .int g] (fun r => r = (oI (bstB (cnP par kp th lt nl tk ln g) (ahP wt ln) np))) := by
  refine rd_of (cc := cX2_firstFitting) (maxL := 6) (by decide) rfl (Nat.le_of_ble_eq_true rfl) ?_
  intro p e s m args below meth c Q hx hb hml hown hts hP hK hret ls hl
  replace hl : lv_has ls 6 [(0, .ref b0), (1, .ref a0), (2, .int g)] := hl
  have hf28 := hts (.fieldLink RX2 28 "KindGuesser$NameSide" "there" "[Z") (by decide +kernel)
  have hf35 := hts (.fieldLink RX2 35 "KindGuesser$NameSide" "patternCount" "I") (by decide +kernel)
  have hiX2 : ∀ q ∈ wsX20, q ∈ wsX2_firstFitting := by decide +kernel
  refine lv_iconst (v := (-1)) hx hb dX2_firstFitting_0 rfl ?_
  refine lv_istore_n (lv' := [(3, .int (-1)), (0, .ref b0), (1, .ref a0), (2, .int g)]) hx hb dX2_firstFitting_1 rfl hl (by decide) rfl (fun ls hl => ?_)
  refine lv_iconst (v := (nI 0)) hx hb dX2_firstFitting_2 rfl ?_
  refine lv_istore (lv' := [(4, .int (nI 0)), (3, .int (-1)), (0, .ref b0), (1, .ref a0), (2, .int g)]) hx hb dX2_firstFitting_3 hl (by decide) rfl (fun ls hl => ?_)
  have lp5 : ∀ (n1 : Nat) (k : Nat) (o : Option Nat), np - k < n1 → (k ≤ np) → (o = bstB (cnP par kp th lt nl tk ln g) (ahP wt ln) k) → ∀ ls : Array Slot, lv_has ls 6 [(4, .int (nI k)), (3, .int (oI o)), (0, .ref b0), (1, .ref a0), (2, .int g)] → W p l e (rmO 4 0 0 89) s m args below meth c s.heap [] 0 0 Q (F0 m 5 ls []) := by
    intro n1
    induction n1 with
    | zero => intro k o hm; exact absurd hm (Nat.not_lt_zero _)
    | succ n1 ih5 =>
      intro k o hm5 h1 h2 ls hl
      have hob : ∀ b, o = some b → b < 2 ^ 31 := fun b hb => by have := (bstB_lt (h2.symm.trans hb)).1; omega
      refine lv_iload hx hb dX2_firstFitting_5 (lv_at hl 0 rfl) ?_
      refine lv_aload_n hx hb dX2_firstFitting_7 rfl (lv_at hl 2 rfl) ?_
      refine va_get (D := D) (ci := 2) (v := .int (nI np)) (C := RX2) (T := TX2) (N := 10) hx hb hts hiX2 hown hK hP 0 rfl rfl 7 (by decide) hf35 (fun _ h9 => h9) rfl dX2_firstFitting_8 ?_
      refine ln_icmp_ge (tgt := 80) hx hb (by omega) (by omega) dX2_firstFitting_11 (by decide) (fun c11 => ?_) (fun c11 => ?_)
      · refine lv_iload_n hx hb dX2_firstFitting_80 rfl (lv_at hl 1 rfl) ?_
        exact hret 81 ls _ (by rw [h2, show k = np from by omega]) dX2_firstFitting_81
      · have jn44 : ∀ (g1 : Bool), (g1 = (th k && ahO (ahP wt ln) k o)) → ∀ ls : Array Slot, lv_has ls 6 [(4, .int (nI k)), (3, .int (oI o)), (0, .ref b0), (1, .ref a0), (2, .int g)] → W p l e (rmO 4 0 0 89) s m args below meth c s.heap [] 0 0 Q (F0 m 44 ls [.int (bI g1)]) := by
          intro g1 hg ls hl
          refine lv_istore (lv' := [(5, .int (bI g1)), (4, .int (nI k)), (3, .int (oI o)), (0, .ref b0), (1, .ref a0), (2, .int g)]) hx hb dX2_firstFitting_44 hl (by decide) rfl (fun ls hl => ?_)
          refine lv_iload hx hb dX2_firstFitting_46 (lv_at hl 0 rfl) ?_
          refine lb_if_eq (tgt := 74) hx hb dX2_firstFitting_48 (by decide) (fun c48 => ?_) (fun c48 => ?_)
          · refine lv_iinc (v := (nI (k + 1))) (lv' := [(4, .int (nI (k + 1))), (5, .int (bI g1)), (3, .int (oI o)), (0, .ref b0), (1, .ref a0), (2, .int g)]) hx hb dX2_firstFitting_74 hl (k := 1) rfl (nI_add _ _) (by decide) rfl (fun ls hl => ?_)
            refine lv_goto (tgt := 5) hx hb dX2_firstFitting_77 (by decide) ?_
            exact ih5 (k + 1) o (by omega) (by omega) (bstB_no h2 (by first | exact ff_no (hg.symm.trans c48) | exact Or.inr (cnP_n1 c59) | exact Or.inr (cnP_n2 c68))) _ (lv_sub hl [0, 2, 3, 4, 5] rfl)
          · refine lv_aload_n hx hb dX2_firstFitting_51 rfl (lv_at hl 3 rfl) ?_
            refine lv_aload_n hx hb dX2_firstFitting_52 rfl (lv_at hl 4 rfl) ?_
            refine lv_iload hx hb dX2_firstFitting_53 (lv_at hl 1 rfl) ?_
            refine lv_iload_n hx hb dX2_firstFitting_55 rfl (lv_at hl 5 rfl) ?_
            refine rd_V (ci := 2) (q0 := 0) (own := RX2) (As := [.ref a0, .int (nI k), .int g]) (rest := []) (bytes := cX2_isOf) (maxL := 4) ⟨hx, hb, hml, hown, hts⟩ (kX2_isOf l D y3 b0 b1 b2 b3 b4 b5 b6 b7 nl np nt a0 a1 nk par kp k g (by omega) (hkp k (by omega)) (by omega) (by assumption)) gX2_firstFitting_X2_isOf rfl hvX2_isOf ⟨Nat.le_of_ble_eq_true rfl, Nat.le_of_ble_eq_true rfl⟩ hP hK [0, 2, 7, 8] rfl rfl rfl hl.1 rfl (Nat.le_of_ble_eq_true rfl) dX2_firstFitting_56 ⟨Nat.zero_le _, Nat.zero_le _⟩ (fun r2 hr2 => ?_)
            subst hr2
            refine lb_if_eq (tgt := 74) hx hb dX2_firstFitting_59 (by decide) (fun c59 => ?_) (fun c59 => ?_)
            · refine lv_iinc (v := (nI (k + 1))) (lv' := [(4, .int (nI (k + 1))), (5, .int (bI g1)), (3, .int (oI o)), (0, .ref b0), (1, .ref a0), (2, .int g)]) hx hb dX2_firstFitting_74 hl (k := 1) rfl (nI_add _ _) (by decide) rfl (fun ls hl => ?_)
              refine lv_goto (tgt := 5) hx hb dX2_firstFitting_77 (by decide) ?_
              exact ih5 (k + 1) o (by omega) (by omega) (bstB_no h2 (by first | exact ff_no (hg.symm.trans c48) | exact Or.inr (cnP_n1 c59) | exact Or.inr (cnP_n2 c68))) _ (lv_sub hl [0, 2, 3, 4, 5] rfl)
            · refine lv_aload_n hx hb dX2_firstFitting_62 rfl (lv_at hl 3 rfl) ?_
              refine lv_iload hx hb dX2_firstFitting_63 (lv_at hl 1 rfl) ?_
              refine rd_V (ci := 2) (q0 := 0) (own := RX2) (As := [.int (nI k)]) (rest := []) (bytes := cX2_fitsName) (maxL := 5) ⟨hx, hb, hml, hown, hts⟩ (kX2_fitsName l D y3 b0 b1 b2 b3 b4 b5 b6 b7 nl np nt lt ln tk k (by omega) (by omega) (by assumption)) gX2_firstFitting_X2_fitsName rfl hvX2_fitsName ⟨Nat.le_of_ble_eq_true rfl, Nat.le_of_ble_eq_true rfl⟩ hP hK [0, 1, 4, 6] rfl rfl rfl hl.1 rfl (Nat.le_of_ble_eq_true rfl) dX2_firstFitting_65 ⟨Nat.zero_le _, Nat.zero_le _⟩ (fun r3 hr3 => ?_)
              subst hr3
              refine lb_if_eq (tgt := 74) hx hb dX2_firstFitting_68 (by decide) (fun c68 => ?_) (fun c68 => ?_)
              · refine lv_iinc (v := (nI (k + 1))) (lv' := [(4, .int (nI (k + 1))), (5, .int (bI g1)), (3, .int (oI o)), (0, .ref b0), (1, .ref a0), (2, .int g)]) hx hb dX2_firstFitting_74 hl (k := 1) rfl (nI_add _ _) (by decide) rfl (fun ls hl => ?_)
                refine lv_goto (tgt := 5) hx hb dX2_firstFitting_77 (by decide) ?_
                exact ih5 (k + 1) o (by omega) (by omega) (bstB_no h2 (by first | exact ff_no (hg.symm.trans c48) | exact Or.inr (cnP_n1 c59) | exact Or.inr (cnP_n2 c68))) _ (lv_sub hl [0, 2, 3, 4, 5] rfl)
              · refine lv_iload hx hb dX2_firstFitting_71 (lv_at hl 1 rfl) ?_
                refine lv_istore_n (lv' := [(3, .int (nI k)), (5, .int (bI g1)), (4, .int (nI k)), (0, .ref b0), (1, .ref a0), (2, .int g)]) hx hb dX2_firstFitting_73 rfl hl (by decide) rfl (fun ls hl => ?_)
                refine lv_iinc (v := (nI (k + 1))) (lv' := [(4, .int (nI (k + 1))), (3, .int (nI k)), (5, .int (bI g1)), (0, .ref b0), (1, .ref a0), (2, .int g)]) hx hb dX2_firstFitting_74 hl (k := 2) rfl (nI_add _ _) (by decide) rfl (fun ls hl => ?_)
                refine lv_goto (tgt := 5) hx hb dX2_firstFitting_77 (by decide) ?_
                exact ih5 (k + 1) (some k) (by omega) (by omega) (by have h9 := hg.symm.trans c48; rw [Bool.and_eq_true_iff] at h9; exact bstB_yes h2 h9.2 (by unfold cnP; rw [h9.1, c59, c68]; rfl)) _ (lv_sub hl [0, 1, 3, 4, 5] rfl)
        refine lv_aload_n hx hb dX2_firstFitting_14 rfl (lv_at hl 2 rfl) ?_
        refine va_get (D := D) (ci := 2) (v := .ref b5) (C := RX2) (T := TX2) (N := 10) hx hb hts hiX2 hown hK hP 0 rfl rfl 5 (by decide) hf28 (fun _ h9 => h9) rfl dX2_firstFitting_15 ?_
        refine lv_iload hx hb dX2_firstFitting_18 (lv_at hl 0 rfl) ?_
        refine ln_zaldB hx hb hK hP 5 1 rfl rfl (by omega) (by decide) dX2_firstFitting_20 ?_
        refine lb_if_eq (tgt := 43) hx hb dX2_firstFitting_21 (by decide) (fun c21 => ?_) (fun c21 => ?_)
        · refine lv_iconst (v := (nI 0)) hx hb dX2_firstFitting_43 rfl ?_
          exact jn44 false (by first | (rw [c21]; rfl) | (rw [c21, eb]; show false = (true && ahP wt ln k b); rw [c36]; rfl)) _ (lv_sub hl [0, 1, 2, 3, 4] rfl)
        · refine lv_iload_n hx hb dX2_firstFitting_24 rfl (lv_at hl 1 rfl) ?_
          refine lv_iconst (v := (-1)) hx hb dX2_firstFitting_25 rfl ?_
          refine lv_icmp_eq (tgt := 39) hx hb dX2_firstFitting_26 (by decide) (fun c26 => ?_) (fun c26 => ?_)
          · refine lv_iconst (v := (nI 1)) hx hb dX2_firstFitting_39 rfl ?_
            refine lv_goto (tgt := 44) hx hb dX2_firstFitting_40 (by decide) ?_
            exact jn44 true (by first | (rw [c21, oI_none hob c26]; rfl) | (rw [c21, eb]; show true = (true && ahP wt ln k b); rw [c36]; rfl)) _ (lv_sub hl [0, 1, 2, 3, 4] rfl)
          · refine lv_aload_n hx hb dX2_firstFitting_29 rfl (lv_at hl 2 rfl) ?_
            refine lv_iload hx hb dX2_firstFitting_30 (lv_at hl 0 rfl) ?_
            refine lv_iload_n hx hb dX2_firstFitting_32 rfl (lv_at hl 1 rfl) ?_
            obtain ⟨b, eb⟩ := oI_some c26
            have hbl := (bstB_lt (h2.symm.trans eb)).1
            refine ln_eqi (y := (nI b)) (by rw [eb]; rfl) ?_
            refine rd_V (ci := 2) (q0 := 0) (own := RX2) (As := [.int (nI k), .int (nI b)]) (rest := []) (bytes := cX2_isAhead) (maxL := 3) ⟨hx, hb, hml, hown, hts⟩ (kX2_isAhead l D y3 b0 b1 b2 b3 b4 b5 b6 b7 nl np nt wt ln k b (by omega) (by omega) (by assumption)) gX2_firstFitting_X2_isAhead rfl hvX2_isAhead ⟨Nat.le_of_ble_eq_true rfl, Nat.le_of_ble_eq_true rfl⟩ hP hK [0, 3, 4] rfl rfl rfl hl.1 rfl (Nat.le_of_ble_eq_true rfl) dX2_firstFitting_33 ⟨Nat.zero_le _, Nat.zero_le _⟩ (fun r4 hr4 => ?_)
            subst hr4
            refine lb_if_eq (tgt := 43) hx hb dX2_firstFitting_36 (by decide) (fun c36 => ?_) (fun c36 => ?_)
            · refine lv_iconst (v := (nI 0)) hx hb dX2_firstFitting_43 rfl ?_
              exact jn44 false (by first | (rw [c21]; rfl) | (rw [c21, eb]; show false = (true && ahP wt ln k b); rw [c36]; rfl)) _ (lv_sub hl [0, 1, 2, 3, 4] rfl)
            · refine lv_iconst (v := (nI 1)) hx hb dX2_firstFitting_39 rfl ?_
              refine lv_goto (tgt := 44) hx hb dX2_firstFitting_40 (by decide) ?_
              exact jn44 true (by first | (rw [c21, oI_none hob c26]; rfl) | (rw [c21, eb]; show true = (true && ahP wt ln k b); rw [c36]; rfl)) _ (lv_sub hl [0, 1, 2, 3, 4] rfl)
  exact lp5 _ 0 none (Nat.lt_succ_self _) (Nat.zero_le _) rfl _ (lv_sub hl [0, 1, 2, 3, 4] rfl)

set_option maxHeartbeats 4000000 in
set_option maxRecDepth 100000 in
theorem kX2_fillLine (l : Launch) (D : va_G) (y3 : ClassId × ClassId × ClassId) (b0 : Nat) (b1 : Nat) (b2 : Nat) (b3 : Nat) (b4 : Nat) (b5 : Nat) (b6 : Nat) (b7 : Nat) (nl : Nat) (np : Nat) (nt : Nat) (lt : Nat → Int32) (tb : Nat → Bool) (t : Nat) (tok : Int32) (ht : 1 ≤ t) (ht2 : t ≤ 8) (hnl : nl ≤ 12) : wvM l yX2_fillLine wsX2_fillLine 1 22 0 0 D y3 [(b0, .inr (2, [.ref b1, .int (nI nl), .ref b2, .ref b3, .ref b4, .ref b5, .ref b6, .int (nI np), .int (nI nt), .ref b7])), (b1, .inl (y3.1, 12, .inl lt)), (b7, .inl (y3.2.1, 117, .inl (fB tb)))] [.ref b0, .int (nI t), .int tok] (fun u : Nat → Bool => flP lt nl tok tb t u) (fun (u : Nat → Bool) => [(b0, .inr (2, [.ref b1, .int (nI nl), .ref b2, .ref b3, .ref b4, .ref b5, .ref b6, .int (nI np), .int (nI nt), .ref b7])), (b1, .inl (y3.1, 12, .inl lt)), (b7, .inl (y3.2.1, 117, .inl (fB u)))]) := by
  refine wv_of (cc := cX2_fillLine) (maxL := 6) (by decide) rfl (Nat.le_of_ble_eq_true rfl) ?_
  intro p e s m args below meth c A Q hx hb hml hown hts hP hK hD hA hS hin hret ls hl
  replace hl : lv_has ls 6 [(0, .ref b0), (1, .int (nI t)), (2, .int tok)] := hl
  have hf15 := hts (.fieldLink RX2 15 "KindGuesser$NameSide" "letterCount" "I") (by decide +kernel)
  have hf41 := hts (.fieldLink RX2 41 "KindGuesser$NameSide" "table" "[Z") (by decide +kernel)
  have hiX2 : ∀ q ∈ wsX20, q ∈ wsX2_fillLine := by decide +kernel
  refine lv_iload_n hx hb dX2_fillLine_0 rfl (lv_at hl 1 rfl) ?_
  refine lv_bipush (v := (nI 13)) hx hb dX2_fillLine_1 rfl ?_
  refine ln_imul (n := t * 13) hx hb (by omega) dX2_fillLine_3 ?_
  refine lv_istore_n (lv' := [(3, .int (nI (t * 13))), (0, .ref b0), (1, .int (nI t)), (2, .int tok)]) hx hb dX2_fillLine_4 rfl hl (by decide) rfl (fun ls hl => ?_)
  refine lv_iload_n hx hb dX2_fillLine_5 rfl (lv_at hl 0 rfl) ?_
  refine lv_bipush (v := (nI 13)) hx hb dX2_fillLine_6 rfl ?_
  refine ln_isub (n := (t * 13) - 13) hx hb (by omega) (by omega) dX2_fillLine_8 ?_
  refine lv_istore (lv' := [(4, .int (nI ((t * 13) - 13))), (3, .int (nI (t * 13))), (0, .ref b0), (1, .int (nI t)), (2, .int tok)]) hx hb dX2_fillLine_9 hl (by decide) rfl (fun ls hl => ?_)
  have jn37 : ∀ (g0 : Bool), (g0 = (decide (tok = nI 10) && tb (t * 13 - 13))) → ∀ (H : Heap) (locs : List Loc), va_P D vwCl [(b0, .inr (2, [.ref b1, .int (nI nl), .ref b2, .ref b3, .ref b4, .ref b5, .ref b6, .int (nI np), .int (nI nt), .ref b7])), (b1, .inl (y3.1, 12, .inl lt)), (b7, .inl (y3.2.1, 117, .inl (fB tb)))] H → va_D A [(b0, .inr (2, [.ref b1, .int (nI nl), .ref b2, .ref b3, .ref b4, .ref b5, .ref b6, .int (nI np), .int (nI nt), .ref b7])), (b1, .inl (y3.1, 12, .inl lt)), (b7, .inl (y3.2.1, 117, .inl (fB tb)))] → va_S A s.heap H locs → ∀ ls : Array Slot, lv_has ls 6 [(4, .int (nI ((t * 13) - 13))), (3, .int (nI (t * 13))), (0, .ref b0), (1, .int (nI t)), (2, .int tok)] → W p l e (rmO 1 0 0 22) s m args below meth c H locs 0 0 Q (F0 m 37 ls [.int (bI g0), .int (nI (t * 13)), .ref b7]) := by
    intro g0 hg0 H locs hP hD hS ls hl
    refine ln_zastB (b := g0) hx hb hK hP hD hS 2 1 rfl rfl (by omega) (by decide) dX2_fillLine_37 _ rfl (fun H locs hP hD hS => ?_)
    have hP : va_P D vwCl [(b0, .inr (2, [.ref b1, .int (nI nl), .ref b2, .ref b3, .ref b4, .ref b5, .ref b6, .int (nI np), .int (nI nt), .ref b7])), (b1, .inl (y3.1, 12, .inl lt)), (b7, .inl (y3.2.1, 117, .inl (fB (va_up tb (t * 13) g0))))] H := hP
    have hD : va_D A [(b0, .inr (2, [.ref b1, .int (nI nl), .ref b2, .ref b3, .ref b4, .ref b5, .ref b6, .int (nI np), .int (nI nt), .ref b7])), (b1, .inl (y3.1, 12, .inl lt)), (b7, .inl (y3.2.1, 117, .inl (fB (va_up tb (t * 13) g0))))] := hD
    refine lv_iconst (v := (nI 1)) hx hb dX2_fillLine_38 rfl ?_
    refine lv_istore (lv' := [(5, .int (nI 1)), (4, .int (nI ((t * 13) - 13))), (3, .int (nI (t * 13))), (0, .ref b0), (1, .int (nI t)), (2, .int tok)]) hx hb dX2_fillLine_39 hl (by decide) rfl (fun ls hl => ?_)
    have lp41 : ∀ (n1 : Nat) (cl : Nat) (v : Nat → Bool), nl + 1 - cl < n1 → (1 ≤ cl) → (cl ≤ nl + 1) → (∀ q : Nat, (q < t * 13 ∨ t * 13 + cl ≤ q) → v q = tb q) → (∀ i : Nat, i < cl → v (t * 13 + i) = stpB lt tok (fun i => tb (t * 13 - 13 + i)) i) → ∀ (H : Heap) (locs : List Loc), va_P D vwCl [(b0, .inr (2, [.ref b1, .int (nI nl), .ref b2, .ref b3, .ref b4, .ref b5, .ref b6, .int (nI np), .int (nI nt), .ref b7])), (b1, .inl (y3.1, 12, .inl lt)), (b7, .inl (y3.2.1, 117, .inl (fB v)))] H → va_D A [(b0, .inr (2, [.ref b1, .int (nI nl), .ref b2, .ref b3, .ref b4, .ref b5, .ref b6, .int (nI np), .int (nI nt), .ref b7])), (b1, .inl (y3.1, 12, .inl lt)), (b7, .inl (y3.2.1, 117, .inl (fB v)))] → va_S A s.heap H locs → ∀ ls : Array Slot, lv_has ls 6 [(5, .int (nI cl)), (4, .int (nI ((t * 13) - 13))), (3, .int (nI (t * 13))), (0, .ref b0), (1, .int (nI t)), (2, .int tok)] → W p l e (rmO 1 0 0 22) s m args below meth c H locs 0 0 Q (F0 m 41 ls []) := by
      intro n1
      induction n1 with
      | zero => intro cl v hm; exact absurd hm (Nat.not_lt_zero _)
      | succ n1 ih41 =>
        intro cl v hm41 h1 h2 h3 h4 H locs hP hD hS ls hl
        refine lv_iload hx hb dX2_fillLine_41 (lv_at hl 0 rfl) ?_
        refine lv_aload_n hx hb dX2_fillLine_43 rfl (lv_at hl 3 rfl) ?_
        refine va_get (D := D) (ci := 2) (v := .int (nI nl)) (C := RX2) (T := TX2) (N := 10) hx hb hts hiX2 hown hK hP 0 rfl rfl 1 (by decide) hf15 (fun _ h9 => h9) rfl dX2_fillLine_44 ?_
        refine ln_icmp_gt (tgt := 138) hx hb (by omega) (by omega) dX2_fillLine_47 (by decide) (fun c47 => ?_) (fun c47 => ?_)
        · exact hret 138 ls H locs _ _ v hP hD hS (Nat.le_of_ble_eq_true rfl) (Nat.le_of_ble_eq_true rfl) ⟨fun q hq => h3 q (by omega), fun i hi => h4 i (by omega)⟩ dX2_fillLine_138
        · have jn131 : ∀ (g : Bool), (g = stpB lt tok (fun i => tb (t * 13 - 13 + i)) cl) → ∀ (H : Heap) (locs : List Loc), va_P D vwCl [(b0, .inr (2, [.ref b1, .int (nI nl), .ref b2, .ref b3, .ref b4, .ref b5, .ref b6, .int (nI np), .int (nI nt), .ref b7])), (b1, .inl (y3.1, 12, .inl lt)), (b7, .inl (y3.2.1, 117, .inl (fB v)))] H → va_D A [(b0, .inr (2, [.ref b1, .int (nI nl), .ref b2, .ref b3, .ref b4, .ref b5, .ref b6, .int (nI np), .int (nI nt), .ref b7])), (b1, .inl (y3.1, 12, .inl lt)), (b7, .inl (y3.2.1, 117, .inl (fB v)))] → va_S A s.heap H locs → ∀ ls : Array Slot, lv_has ls 6 [(5, .int (nI cl)), (4, .int (nI ((t * 13) - 13))), (3, .int (nI (t * 13))), (0, .ref b0), (1, .int (nI t)), (2, .int tok)] → W p l e (rmO 1 0 0 22) s m args below meth c H locs 0 0 Q (F0 m 131 ls [.int (bI g), .int (nI ((t * 13) + cl)), .ref b7]) := by
            intro g hg H locs hP hD hS ls hl
            refine ln_zastB (b := g) hx hb hK hP hD hS 2 1 rfl rfl (by omega) (by decide) dX2_fillLine_131 _ rfl (fun H locs hP hD hS => ?_)
            have hP : va_P D vwCl [(b0, .inr (2, [.ref b1, .int (nI nl), .ref b2, .ref b3, .ref b4, .ref b5, .ref b6, .int (nI np), .int (nI nt), .ref b7])), (b1, .inl (y3.1, 12, .inl lt)), (b7, .inl (y3.2.1, 117, .inl (fB (va_up v ((t * 13) + cl) g))))] H := hP
            have hD : va_D A [(b0, .inr (2, [.ref b1, .int (nI nl), .ref b2, .ref b3, .ref b4, .ref b5, .ref b6, .int (nI np), .int (nI nt), .ref b7])), (b1, .inl (y3.1, 12, .inl lt)), (b7, .inl (y3.2.1, 117, .inl (fB (va_up v ((t * 13) + cl) g))))] := hD
            refine lv_iinc (v := (nI (cl + 1))) (lv' := [(5, .int (nI (cl + 1))), (4, .int (nI ((t * 13) - 13))), (3, .int (nI (t * 13))), (0, .ref b0), (1, .int (nI t)), (2, .int tok)]) hx hb dX2_fillLine_132 hl (k := 0) rfl (nI_add _ _) (by decide) rfl (fun ls hl => ?_)
            refine lv_goto (tgt := 41) hx hb dX2_fillLine_135 (by decide) ?_
            exact ih41 (cl + 1) (va_up v ((t * 13) + cl) g) (by omega) (by omega) (by omega) (fun q hq => by rw [up_n (by omega)]; exact h3 q (by omega)) (fun i hi => by
                by_cases hic : i = cl
                · subst hic; rw [up_s]; exact hg
                · rw [up_n (by omega)]; exact h4 i (by omega)) _ _ hP hD hS _ (lv_sub hl [0, 1, 2, 3, 4, 5] rfl)
          have e1 : v (((t * 13) - 13) + cl) = tb (t * 13 - 13 + cl) := h3 _ (Or.inl (by omega))
          have e2 : v (((t * 13) + cl) - 1) = stpB lt tok (fun i => tb (t * 13 - 13 + i)) (cl - 1) := by rw [show ((t * 13) + cl) - 1 = t * 13 + (cl - 1) from by omega]; exact h4 (cl - 1) (by omega)
          have e3 : v ((((t * 13) - 13) + cl) - 1) = tb (t * 13 - 13 + (cl - 1)) := by rw [h3 _ (Or.inl (by omega)), show (((t * 13) - 13) + cl) - 1 = t * 13 - 13 + (cl - 1) from by omega]
          refine lv_aload_n hx hb dX2_fillLine_50 rfl (lv_at hl 3 rfl) ?_
          refine va_get (D := D) (ci := 2) (v := .ref b7) (C := RX2) (T := TX2) (N := 10) hx hb hts hiX2 hown hK hP 0 rfl rfl 9 (by decide) hf41 (fun _ h9 => h9) rfl dX2_fillLine_51 ?_
          refine lv_iload_n hx hb dX2_fillLine_54 rfl (lv_at hl 2 rfl) ?_
          refine lv_iload hx hb dX2_fillLine_55 (lv_at hl 0 rfl) ?_
          refine ln_iadd (n := (t * 13) + cl) hx hb (by omega) dX2_fillLine_57 ?_
          refine lv_iload_n hx hb dX2_fillLine_58 rfl (lv_at hl 5 rfl) ?_
          refine lv_bipush (v := (nI 10)) hx hb dX2_fillLine_59 rfl ?_
          refine lv_icmp_ne (tgt := 99) hx hb dX2_fillLine_61 (by decide) (fun c61 => ?_) (fun c61 => ?_)
          · refine lv_aload_n hx hb dX2_fillLine_99 rfl (lv_at hl 3 rfl) ?_
            refine va_get (D := D) (ci := 2) (v := .ref b7) (C := RX2) (T := TX2) (N := 10) hx hb hts hiX2 hown hK hP 0 rfl rfl 9 (by decide) hf41 (fun _ h9 => h9) rfl dX2_fillLine_100 ?_
            refine lv_iload hx hb dX2_fillLine_103 (lv_at hl 1 rfl) ?_
            refine lv_iload hx hb dX2_fillLine_105 (lv_at hl 0 rfl) ?_
            refine ln_iadd (n := ((t * 13) - 13) + cl) hx hb (by omega) dX2_fillLine_107 ?_
            refine lv_iconst (v := (nI 1)) hx hb dX2_fillLine_108 rfl ?_
            refine ln_isub (n := (((t * 13) - 13) + cl) - 1) hx hb (by omega) (by omega) dX2_fillLine_109 ?_
            refine ln_zaldB hx hb hK hP 2 1 rfl rfl (by omega) (by decide) dX2_fillLine_110 ?_
            refine lb_if_eq (tgt := 130) hx hb dX2_fillLine_111 (by decide) (fun c111 => ?_) (fun c111 => ?_)
            · refine lv_iconst (v := (nI 0)) hx hb dX2_fillLine_130 rfl ?_
              exact jn131 false (by first | (rw [fl_10 c61 h1]; show false = (_ || tb (t * 13 - 13 + cl)); rw [← e1, c74, ← e2, c88]; rfl) | (rw [fl_n c61 h1]; show false = (tb (t * 13 - 13 + (cl - 1)) && _); rw [← e3, c111]; rfl) | (rw [fl_n c61 h1, c123, Bool.and_false])) _ _ hP hD hS _ (lv_sub hl [0, 1, 2, 3, 4, 5] rfl)
            · refine lv_aload_n hx hb dX2_fillLine_114 rfl (lv_at hl 3 rfl) ?_
              refine lv_iload_n hx hb dX2_fillLine_115 rfl (lv_at hl 5 rfl) ?_
              refine lv_iload hx hb dX2_fillLine_116 (lv_at hl 0 rfl) ?_
              refine lv_iconst (v := (nI 1)) hx hb dX2_fillLine_118 rfl ?_
              refine ln_isub (n := cl - 1) hx hb (by omega) (by omega) dX2_fillLine_119 ?_
              refine rd_V (ci := 2) (q0 := 0) (own := RX2) (As := [.int tok, .int (nI (cl - 1))]) (rest := [.int (nI ((t * 13) + cl)), .ref b7]) (bytes := cX2_standsFor) (maxL := 3) ⟨hx, hb, hml, hown, hts⟩ (kX2_standsFor l D y3 b0 b1 b2 b3 b4 b5 b6 b7 nl np nt lt tok (cl - 1) (by omega)) gX2_fillLine_X2_standsFor rfl hvX2_standsFor ⟨Nat.le_of_ble_eq_true rfl, Nat.le_of_ble_eq_true rfl⟩ hP hK [0, 1] rfl rfl rfl hl.1 rfl (Nat.le_of_ble_eq_true rfl) dX2_fillLine_120 ⟨Nat.le_of_ble_eq_true rfl, Nat.le_of_ble_eq_true rfl⟩ (fun r2 hr2 => ?_)
              subst hr2
              refine lb_if_eq (tgt := 130) hx hb dX2_fillLine_123 (by decide) (fun c123 => ?_) (fun c123 => ?_)
              · refine lv_iconst (v := (nI 0)) hx hb dX2_fillLine_130 rfl ?_
                exact jn131 false (by first | (rw [fl_10 c61 h1]; show false = (_ || tb (t * 13 - 13 + cl)); rw [← e1, c74, ← e2, c88]; rfl) | (rw [fl_n c61 h1]; show false = (tb (t * 13 - 13 + (cl - 1)) && _); rw [← e3, c111]; rfl) | (rw [fl_n c61 h1, c123, Bool.and_false])) _ _ hP hD hS _ (lv_sub hl [0, 1, 2, 3, 4, 5] rfl)
              · refine lv_iconst (v := (nI 1)) hx hb dX2_fillLine_126 rfl ?_
                refine lv_goto (tgt := 131) hx hb dX2_fillLine_127 (by decide) ?_
                exact jn131 true (by first | (rw [fl_10 c61 h1]; show true = (_ || tb (t * 13 - 13 + cl)); rw [← e1, c74, Bool.or_true]) | (rw [fl_10 c61 h1, ← e2, c88]; rfl) | (rw [fl_n c61 h1]; show true = (tb (t * 13 - 13 + (cl - 1)) && _); rw [← e3, c111, c123]; rfl)) _ _ hP hD hS _ (lv_sub hl [0, 1, 2, 3, 4, 5] rfl)
          · refine lv_aload_n hx hb dX2_fillLine_64 rfl (lv_at hl 3 rfl) ?_
            refine va_get (D := D) (ci := 2) (v := .ref b7) (C := RX2) (T := TX2) (N := 10) hx hb hts hiX2 hown hK hP 0 rfl rfl 9 (by decide) hf41 (fun _ h9 => h9) rfl dX2_fillLine_65 ?_
            refine lv_iload hx hb dX2_fillLine_68 (lv_at hl 1 rfl) ?_
            refine lv_iload hx hb dX2_fillLine_70 (lv_at hl 0 rfl) ?_
            refine ln_iadd (n := ((t * 13) - 13) + cl) hx hb (by omega) dX2_fillLine_72 ?_
            refine ln_zaldB hx hb hK hP 2 1 rfl rfl (by omega) (by decide) dX2_fillLine_73 ?_
            refine lb_if_ne (tgt := 91) hx hb dX2_fillLine_74 (by decide) (fun c74 => ?_) (fun c74 => ?_)
            · refine lv_iconst (v := (nI 1)) hx hb dX2_fillLine_91 rfl ?_
              refine lv_goto (tgt := 131) hx hb dX2_fillLine_92 (by decide) ?_
              exact jn131 true (by first | (rw [fl_10 c61 h1]; show true = (_ || tb (t * 13 - 13 + cl)); rw [← e1, c74, Bool.or_true]) | (rw [fl_10 c61 h1, ← e2, c88]; rfl) | (rw [fl_n c61 h1]; show true = (tb (t * 13 - 13 + (cl - 1)) && _); rw [← e3, c111, c123]; rfl)) _ _ hP hD hS _ (lv_sub hl [0, 1, 2, 3, 4, 5] rfl)
            · refine lv_aload_n hx hb dX2_fillLine_77 rfl (lv_at hl 3 rfl) ?_
              refine va_get (D := D) (ci := 2) (v := .ref b7) (C := RX2) (T := TX2) (N := 10) hx hb hts hiX2 hown hK hP 0 rfl rfl 9 (by decide) hf41 (fun _ h9 => h9) rfl dX2_fillLine_78 ?_
              refine lv_iload_n hx hb dX2_fillLine_81 rfl (lv_at hl 2 rfl) ?_
              refine lv_iload hx hb dX2_fillLine_82 (lv_at hl 0 rfl) ?_
              refine ln_iadd (n := (t * 13) + cl) hx hb (by omega) dX2_fillLine_84 ?_
              refine lv_iconst (v := (nI 1)) hx hb dX2_fillLine_85 rfl ?_
              refine ln_isub (n := ((t * 13) + cl) - 1) hx hb (by omega) (by omega) dX2_fillLine_86 ?_
              refine ln_zaldB hx hb hK hP 2 1 rfl rfl (by omega) (by decide) dX2_fillLine_87 ?_
              refine lb_if_eq (tgt := 95) hx hb dX2_fillLine_88 (by decide) (fun c88 => ?_) (fun c88 => ?_)
              · refine lv_iconst (v := (nI 0)) hx hb dX2_fillLine_95 rfl ?_
                refine lv_goto (tgt := 131) hx hb dX2_fillLine_96 (by decide) ?_
                exact jn131 false (by first | (rw [fl_10 c61 h1]; show false = (_ || tb (t * 13 - 13 + cl)); rw [← e1, c74, ← e2, c88]; rfl) | (rw [fl_n c61 h1]; show false = (tb (t * 13 - 13 + (cl - 1)) && _); rw [← e3, c111]; rfl) | (rw [fl_n c61 h1, c123, Bool.and_false])) _ _ hP hD hS _ (lv_sub hl [0, 1, 2, 3, 4, 5] rfl)
              · refine lv_iconst (v := (nI 1)) hx hb dX2_fillLine_91 rfl ?_
                refine lv_goto (tgt := 131) hx hb dX2_fillLine_92 (by decide) ?_
                exact jn131 true (by first | (rw [fl_10 c61 h1]; show true = (_ || tb (t * 13 - 13 + cl)); rw [← e1, c74, Bool.or_true]) | (rw [fl_10 c61 h1, ← e2, c88]; rfl) | (rw [fl_n c61 h1]; show true = (tb (t * 13 - 13 + (cl - 1)) && _); rw [← e3, c111, c123]; rfl)) _ _ hP hD hS _ (lv_sub hl [0, 1, 2, 3, 4, 5] rfl)
    exact lp41 _ 1 (va_up tb (t * 13) g0) (Nat.lt_succ_self _) (Nat.le_refl _) (by omega) (fun q hq => up_n (by omega)) (fun i hi => by rw [show i = 0 from by omega, Nat.add_zero, up_s, stpB_z]; exact hg0) _ _ hP hD hS _ (lv_sub hl [0, 1, 2, 3, 4, 5] rfl)
  refine lv_aload_n hx hb dX2_fillLine_11 rfl (lv_at hl 2 rfl) ?_
  refine va_get (D := D) (ci := 2) (v := .ref b7) (C := RX2) (T := TX2) (N := 10) hx hb hts hiX2 hown hK hP 0 rfl rfl 9 (by decide) hf41 (fun _ h9 => h9) rfl dX2_fillLine_12 ?_
  refine lv_iload_n hx hb dX2_fillLine_15 rfl (lv_at hl 1 rfl) ?_
  refine lv_iload_n hx hb dX2_fillLine_16 rfl (lv_at hl 4 rfl) ?_
  refine lv_bipush (v := (nI 10)) hx hb dX2_fillLine_17 rfl ?_
  refine lv_icmp_ne (tgt := 36) hx hb dX2_fillLine_19 (by decide) (fun c19 => ?_) (fun c19 => ?_)
  · refine lv_iconst (v := (nI 0)) hx hb dX2_fillLine_36 rfl ?_
    exact jn37 false (by first | (rw [decide_eq_false c19]; rfl) | (rw [c29, Bool.and_false])) _ _ hP hD hS _ (lv_sub hl [0, 1, 2, 3, 4] rfl)
  · refine lv_aload_n hx hb dX2_fillLine_22 rfl (lv_at hl 2 rfl) ?_
    refine va_get (D := D) (ci := 2) (v := .ref b7) (C := RX2) (T := TX2) (N := 10) hx hb hts hiX2 hown hK hP 0 rfl rfl 9 (by decide) hf41 (fun _ h9 => h9) rfl dX2_fillLine_23 ?_
    refine lv_iload hx hb dX2_fillLine_26 (lv_at hl 0 rfl) ?_
    refine ln_zaldB hx hb hK hP 2 1 rfl rfl (by omega) (by decide) dX2_fillLine_28 ?_
    refine lb_if_eq (tgt := 36) hx hb dX2_fillLine_29 (by decide) (fun c29 => ?_) (fun c29 => ?_)
    · refine lv_iconst (v := (nI 0)) hx hb dX2_fillLine_36 rfl ?_
      exact jn37 false (by first | (rw [decide_eq_false c19]; rfl) | (rw [c29, Bool.and_false])) _ _ hP hD hS _ (lv_sub hl [0, 1, 2, 3, 4] rfl)
    · refine lv_iconst (v := (nI 1)) hx hb dX2_fillLine_32 rfl ?_
      refine lv_goto (tgt := 37) hx hb dX2_fillLine_33 (by decide) ?_
      exact jn37 true (by rw [decide_eq_true c19, c29]; rfl) _ _ hP hD hS _ (lv_sub hl [0, 1, 2, 3, 4] rfl)

set_option maxHeartbeats 4000000 in
set_option maxRecDepth 100000 in
theorem kX2_fitsNameByTable (l : Launch) (D : va_G) (y3 : ClassId × ClassId × ClassId) (b0 : Nat) (b1 : Nat) (b2 : Nat) (b3 : Nat) (b4 : Nat) (b5 : Nat) (b6 : Nat) (b7 : Nat) (nl : Nat) (np : Nat) (nt : Nat) (lt : Nat → Int32) (ln : Nat → Nat) (tk : Nat → Int32) (tb : Nat → Bool) (j : Nat) (hj : j < 20) (hnl : nl ≤ 12) (hln : ∀ q : Nat, ln q ≤ 8) (htb : ∀ q : Nat, 1 ≤ q → q < 13 → tb q = false) : wrM l yX2_fitsNameByTable wsX2_fitsNameByTable 2 47 0 0 D y3 [(b0, .inr (2, [.ref b1, .int (nI nl), .ref b2, .ref b3, .ref b4, .ref b5, .ref b6, .int (nI np), .int (nI nt), .ref b7])), (b1, .inl (y3.1, 12, .inl lt)), (b4, .inl (y3.1, 20, .inl (fN ln))), (b6, .inl (y3.1, 160, .inl tk)), (b7, .inl (y3.2.1, 117, .inl (fB tb)))] [.ref b0, .int (nI j)] (fun r (u : Nat → Bool) => r = bI (fitB lt nl tk ln j) ∧ ∀ q : Nat, 1 ≤ q → q < 13 → u q = false) (fun (u : Nat → Bool) => [(b0, .inr (2, [.ref b1, .int (nI nl), .ref b2, .ref b3, .ref b4, .ref b5, .ref b6, .int (nI np), .int (nI nt), .ref b7])), (b1, .inl (y3.1, 12, .inl lt)), (b4, .inl (y3.1, 20, .inl (fN ln))), (b6, .inl (y3.1, 160, .inl tk)), (b7, .inl (y3.2.1, 117, .inl (fB u)))]) := by
  refine wz_of (cc := cX2_fitsNameByTable) (maxL := 4) (by decide) rfl (Nat.le_of_ble_eq_true rfl) ?_
  intro p e s m args below meth c A Q hx hb hml hown hts hP hK hD hA hS hret ls hl
  replace hl : lv_has ls 4 [(0, .ref b0), (1, .int (nI j))] := hl
  have q1 := hln j
  have hf15 := hts (.fieldLink RX2 15 "KindGuesser$NameSide" "letterCount" "I") (by decide +kernel)
  have hf25 := hts (.fieldLink RX2 25 "KindGuesser$NameSide" "lengths" "[I") (by decide +kernel)
  have hf32 := hts (.fieldLink RX2 32 "KindGuesser$NameSide" "tokenRows" "[I") (by decide +kernel)
  have hf41 := hts (.fieldLink RX2 41 "KindGuesser$NameSide" "table" "[Z") (by decide +kernel)
  have hiX2 : ∀ q ∈ wsX20, q ∈ wsX2_fitsNameByTable := by decide +kernel
  refine lv_aload_n hx hb dX2_fitsNameByTable_0 rfl (lv_at hl 0 rfl) ?_
  refine va_get (D := D) (ci := 2) (v := .ref b4) (C := RX2) (T := TX2) (N := 10) hx hb hts hiX2 hown hK hP 0 rfl rfl 4 (by decide) hf25 (fun _ h9 => h9) rfl dX2_fitsNameByTable_1 ?_
  refine lv_iload_n hx hb dX2_fitsNameByTable_4 rfl (lv_at hl 1 rfl) ?_
  refine ln_ialdN hx hb hK hP 2 0 rfl rfl (by omega) (by decide) dX2_fitsNameByTable_5 ?_
  refine lv_istore_n (lv' := [(2, .int (nI (ln j))), (0, .ref b0), (1, .int (nI j))]) hx hb dX2_fitsNameByTable_6 rfl hl (by decide) rfl (fun ls hl => ?_)
  refine lv_aload_n hx hb dX2_fitsNameByTable_7 rfl (lv_at hl 1 rfl) ?_
  refine va_get (D := D) (ci := 2) (v := .ref b7) (C := RX2) (T := TX2) (N := 10) hx hb hts hiX2 hown hK hP 0 rfl rfl 9 (by decide) hf41 (fun _ h9 => h9) rfl dX2_fitsNameByTable_8 ?_
  refine lv_iconst (v := (nI 0)) hx hb dX2_fitsNameByTable_11 rfl ?_
  refine lv_iconst (v := (nI 1)) hx hb dX2_fitsNameByTable_12 rfl ?_
  refine ln_zastB (b := true) hx hb hK hP hD hS 4 1 rfl rfl (by omega) (by decide) dX2_fitsNameByTable_13 _ rfl (fun H locs hP hD hS => ?_)
  have hP : va_P D vwCl [(b0, .inr (2, [.ref b1, .int (nI nl), .ref b2, .ref b3, .ref b4, .ref b5, .ref b6, .int (nI np), .int (nI nt), .ref b7])), (b1, .inl (y3.1, 12, .inl lt)), (b4, .inl (y3.1, 20, .inl (fN ln))), (b6, .inl (y3.1, 160, .inl tk)), (b7, .inl (y3.2.1, 117, .inl (fB (va_up tb 0 true))))] H := hP
  have hD : va_D A [(b0, .inr (2, [.ref b1, .int (nI nl), .ref b2, .ref b3, .ref b4, .ref b5, .ref b6, .int (nI np), .int (nI nt), .ref b7])), (b1, .inl (y3.1, 12, .inl lt)), (b4, .inl (y3.1, 20, .inl (fN ln))), (b6, .inl (y3.1, 160, .inl tk)), (b7, .inl (y3.2.1, 117, .inl (fB (va_up tb 0 true))))] := hD
  refine lv_iconst (v := (nI 1)) hx hb dX2_fitsNameByTable_14 rfl ?_
  refine lv_istore_n (lv' := [(3, .int (nI 1)), (2, .int (nI (ln j))), (0, .ref b0), (1, .int (nI j))]) hx hb dX2_fitsNameByTable_15 rfl hl (by decide) rfl (fun ls hl => ?_)
  have lp16 : ∀ (n1 : Nat) (k : Nat) (v : Nat → Bool), ln j + 1 - k < n1 → (1 ≤ k) → (k ≤ ln j + 1) → (∀ t i : Nat, t < k → i ≤ nl → v (t * 13 + i) = rchB lt tk (j * 8) t i) → (∀ q : Nat, 1 ≤ q → q < 13 → v q = false) → ∀ (H : Heap) (locs : List Loc), va_P D vwCl [(b0, .inr (2, [.ref b1, .int (nI nl), .ref b2, .ref b3, .ref b4, .ref b5, .ref b6, .int (nI np), .int (nI nt), .ref b7])), (b1, .inl (y3.1, 12, .inl lt)), (b4, .inl (y3.1, 20, .inl (fN ln))), (b6, .inl (y3.1, 160, .inl tk)), (b7, .inl (y3.2.1, 117, .inl (fB v)))] H → va_D A [(b0, .inr (2, [.ref b1, .int (nI nl), .ref b2, .ref b3, .ref b4, .ref b5, .ref b6, .int (nI np), .int (nI nt), .ref b7])), (b1, .inl (y3.1, 12, .inl lt)), (b4, .inl (y3.1, 20, .inl (fN ln))), (b6, .inl (y3.1, 160, .inl tk)), (b7, .inl (y3.2.1, 117, .inl (fB v)))] → va_S A s.heap H locs → ∀ ls : Array Slot, lv_has ls 4 [(3, .int (nI k)), (2, .int (nI (ln j))), (0, .ref b0), (1, .int (nI j))] → W p l e (rmO 2 0 0 47) s m args below meth c H locs 0 0 Q (F0 m 16 ls []) := by
    intro n1
    induction n1 with
    | zero => intro k v hm; exact absurd hm (Nat.not_lt_zero _)
    | succ n1 ih16 =>
      intro k v hm16 h1 h2 h3 h4 H locs hP hD hS ls hl
      refine lv_iload_n hx hb dX2_fitsNameByTable_16 rfl (lv_at hl 0 rfl) ?_
      refine lv_iload_n hx hb dX2_fitsNameByTable_17 rfl (lv_at hl 1 rfl) ?_
      refine ln_icmp_gt (tgt := 45) hx hb (by omega) (by omega) dX2_fitsNameByTable_18 (by decide) (fun c18 => ?_) (fun c18 => ?_)
      · refine lv_aload_n hx hb dX2_fitsNameByTable_45 rfl (lv_at hl 2 rfl) ?_
        refine va_get (D := D) (ci := 2) (v := .ref b7) (C := RX2) (T := TX2) (N := 10) hx hb hts hiX2 hown hK hP 0 rfl rfl 9 (by decide) hf41 (fun _ h9 => h9) rfl dX2_fitsNameByTable_46 ?_
        refine lv_iload_n hx hb dX2_fitsNameByTable_49 rfl (lv_at hl 1 rfl) ?_
        refine lv_bipush (v := (nI 13)) hx hb dX2_fitsNameByTable_50 rfl ?_
        refine ln_imul (n := (ln j) * 13) hx hb (by omega) dX2_fitsNameByTable_52 ?_
        refine lv_aload_n hx hb dX2_fitsNameByTable_53 rfl (lv_at hl 2 rfl) ?_
        refine va_get (D := D) (ci := 2) (v := .int (nI nl)) (C := RX2) (T := TX2) (N := 10) hx hb hts hiX2 hown hK hP 0 rfl rfl 1 (by decide) hf15 (fun _ h9 => h9) rfl dX2_fitsNameByTable_54 ?_
        refine ln_iadd (n := ((ln j) * 13) + nl) hx hb (by omega) dX2_fitsNameByTable_57 ?_
        refine ln_zaldB hx hb hK hP 4 1 rfl rfl (by omega) (by decide) dX2_fitsNameByTable_58 ?_
        exact hret 59 ls H locs _ _ v _ (fitB lt nl tk ln j) hP hD hS (Nat.le_of_ble_eq_true rfl) (Nat.le_of_ble_eq_true rfl) (by rw [h3 (ln j) nl (by omega) (Nat.le_refl _)]; rfl) ⟨rfl, h4⟩ dX2_fitsNameByTable_59
      · refine lv_aload_n hx hb dX2_fitsNameByTable_21 rfl (lv_at hl 2 rfl) ?_
        refine lv_iload_n hx hb dX2_fitsNameByTable_22 rfl (lv_at hl 0 rfl) ?_
        refine lv_aload_n hx hb dX2_fitsNameByTable_23 rfl (lv_at hl 2 rfl) ?_
        refine va_get (D := D) (ci := 2) (v := .ref b6) (C := RX2) (T := TX2) (N := 10) hx hb hts hiX2 hown hK hP 0 rfl rfl 6 (by decide) hf32 (fun _ h9 => h9) rfl dX2_fitsNameByTable_24 ?_
        refine lv_iload_n hx hb dX2_fitsNameByTable_27 rfl (lv_at hl 3 rfl) ?_
        refine lv_bipush (v := (nI 8)) hx hb dX2_fitsNameByTable_28 rfl ?_
        refine ln_imul (n := j * 8) hx hb (by omega) dX2_fitsNameByTable_30 ?_
        refine lv_iload_n hx hb dX2_fitsNameByTable_31 rfl (lv_at hl 0 rfl) ?_
        refine ln_iadd (n := (j * 8) + k) hx hb (by omega) dX2_fitsNameByTable_32 ?_
        refine lv_iconst (v := (nI 1)) hx hb dX2_fitsNameByTable_33 rfl ?_
        refine ln_isub (n := ((j * 8) + k) - 1) hx hb (by omega) (by omega) dX2_fitsNameByTable_34 ?_
        refine ln_iald hx hb hK hP 3 0 rfl rfl (by omega) (by decide) dX2_fitsNameByTable_35 ?_
        refine wv_V (ci := 2) (q0 := 0) (own := RX2) (As := [.int (nI k), .int (tk (((j * 8) + k) - 1))]) (rest := []) (bytes := cX2_fillLine) (maxL := 6) (wr := [(b4, .inl (y3.1, 20, .inl (fN ln))), (b6, .inl (y3.1, 160, .inl tk))]) (w3 := (fun (v2 : Nat → Bool) => [(b0, .inr (2, [.ref b1, .int (nI nl), .ref b2, .ref b3, .ref b4, .ref b5, .ref b6, .int (nI np), .int (nI nt), .ref b7])), (b1, .inl (y3.1, 12, .inl lt)), (b4, .inl (y3.1, 20, .inl (fN ln))), (b6, .inl (y3.1, 160, .inl tk)), (b7, .inl (y3.2.1, 117, .inl (fB v2)))])) ⟨hx, hb, hml, hown, hts⟩ (kX2_fillLine l D y3 b0 b1 b2 b3 b4 b5 b6 b7 nl np nt lt v k (tk (((j * 8) + k) - 1)) (by omega) (by omega) (by omega)) gX2_fitsNameByTable_X2_fillLine rfl hvX2_fillLine ⟨Nat.le_of_ble_eq_true rfl, Nat.le_of_ble_eq_true rfl⟩ hP hK hD hS hA [0, 1, 4] [2, 3] [2, 3, 0, 1, 4] rfl rfl rfl rfl (by decide) (fun _ => rfl) rfl rfl rfl hl.1 rfl (Nat.le_of_ble_eq_true rfl) dX2_fitsNameByTable_36 ⟨Nat.le_of_ble_eq_true rfl, Nat.le_of_ble_eq_true rfl⟩ (fun v2 H locs hr36 hP hD hS => ?_)
        have hP : va_P D vwCl [(b0, .inr (2, [.ref b1, .int (nI nl), .ref b2, .ref b3, .ref b4, .ref b5, .ref b6, .int (nI np), .int (nI nt), .ref b7])), (b1, .inl (y3.1, 12, .inl lt)), (b4, .inl (y3.1, 20, .inl (fN ln))), (b6, .inl (y3.1, 160, .inl tk)), (b7, .inl (y3.2.1, 117, .inl (fB v2)))] H := hP
        have hD : va_D A [(b0, .inr (2, [.ref b1, .int (nI nl), .ref b2, .ref b3, .ref b4, .ref b5, .ref b6, .int (nI np), .int (nI nt), .ref b7])), (b1, .inl (y3.1, 12, .inl lt)), (b4, .inl (y3.1, 20, .inl (fN ln))), (b6, .inl (y3.1, 160, .inl tk)), (b7, .inl (y3.2.1, 117, .inl (fB v2)))] := hD
        refine lv_iinc (v := (nI (k + 1))) (lv' := [(3, .int (nI (k + 1))), (2, .int (nI (ln j))), (0, .ref b0), (1, .int (nI j))]) hx hb dX2_fitsNameByTable_39 hl (k := 0) rfl (nI_add _ _) (by decide) rfl (fun ls hl => ?_)
        refine lv_goto (tgt := 16) hx hb dX2_fitsNameByTable_42 (by decide) ?_
        exact ih16 (k + 1) v2 (by omega) (by omega) (by omega) (fun t i ht hi => by
            by_cases htk : t = k
            · subst htk
              rw [hr36.2 i hi]
              obtain ⟨k0, rfl⟩ : ∃ k0, t = k0 + 1 := ⟨t - 1, by omega⟩
              rw [show ((j * 8) + (k0 + 1)) - 1 = j * 8 + k0 from by omega]
              exact stpB_congr (fun q hq => by rw [show (k0 + 1) * 13 - 13 + q = k0 * 13 + q from by omega]; exact h3 k0 q (by omega) (by omega))
            · rw [hr36.1 _ (Or.inl (by omega))]; exact h3 t i (by omega) hi) (fun q hq hq2 => by rw [hr36.1 _ (Or.inl (by omega))]; exact h4 q hq hq2) _ _ hP hD hS _ (lv_sub hl [0, 1, 2, 3] rfl)
  exact lp16 _ 1 (va_up tb 0 true) (Nat.lt_succ_self _) (Nat.le_refl _) (by omega) (fun t i ht hi => by
      rw [show t = 0 from by omega, Nat.zero_mul, Nat.zero_add]
      by_cases h0 : i = 0
      · subst h0; rw [up_s]; rfl
      · rw [up_n h0, htb i (by omega) (by omega)]; exact (decide_eq_false h0).symm) (fun q hq hq2 => by rw [up_n (by omega)]; exact htb q hq hq2) _ _ hP hD hS _ (lv_sub hl [0, 1, 2, 3] rfl)
end
section
def exB (P : Nat → Bool) : Nat → Bool
  | 0 => false
  | n + 1 => exB P n || P n
theorem exB_iff (P : Nat → Bool) : ∀ n, exB P n = true ↔ ∃ i, i < n ∧ P i = true
  | 0 => ⟨fun h => (by cases h), fun ⟨i, h, _⟩ => absurd h (Nat.not_lt_zero i)⟩
  | n + 1 => by
    unfold exB
    rw [Bool.or_eq_true, exB_iff P n]
    constructor
    · rintro (⟨i, h1, h2⟩ | h)
      · exact ⟨i, by omega, h2⟩
      · exact ⟨n, by omega, h⟩
    · rintro ⟨i, h1, h2⟩
      by_cases h : i = n
      · subst h; exact Or.inr h2
      · exact Or.inl ⟨i, by omega, h2⟩
def alB (P : Nat → Bool) : Nat → Bool
  | 0 => true
  | n + 1 => alB P n && P n
theorem alB_f {P : Nat → Bool} {q : Nat} : ∀ {n : Nat}, q < n → P q = false → alB P n = false
  | 0, h, _ => absurd h (Nat.not_lt_zero q)
  | n + 1, h, hp => by
    unfold alB
    by_cases hq : q = n
    · subst hq; rw [hp, Bool.and_false]
    · rw [alB_f (by omega) hp, Bool.false_and]
def tbB (x : Int32) : Bool := (decide (nI 32 ≤ x) && decide (x ≤ nI 126)) || (decide (x = nI 9) || (decide (x = nI 10) || decide (x = nI 13)))
theorem tbB_r {x : Int32} (h : nI 32 ≤ x) (h2 : x ≤ nI 126) : tbB x = true := by unfold tbB; rw [decide_eq_true h, decide_eq_true h2]; rfl
theorem tbB_e {x : Int32} (h : x = nI 9 ∨ x = nI 10 ∨ x = nI 13) : tbB x = true := by
  unfold tbB
  rcases h with h | h | h <;> rw [decide_eq_true h] <;> simp
theorem tbB_no {x : Int32} (h : ¬ (nI 32 ≤ x ∧ x ≤ nI 126)) (h1 : ¬ x = nI 9) (h2 : ¬ x = nI 10) (h3 : ¬ x = nI 13) : tbB x = false := by
  unfold tbB
  rw [decide_eq_false h1, decide_eq_false h2, decide_eq_false h3]
  by_cases ha : nI 32 ≤ x
  · rw [decide_eq_false (fun hb => h ⟨ha, hb⟩)]; simp
  · rw [decide_eq_false ha]; rfl
def gnl (lev tc : Nat → Nat) (j : Nat) : Nat := if tc j = 0 then 0 else lev (((j * 6) + (tc j)) - 1) + 1
def kndR (nr : Nat) (kr : Nat → Nat) (k : Int32) : Int32 := if inB k nr = true then nI (kr k.toNatClampNeg) else -1
theorem kndR_N {nr : Nat} {kr : Nat → Nat} {j : Nat} (hj : j < nr) (hn : nr < 2 ^ 31) : kndR nr kr (nI j) = nI (kr j) := by
  unfold kndR
  rw [inB_nI (by omega), decide_eq_true hj, if_pos rfl, nI_clamp (by omega)]
def stgB (nr : Nat) (pr : Nat → Int32) (k : Int32) : Bool := inB k nr && decide (nI 50 ≤ pr k.toNatClampNeg)
/-- whether a test holds -/
def hldB (vb : Nat → Int32) (nb : Nat) (fo tu : Nat → Nat) (wn mk : Nat → Int32) (t : Nat) : Bool := exB (fun i => decide (fo t ≤ i ∧ i ≤ tu t) && decide ((vb i &&& mk t) = wn t)) nb
theorem hld_t {vb : Nat → Int32} {nb : Nat} {fo tu : Nat → Nat} {wn mk : Nat → Int32} {t i : Nat} (h1 : i < nb) (h2 : fo t ≤ i) (h3 : i ≤ tu t) (h4 : (vb i &&& mk t) = wn t) : hldB vb nb fo tu wn mk t = true :=
  (exB_iff _ nb).mpr ⟨i, h1, by rw [decide_eq_true ⟨h2, h3⟩, decide_eq_true h4]; rfl⟩
theorem hld_f {vb : Nat → Int32} {nb : Nat} {fo tu : Nat → Nat} {wn mk : Nat → Int32} {t : Nat} (h : ∀ i, fo t ≤ i → i ≤ tu t → i < nb → ¬ (vb i &&& mk t) = wn t) : hldB vb nb fo tu wn mk t = false := by
  cases hb : hldB vb nb fo tu wn mk t
  · rfl
  · obtain ⟨i, h1, h2⟩ := (exB_iff _ nb).mp hb
    have h3 := Bool.and_eq_true_iff.mp h2
    have h4 := of_decide_eq_true h3.1
    exact absurd (of_decide_eq_true h3.2) (h i h4.1 h4.2 h1)
noncomputable def pdec (P : Prop) : Bool := @decide P (Classical.propDecidable P)
theorem pdec_iff {P : Prop} : pdec P = true ↔ P := by unfold pdec; exact @decide_eq_true_iff P (Classical.propDecidable P)
theorem pdec_t {P : Prop} (h : P) : pdec P = true := pdec_iff.mpr h
theorem pdec_f {P : Prop} (h : ¬ P) : pdec P = false := by
  cases hb : pdec P
  · rfl
  · exact absurd (pdec_iff.mp hb) h
theorem pdec_of {g : Bool} {P : Prop} (h : g = true ↔ P) : g = pdec P := by
  cases hb : pdec P
  · cases hg : g
    · rfl
    · rw [pdec_t (h.mp hg)] at hb; cases hb
  · exact h.mpr (pdec_iff.mp hb)
/-- a test directly below another one -/
def isCh (lev : Nat → Nat) (t i : Nat) : Prop := t < i ∧ (∀ k : Nat, t < k → k ≤ i → lev t + 1 ≤ lev k) ∧ lev i = lev t + 1
/-- no test is below this one, or some test below it leads -/
def lbP (lev : Nat → Nat) (ld : Nat → Bool) (t en : Nat) : Prop := (∀ i : Nat, i < en → ¬ isCh lev t i) ∨ ∃ i : Nat, i < en ∧ isCh lev t i ∧ ld i = true
theorem lb_end {lev : Nat → Nat} {ld : Nat → Bool} {t q en : Nat} {g : Bool} (h1 : t < q) (h2 : q ≤ en) (h3 : ∀ k : Nat, t < k → k < q → lev t + 1 ≤ lev k) (h4 : g = true ↔ ∀ i : Nat, t < i → i < q → ¬ lev i = lev t + 1) (h5 : ∀ i : Nat, t < i → i < q → lev i = lev t + 1 → ld i = false) (hx : en ≤ q ∨ lev q < lev t + 1) : g = true ↔ lbP lev ld t en := by
  have key : ∀ i, i < en → isCh lev t i → i < q := by
    intro i hi hc
    rcases hx with h | h
    · omega
    · rcases Nat.lt_or_ge i q with hq | hq
      · exact hq
      · have := hc.2.1 q h1 hq
        omega
  constructor
  · intro hg
    exact Or.inl (fun i hi hc => h4.mp hg i hc.1 (key i hi hc) hc.2.2)
  · rintro (h | ⟨i, hi, hc, hl⟩)
    · exact h4.mpr (fun i a1 a2 a3 => h i (by omega) ⟨a1, fun k b1 b2 => h3 k b1 (by omega), a3⟩)
    · rw [h5 i hc.1 (key i hi hc) hc.2.2] at hl
      cases hl
theorem lbP_congr {lev : Nat → Nat} {u v : Nat → Bool} {t en : Nat} (h : ∀ i : Nat, t < i → i < en → u i = v i) : pdec (lbP lev u t en) = pdec (lbP lev v t en) := by
  refine pdec_of (pdec_iff.trans ⟨?_, ?_⟩)
  · rintro (a | ⟨i, a, b, c⟩)
    · exact Or.inl a
    · exact Or.inr ⟨i, a, b, by rw [← h i b.1 a]; exact c⟩
  · rintro (a | ⟨i, a, b, c⟩)
    · exact Or.inl a
    · exact Or.inr ⟨i, a, b, by rw [h i b.1 a]; exact c⟩
/-- which tests lead: each by those directly below it -/
def ldS (lev : Nat → Nat) (ho : Nat → Bool) (ba en : Nat) (L : Nat → Bool) : Prop := ∀ t : Nat, ba ≤ t → t < en → L t = (ho t && pdec (lbP lev L t en))
theorem ldS_one {lev : Nat → Nat} {ho : Nat → Bool} {ba en : Nat} {L M : Nat → Bool} (h : ldS lev ho ba en L) (h2 : ldS lev ho ba en M) : ∀ d t : Nat, ba ≤ t → t < en → en - t ≤ d → L t = M t := by
  intro d
  induction d with
  | zero => intro t a1 a2 a3; omega
  | succ d ih =>
    intro t a1 a2 a3
    rw [h t a1 a2, h2 t a1 a2, lbP_congr (fun i b1 b2 => ih i (by omega) b2 (by omega))]
/-- whether a rule proves its kind: some test of the level 0 leads -/
noncomputable def prvB (lev : Nat → Nat) (ho : Nat → Bool) (ba en : Nat) : Bool := pdec (∃ L : Nat → Bool, ldS lev ho ba en L ∧ ∃ t : Nat, ba ≤ t ∧ t < en ∧ L t = true ∧ lev t = 0)
theorem prv_of {lev : Nat → Nat} {ho : Nat → Bool} {ba en : Nat} {v : Nat → Bool} {pv : Bool} (h3 : ldS lev ho ba en v) (h4 : pv = true ↔ ∃ t : Nat, ba ≤ t ∧ t < en ∧ v t = true ∧ lev t = 0) : pv = prvB lev ho ba en := by
  refine pdec_of (h4.trans ⟨fun h => ⟨v, h3, h⟩, ?_⟩)
  rintro ⟨L, hL, t, a1, a2, a3, a4⟩
  exact ⟨t, a1, a2, by rw [ldS_one h3 hL (en - t) t a1 a2 (Nat.le_refl _)]; exact a3, a4⟩
theorem pk_end {lev : Nat → Nat} {ho : Nat → Bool} {ba en : Nat} {v : Nat → Bool} {pv : Bool} (h3 : ∀ t : Nat, ba + 0 ≤ t → t < en → v t = (ho t && pdec (lbP lev v t en))) (h4 : pv = true ↔ ∃ t : Nat, ba + 0 ≤ t ∧ t < en ∧ v t = true ∧ lev t = 0) : pv = prvB lev ho ba en := prv_of (ba := ba) h3 h4
theorem pk_h3 {lev : Nat → Nat} {ho : Nat → Bool} {ba k en : Nat} {v : Nat → Bool} {g : Bool} (h3 : ∀ t : Nat, ba + (k + 1) ≤ t → t < en → v t = (ho t && pdec (lbP lev v t en))) (hk : ba + k < en) (hg : g = (ho (ba + k) && pdec (lbP lev v (ba + k) en))) : ∀ t : Nat, ba + k ≤ t → t < en → va_up v (ba + k) g t = (ho t && pdec (lbP lev (va_up v (ba + k) g) t en)) := by
  intro t a1 a2
  have e : pdec (lbP lev (va_up v (ba + k) g) t en) = pdec (lbP lev v t en) := lbP_congr (fun i b1 b2 => up_n (by omega))
  rw [e]
  by_cases h : t = ba + k
  · subst h; rw [up_s]; exact hg
  · rw [up_n h]; exact h3 t (by omega) a2
theorem pk_h4 {lev : Nat → Nat} {ba k en : Nat} {v : Nat → Bool} {g pv pv2 : Bool} (h4 : pv = true ↔ ∃ t : Nat, ba + (k + 1) ≤ t ∧ t < en ∧ v t = true ∧ lev t = 0) (hk : ba + k < en) (hg : pv2 = (pv || (g && decide (lev (ba + k) = 0)))) : pv2 = true ↔ ∃ t : Nat, ba + k ≤ t ∧ t < en ∧ va_up v (ba + k) g t = true ∧ lev t = 0 := by
  rw [hg, Bool.or_eq_true, h4]
  constructor
  · rintro (⟨t, a1, a2, a3, a4⟩ | h)
    · exact ⟨t, by omega, a2, by rw [up_n (by omega)]; exact a3, a4⟩
    · have h9 := Bool.and_eq_true_iff.mp h
      exact ⟨ba + k, Nat.le_refl _, hk, by rw [up_s]; exact h9.1, of_decide_eq_true h9.2⟩
  · rintro ⟨t, a1, a2, a3, a4⟩
    by_cases h : t = ba + k
    · subst h
      rw [up_s] at a3
      exact Or.inr (by rw [a3, decide_eq_true a4]; rfl)
    · rw [up_n h] at a3
      exact Or.inl ⟨t, by omega, a2, a3, a4⟩
theorem pk_tI {ba k : Nat} {x : Int32} (h2 : x = nI (ba + k) - nI 1) (hb : ba + k < 2 ^ 30) : x.toInt = ((ba + k : Nat) : Int) - 1 := by rw [h2, pk_sub_toInt hb (by omega)]; rfl
theorem pk_k0 {ba k : Nat} {x : Int32} (h2 : x = nI (ba + k) - nI 1) (hc : x < nI ba) (hb : ba + k < 2 ^ 30) : k = 0 := by
  have h := Int32.lt_iff_toInt_lt.mp hc
  rw [pk_tI h2 hb, nI_toInt (by omega)] at h
  omega
theorem pk_ks {ba k : Nat} {x : Int32} (h2 : x = nI (ba + k) - nI 1) (hc : ¬ x < nI ba) (hb : ba + k < 2 ^ 30) : ∃ k1, k = k1 + 1 := by
  rcases Nat.eq_zero_or_pos k with h | h
  · exfalso
    refine hc (Int32.lt_iff_toInt_lt.mpr ?_)
    rw [pk_tI h2 hb, nI_toInt (by omega)]
    omega
  · exact ⟨k - 1, by omega⟩

theorem hvX0_isFullOfBytes : yX0_isFullOfBytes.cls = RX0 ∧ yX0_isFullOfBytes.cls ≠ "java/lang/invoke/MethodHandle" ∧ yX0_isFullOfBytes.cls ≠ "java/lang/invoke/VarHandle" ∧ (parseMethodDescriptor yX0_isFullOfBytes.desc).map (fun d => d.parameters.length) = some 0 := by decide +kernel
theorem hvX0_addByte : yX0_addByte.cls = RX0 ∧ yX0_addByte.cls ≠ "java/lang/invoke/MethodHandle" ∧ yX0_addByte.cls ≠ "java/lang/invoke/VarHandle" ∧ (parseMethodDescriptor yX0_addByte.desc).map (fun d => d.parameters.length) = some 1 := by decide +kernel
theorem hvX0_clearBytes : yX0_clearBytes.cls = RX0 ∧ yX0_clearBytes.cls ≠ "java/lang/invoke/MethodHandle" ∧ yX0_clearBytes.cls ≠ "java/lang/invoke/VarHandle" ∧ (parseMethodDescriptor yX0_clearBytes.desc).map (fun d => d.parameters.length) = some 0 := by decide +kernel
theorem hvX0_isTextByte : yX0_isTextByte.cls ≠ "java/lang/invoke/MethodHandle" ∧ yX0_isTextByte.cls ≠ "java/lang/invoke/VarHandle" ∧ (parseMethodDescriptor yX0_isTextByte.desc).map (fun d => d.parameters.length) = some 1 := by decide +kernel
theorem hvX0_isText : yX0_isText.cls = RX0 ∧ yX0_isText.cls ≠ "java/lang/invoke/MethodHandle" ∧ yX0_isText.cls ≠ "java/lang/invoke/VarHandle" ∧ (parseMethodDescriptor yX0_isText.desc).map (fun d => d.parameters.length) = some 0 := by decide +kernel
theorem hvX0_hasRule : yX0_hasRule.cls = RX0 ∧ yX0_hasRule.cls ≠ "java/lang/invoke/MethodHandle" ∧ yX0_hasRule.cls ≠ "java/lang/invoke/VarHandle" ∧ (parseMethodDescriptor yX0_hasRule.desc).map (fun d => d.parameters.length) = some 1 := by decide +kernel
theorem hvX0_isFullOfRules : yX0_isFullOfRules.cls = RX0 ∧ yX0_isFullOfRules.cls ≠ "java/lang/invoke/MethodHandle" ∧ yX0_isFullOfRules.cls ≠ "java/lang/invoke/VarHandle" ∧ (parseMethodDescriptor yX0_isFullOfRules.desc).map (fun d => d.parameters.length) = some 0 := by decide +kernel
theorem hvX0_addRule : yX0_addRule.cls = RX0 ∧ yX0_addRule.cls ≠ "java/lang/invoke/MethodHandle" ∧ yX0_addRule.cls ≠ "java/lang/invoke/VarHandle" ∧ (parseMethodDescriptor yX0_addRule.desc).map (fun d => d.parameters.length) = some 2 := by decide +kernel
theorem hvX0_greatestNextLevel : yX0_greatestNextLevel.cls = RX0 ∧ yX0_greatestNextLevel.cls ≠ "java/lang/invoke/MethodHandle" ∧ yX0_greatestNextLevel.cls ≠ "java/lang/invoke/VarHandle" ∧ (parseMethodDescriptor yX0_greatestNextLevel.desc).map (fun d => d.parameters.length) = some 1 := by decide +kernel
theorem hvX0_isFullOfTests : yX0_isFullOfTests.cls = RX0 ∧ yX0_isFullOfTests.cls ≠ "java/lang/invoke/MethodHandle" ∧ yX0_isFullOfTests.cls ≠ "java/lang/invoke/VarHandle" ∧ (parseMethodDescriptor yX0_isFullOfTests.desc).map (fun d => d.parameters.length) = some 1 := by decide +kernel
theorem hvX0_addTest : yX0_addTest.cls = RX0 ∧ yX0_addTest.cls ≠ "java/lang/invoke/MethodHandle" ∧ yX0_addTest.cls ≠ "java/lang/invoke/VarHandle" ∧ (parseMethodDescriptor yX0_addTest.desc).map (fun d => d.parameters.length) = some 6 := by decide +kernel
theorem hvX0_kindOf : yX0_kindOf.cls = RX0 ∧ yX0_kindOf.cls ≠ "java/lang/invoke/MethodHandle" ∧ yX0_kindOf.cls ≠ "java/lang/invoke/VarHandle" ∧ (parseMethodDescriptor yX0_kindOf.desc).map (fun d => d.parameters.length) = some 1 := by decide +kernel
theorem hvX0_isStrong : yX0_isStrong.cls = RX0 ∧ yX0_isStrong.cls ≠ "java/lang/invoke/MethodHandle" ∧ yX0_isStrong.cls ≠ "java/lang/invoke/VarHandle" ∧ (parseMethodDescriptor yX0_isStrong.desc).map (fun d => d.parameters.length) = some 1 := by decide +kernel
theorem hvX0_holds : yX0_holds.cls = RX0 ∧ yX0_holds.cls ≠ "java/lang/invoke/MethodHandle" ∧ yX0_holds.cls ≠ "java/lang/invoke/VarHandle" ∧ (parseMethodDescriptor yX0_holds.desc).map (fun d => d.parameters.length) = some 1 := by decide +kernel
theorem hvX0_leadsBelow : yX0_leadsBelow.cls = RX0 ∧ yX0_leadsBelow.cls ≠ "java/lang/invoke/MethodHandle" ∧ yX0_leadsBelow.cls ≠ "java/lang/invoke/VarHandle" ∧ (parseMethodDescriptor yX0_leadsBelow.desc).map (fun d => d.parameters.length) = some 2 := by decide +kernel
theorem hvX0_provesKind : yX0_provesKind.cls = RX0 ∧ yX0_provesKind.cls ≠ "java/lang/invoke/MethodHandle" ∧ yX0_provesKind.cls ≠ "java/lang/invoke/VarHandle" ∧ (parseMethodDescriptor yX0_provesKind.desc).map (fun d => d.parameters.length) = some 1 := by decide +kernel
theorem hvX0_provingRule : yX0_provingRule.cls = RX0 ∧ yX0_provingRule.cls ≠ "java/lang/invoke/MethodHandle" ∧ yX0_provingRule.cls ≠ "java/lang/invoke/VarHandle" ∧ (parseMethodDescriptor yX0_provingRule.desc).map (fun d => d.parameters.length) = some 0 := by decide +kernel
set_option maxHeartbeats 4000000 in
set_option maxRecDepth 100000 in
theorem kX0_isFullOfBytes (l : Launch) (D : va_G) (y3 : ClassId × ClassId × ClassId) (f0 : Nat) (f1 : Nat) (f2 : Nat) (f3 : Nat) (f4 : Nat) (f5 : Nat) (f6 : Nat) (f7 : Nat) (f8 : Nat) (f9 : Nat) (f10 : Nat) (nb : Nat) (nr : Nat) (hnb : nb ≤ 16) : rdM l yX0_isFullOfBytes wsX0_isFullOfBytes 0 0 D y3 [(f0, .inr (0, [.ref f1, .int (nI nb), .ref f2, .ref f3, .ref f4, .int (nI nr), .ref f5, .ref f6, .ref f7, .ref f8, .ref f9, .ref f10]))] [.ref f0] (fun r => r = (bI (decide (16 ≤ nb)))) := by
  refine rz_of (cc := cX0_isFullOfBytes) (maxL := 1) (by decide) rfl (Nat.le_of_ble_eq_true rfl) ?_
  intro p e s m args below meth c Q hx hb hml hown hts hP hK hret ls hl
  replace hl : lv_has ls 1 [(0, .ref f0)] := hl
  have hf15 := hts (.fieldLink RX0 15 "KindGuesser$ByteSide" "byteCount" "I") (by decide +kernel)
  have hiX0 : ∀ q ∈ wsX00, q ∈ wsX0_isFullOfBytes := by decide +kernel
  refine lv_aload_n hx hb dX0_isFullOfBytes_0 rfl (lv_at hl 0 rfl) ?_
  refine va_get (D := D) (ci := 0) (v := .int (nI nb)) (C := RX0) (T := TX0) (N := 12) hx hb hts hiX0 hown hK hP 0 rfl rfl 1 (by decide) hf15 (fun _ h9 => h9) rfl dX0_isFullOfBytes_1 ?_
  refine lv_bipush (v := (nI 16)) hx hb dX0_isFullOfBytes_4 rfl ?_
  refine ln_icmp_lt (tgt := 13) hx hb (by omega) (by omega) dX0_isFullOfBytes_6 (by decide) (fun c6 => ?_) (fun c6 => ?_)
  · refine lv_iconst (v := (nI 0)) hx hb dX0_isFullOfBytes_13 rfl ?_
    exact hret 14 ls _ (bI_df (by omega)) dX0_isFullOfBytes_14
  · refine lv_iconst (v := (nI 1)) hx hb dX0_isFullOfBytes_9 rfl ?_
    refine lv_goto (tgt := 14) hx hb dX0_isFullOfBytes_10 (by decide) ?_
    exact hret 14 ls _ (bI_dt (by omega)) dX0_isFullOfBytes_14

set_option maxHeartbeats 4000000 in
set_option maxRecDepth 100000 in
theorem kX0_addByte (l : Launch) (D : va_G) (y3 : ClassId × ClassId × ClassId) (f0 : Nat) (f1 : Nat) (f2 : Nat) (f3 : Nat) (f4 : Nat) (f5 : Nat) (f6 : Nat) (f7 : Nat) (f8 : Nat) (f9 : Nat) (f10 : Nat) (nb : Nat) (nr : Nat) (vb : Nat → Int32) (k : Int32) (hnb : nb < 16) : wrM l yX0_addByte wsX0_addByte 0 0 0 0 D y3 [(f0, .inr (0, [.ref f1, .int (nI nb), .ref f2, .ref f3, .ref f4, .int (nI nr), .ref f5, .ref f6, .ref f7, .ref f8, .ref f9, .ref f10])), (f1, .inl (y3.1, 16, .inl vb))] [.ref f0, .int k] (fun r (_ : Unit) => r = (nI (nb + 1))) (fun (_ : Unit) => [(f0, .inr (0, [.ref f1, .int (nI (nb + 1)), .ref f2, .ref f3, .ref f4, .int (nI nr), .ref f5, .ref f6, .ref f7, .ref f8, .ref f9, .ref f10])), (f1, .inl (y3.1, 16, .inl (upd vb nb k)))]) := by
  refine wr_of (cc := cX0_addByte) (maxL := 2) (by decide) rfl (Nat.le_of_ble_eq_true rfl) ?_
  intro p e s m args below meth c A Q hx hb hml hown hts hP hK hD hA hS hret ls hl
  replace hl : lv_has ls 2 [(0, .ref f0), (1, .int k)] := hl
  have hf15 := hts (.fieldLink RX0 15 "KindGuesser$ByteSide" "byteCount" "I") (by decide +kernel)
  have hf9 := hts (.fieldLink RX0 9 "KindGuesser$ByteSide" "values" "[I") (by decide +kernel)
  have hiX0 : ∀ q ∈ wsX00, q ∈ wsX0_addByte := by decide +kernel
  refine lv_aload_n hx hb dX0_addByte_0 rfl (lv_at hl 0 rfl) ?_
  refine va_get (D := D) (ci := 0) (v := .ref f1) (C := RX0) (T := TX0) (N := 12) hx hb hts hiX0 hown hK hP 0 rfl rfl 0 (by decide) hf9 (fun _ h9 => h9) rfl dX0_addByte_1 ?_
  refine lv_aload_n hx hb dX0_addByte_4 rfl (lv_at hl 0 rfl) ?_
  refine va_get (D := D) (ci := 0) (v := .int (nI nb)) (C := RX0) (T := TX0) (N := 12) hx hb hts hiX0 hown hK hP 0 rfl rfl 1 (by decide) hf15 (fun _ h9 => h9) rfl dX0_addByte_5 ?_
  refine lv_iload_n hx hb dX0_addByte_8 rfl (lv_at hl 1 rfl) ?_
  refine ln_iast hx hb hK hP hD hS 1 0 rfl rfl (by omega) (by decide) dX0_addByte_9 _ rfl (fun H locs hP hD hS => ?_)
  have hP : va_P D vwCl [(f0, .inr (0, [.ref f1, .int (nI nb), .ref f2, .ref f3, .ref f4, .int (nI nr), .ref f5, .ref f6, .ref f7, .ref f8, .ref f9, .ref f10])), (f1, .inl (y3.1, 16, .inl (upd vb nb k)))] H := hP
  have hD : va_D A [(f0, .inr (0, [.ref f1, .int (nI nb), .ref f2, .ref f3, .ref f4, .int (nI nr), .ref f5, .ref f6, .ref f7, .ref f8, .ref f9, .ref f10])), (f1, .inl (y3.1, 16, .inl (upd vb nb k)))] := hD
  refine lv_aload_n hx hb dX0_addByte_10 rfl (lv_at hl 0 rfl) ?_
  refine lv_dup hx hb dX0_addByte_11 rfl ?_
  refine va_get (D := D) (ci := 0) (v := .int (nI nb)) (C := RX0) (T := TX0) (N := 12) hx hb hts hiX0 hown hK hP 0 rfl rfl 1 (by decide) hf15 (fun _ h9 => h9) rfl dX0_addByte_12 ?_
  refine lv_iconst (v := (nI 1)) hx hb dX0_addByte_15 rfl ?_
  refine ln_iadd (n := nb + 1) hx hb rfl dX0_addByte_16 ?_
  refine va_put (D := D) (ci := 0) (v := .int (nI (nb + 1))) (ty := .int) (C := RX0) (T := TX0) (N := 12) hx hb hts hiX0 tyX0 tyX0_ok nmX0 hown hK hP hD hS 0 rfl rfl 1 (by decide) hf15 (fun _ h9 => h9) rfl (by decide +kernel) rfl rfl (Nat.le_of_ble_eq_true rfl) dX0_addByte_17 (fun H locs hP hD hS => ?_)
  have hP : va_P D vwCl [(f0, .inr (0, [.ref f1, .int (nI (nb + 1)), .ref f2, .ref f3, .ref f4, .int (nI nr), .ref f5, .ref f6, .ref f7, .ref f8, .ref f9, .ref f10])), (f1, .inl (y3.1, 16, .inl (upd vb nb k)))] H := hP
  have hD : va_D A [(f0, .inr (0, [.ref f1, .int (nI (nb + 1)), .ref f2, .ref f3, .ref f4, .int (nI nr), .ref f5, .ref f6, .ref f7, .ref f8, .ref f9, .ref f10])), (f1, .inl (y3.1, 16, .inl (upd vb nb k)))] := hD
  refine lv_aload_n hx hb dX0_addByte_20 rfl (lv_at hl 0 rfl) ?_
  refine va_get (D := D) (ci := 0) (v := .int (nI (nb + 1))) (C := RX0) (T := TX0) (N := 12) hx hb hts hiX0 hown hK hP 0 rfl rfl 1 (by decide) hf15 (fun _ h9 => h9) rfl dX0_addByte_21 ?_
  exact hret 24 ls H locs _ _ () _ hP hD hS (Nat.le_of_ble_eq_true rfl) (Nat.le_of_ble_eq_true rfl) rfl dX0_addByte_24

set_option maxHeartbeats 4000000 in
set_option maxRecDepth 100000 in
theorem kX0_clearBytes (l : Launch) (D : va_G) (y3 : ClassId × ClassId × ClassId) (f0 : Nat) (f1 : Nat) (f2 : Nat) (f3 : Nat) (f4 : Nat) (f5 : Nat) (f6 : Nat) (f7 : Nat) (f8 : Nat) (f9 : Nat) (f10 : Nat) (nb : Nat) (nr : Nat) : wrM l yX0_clearBytes wsX0_clearBytes 0 0 0 0 D y3 [(f0, .inr (0, [.ref f1, .int (nI nb), .ref f2, .ref f3, .ref f4, .int (nI nr), .ref f5, .ref f6, .ref f7, .ref f8, .ref f9, .ref f10]))] [.ref f0] (fun r (_ : Unit) => r = (nI nb)) (fun (_ : Unit) => [(f0, .inr (0, [.ref f1, .int (nI 0), .ref f2, .ref f3, .ref f4, .int (nI nr), .ref f5, .ref f6, .ref f7, .ref f8, .ref f9, .ref f10]))]) := by
  refine wr_of (cc := cX0_clearBytes) (maxL := 2) (by decide) rfl (Nat.le_of_ble_eq_true rfl) ?_
  intro p e s m args below meth c A Q hx hb hml hown hts hP hK hD hA hS hret ls hl
  replace hl : lv_has ls 2 [(0, .ref f0)] := hl
  have hf15 := hts (.fieldLink RX0 15 "KindGuesser$ByteSide" "byteCount" "I") (by decide +kernel)
  have hiX0 : ∀ q ∈ wsX00, q ∈ wsX0_clearBytes := by decide +kernel
  refine lv_aload_n hx hb dX0_clearBytes_0 rfl (lv_at hl 0 rfl) ?_
  refine va_get (D := D) (ci := 0) (v := .int (nI nb)) (C := RX0) (T := TX0) (N := 12) hx hb hts hiX0 hown hK hP 0 rfl rfl 1 (by decide) hf15 (fun _ h9 => h9) rfl dX0_clearBytes_1 ?_
  refine lv_istore_n (lv' := [(1, .int (nI nb)), (0, .ref f0)]) hx hb dX0_clearBytes_4 rfl hl (by decide) rfl (fun ls hl => ?_)
  refine lv_aload_n hx hb dX0_clearBytes_5 rfl (lv_at hl 1 rfl) ?_
  refine lv_iconst (v := (nI 0)) hx hb dX0_clearBytes_6 rfl ?_
  refine va_put (D := D) (ci := 0) (v := .int (nI 0)) (ty := .int) (C := RX0) (T := TX0) (N := 12) hx hb hts hiX0 tyX0 tyX0_ok nmX0 hown hK hP hD hS 0 rfl rfl 1 (by decide) hf15 (fun _ h9 => h9) rfl (by decide +kernel) rfl rfl (Nat.le_of_ble_eq_true rfl) dX0_clearBytes_7 (fun H locs hP hD hS => ?_)
  have hP : va_P D vwCl [(f0, .inr (0, [.ref f1, .int (nI 0), .ref f2, .ref f3, .ref f4, .int (nI nr), .ref f5, .ref f6, .ref f7, .ref f8, .ref f9, .ref f10]))] H := hP
  have hD : va_D A [(f0, .inr (0, [.ref f1, .int (nI 0), .ref f2, .ref f3, .ref f4, .int (nI nr), .ref f5, .ref f6, .ref f7, .ref f8, .ref f9, .ref f10]))] := hD
  refine lv_iload_n hx hb dX0_clearBytes_10 rfl (lv_at hl 0 rfl) ?_
  exact hret 11 ls H locs _ _ () _ hP hD hS (Nat.le_of_ble_eq_true rfl) (Nat.le_of_ble_eq_true rfl) rfl dX0_clearBytes_11

set_option maxHeartbeats 4000000 in
set_option maxRecDepth 100000 in
theorem kX0_isTextByte (l : Launch) (D : va_G) (y3 : ClassId × ClassId × ClassId) (x : Int32) : rdM l yX0_isTextByte wsX0_isTextByte 0 0 D y3 [] [.int x] (fun r => r = (bI (tbB x))) := by
  refine rz_of (cc := cX0_isTextByte) (maxL := 1) (by decide) rfl (Nat.le_of_ble_eq_true rfl) ?_
  intro p e s m args below meth c Q hx hb hml hown hts hP hK hret ls hl
  replace hl : lv_has ls 1 [(0, .int x)] := hl
  refine lv_iload_n hx hb dX0_isTextByte_0 rfl (lv_at hl 0 rfl) ?_
  refine lv_bipush (v := (nI 32)) hx hb dX0_isTextByte_1 rfl ?_
  refine lv_icmp_lt (tgt := 12) hx hb dX0_isTextByte_3 (by decide) (fun c3 => ?_) (fun c3 => ?_)
  · refine lv_iload_n hx hb dX0_isTextByte_12 rfl (lv_at hl 0 rfl) ?_
    refine lv_bipush (v := (nI 9)) hx hb dX0_isTextByte_13 rfl ?_
    refine lv_icmp_eq (tgt := 30) hx hb dX0_isTextByte_15 (by decide) (fun c15 => ?_) (fun c15 => ?_)
    · refine lv_iconst (v := (nI 1)) hx hb dX0_isTextByte_30 rfl ?_
      refine lv_goto (tgt := 35) hx hb dX0_isTextByte_31 (by decide) ?_
      exact hret 35 ls _ (bI_t (by first | exact tbB_r (Int32.not_lt.mp c3) c9 | exact tbB_e (Or.inl c15) | exact tbB_e (Or.inr (Or.inl c21)) | exact tbB_e (Or.inr (Or.inr c27)))) dX0_isTextByte_35
    · refine lv_iload_n hx hb dX0_isTextByte_18 rfl (lv_at hl 0 rfl) ?_
      refine lv_bipush (v := (nI 10)) hx hb dX0_isTextByte_19 rfl ?_
      refine lv_icmp_eq (tgt := 30) hx hb dX0_isTextByte_21 (by decide) (fun c21 => ?_) (fun c21 => ?_)
      · refine lv_iconst (v := (nI 1)) hx hb dX0_isTextByte_30 rfl ?_
        refine lv_goto (tgt := 35) hx hb dX0_isTextByte_31 (by decide) ?_
        exact hret 35 ls _ (bI_t (by first | exact tbB_r (Int32.not_lt.mp c3) c9 | exact tbB_e (Or.inl c15) | exact tbB_e (Or.inr (Or.inl c21)) | exact tbB_e (Or.inr (Or.inr c27)))) dX0_isTextByte_35
      · refine lv_iload_n hx hb dX0_isTextByte_24 rfl (lv_at hl 0 rfl) ?_
        refine lv_bipush (v := (nI 13)) hx hb dX0_isTextByte_25 rfl ?_
        refine lv_icmp_ne (tgt := 34) hx hb dX0_isTextByte_27 (by decide) (fun c27 => ?_) (fun c27 => ?_)
        · refine lv_iconst (v := (nI 0)) hx hb dX0_isTextByte_34 rfl ?_
          exact hret 35 ls _ (bI_f (tbB_no (by first | exact fun h => absurd h.1 (Int32.not_le.mpr c3) | exact fun h => c9 h.2) c15 c21 c27)) dX0_isTextByte_35
        · refine lv_iconst (v := (nI 1)) hx hb dX0_isTextByte_30 rfl ?_
          refine lv_goto (tgt := 35) hx hb dX0_isTextByte_31 (by decide) ?_
          exact hret 35 ls _ (bI_t (by first | exact tbB_r (Int32.not_lt.mp c3) c9 | exact tbB_e (Or.inl c15) | exact tbB_e (Or.inr (Or.inl c21)) | exact tbB_e (Or.inr (Or.inr c27)))) dX0_isTextByte_35
  · refine lv_iload_n hx hb dX0_isTextByte_6 rfl (lv_at hl 0 rfl) ?_
    refine lv_bipush (v := (nI 126)) hx hb dX0_isTextByte_7 rfl ?_
    refine lv_icmp_le (tgt := 30) hx hb dX0_isTextByte_9 (by decide) (fun c9 => ?_) (fun c9 => ?_)
    · refine lv_iconst (v := (nI 1)) hx hb dX0_isTextByte_30 rfl ?_
      refine lv_goto (tgt := 35) hx hb dX0_isTextByte_31 (by decide) ?_
      exact hret 35 ls _ (bI_t (by first | exact tbB_r (Int32.not_lt.mp c3) c9 | exact tbB_e (Or.inl c15) | exact tbB_e (Or.inr (Or.inl c21)) | exact tbB_e (Or.inr (Or.inr c27)))) dX0_isTextByte_35
    · refine lv_iload_n hx hb dX0_isTextByte_12 rfl (lv_at hl 0 rfl) ?_
      refine lv_bipush (v := (nI 9)) hx hb dX0_isTextByte_13 rfl ?_
      refine lv_icmp_eq (tgt := 30) hx hb dX0_isTextByte_15 (by decide) (fun c15 => ?_) (fun c15 => ?_)
      · refine lv_iconst (v := (nI 1)) hx hb dX0_isTextByte_30 rfl ?_
        refine lv_goto (tgt := 35) hx hb dX0_isTextByte_31 (by decide) ?_
        exact hret 35 ls _ (bI_t (by first | exact tbB_r (Int32.not_lt.mp c3) c9 | exact tbB_e (Or.inl c15) | exact tbB_e (Or.inr (Or.inl c21)) | exact tbB_e (Or.inr (Or.inr c27)))) dX0_isTextByte_35
      · refine lv_iload_n hx hb dX0_isTextByte_18 rfl (lv_at hl 0 rfl) ?_
        refine lv_bipush (v := (nI 10)) hx hb dX0_isTextByte_19 rfl ?_
        refine lv_icmp_eq (tgt := 30) hx hb dX0_isTextByte_21 (by decide) (fun c21 => ?_) (fun c21 => ?_)
        · refine lv_iconst (v := (nI 1)) hx hb dX0_isTextByte_30 rfl ?_
          refine lv_goto (tgt := 35) hx hb dX0_isTextByte_31 (by decide) ?_
          exact hret 35 ls _ (bI_t (by first | exact tbB_r (Int32.not_lt.mp c3) c9 | exact tbB_e (Or.inl c15) | exact tbB_e (Or.inr (Or.inl c21)) | exact tbB_e (Or.inr (Or.inr c27)))) dX0_isTextByte_35
        · refine lv_iload_n hx hb dX0_isTextByte_24 rfl (lv_at hl 0 rfl) ?_
          refine lv_bipush (v := (nI 13)) hx hb dX0_isTextByte_25 rfl ?_
          refine lv_icmp_ne (tgt := 34) hx hb dX0_isTextByte_27 (by decide) (fun c27 => ?_) (fun c27 => ?_)
          · refine lv_iconst (v := (nI 0)) hx hb dX0_isTextByte_34 rfl ?_
            exact hret 35 ls _ (bI_f (tbB_no (by first | exact fun h => absurd h.1 (Int32.not_le.mpr c3) | exact fun h => c9 h.2) c15 c21 c27)) dX0_isTextByte_35
          · refine lv_iconst (v := (nI 1)) hx hb dX0_isTextByte_30 rfl ?_
            refine lv_goto (tgt := 35) hx hb dX0_isTextByte_31 (by decide) ?_
            exact hret 35 ls _ (bI_t (by first | exact tbB_r (Int32.not_lt.mp c3) c9 | exact tbB_e (Or.inl c15) | exact tbB_e (Or.inr (Or.inl c21)) | exact tbB_e (Or.inr (Or.inr c27)))) dX0_isTextByte_35

set_option maxHeartbeats 4000000 in
set_option maxRecDepth 100000 in
theorem kX0_isText (l : Launch) (D : va_G) (y3 : ClassId × ClassId × ClassId) (f0 : Nat) (f1 : Nat) (f2 : Nat) (f3 : Nat) (f4 : Nat) (f5 : Nat) (f6 : Nat) (f7 : Nat) (f8 : Nat) (f9 : Nat) (f10 : Nat) (nb : Nat) (nr : Nat) (vb : Nat → Int32) (hnb : nb ≤ 16) : rdM l yX0_isText wsX0_isText 1 20 D y3 [(f0, .inr (0, [.ref f1, .int (nI nb), .ref f2, .ref f3, .ref f4, .int (nI nr), .ref f5, .ref f6, .ref f7, .ref f8, .ref f9, .ref f10])), (f1, .inl (y3.1, 16, .inl vb))] [.ref f0] (fun r => r = (bI (alB (fun i => tbB (vb i)) nb))) := by
  refine rz_of (cc := cX0_isText) (maxL := 2) (by decide) rfl (Nat.le_of_ble_eq_true rfl) ?_
  intro p e s m args below meth c Q hx hb hml hown hts hP hK hret ls hl
  replace hl : lv_has ls 2 [(0, .ref f0)] := hl
  have hf15 := hts (.fieldLink RX0 15 "KindGuesser$ByteSide" "byteCount" "I") (by decide +kernel)
  have hf9 := hts (.fieldLink RX0 9 "KindGuesser$ByteSide" "values" "[I") (by decide +kernel)
  have hiX0 : ∀ q ∈ wsX00, q ∈ wsX0_isText := by decide +kernel
  refine lv_iconst (v := (nI 0)) hx hb dX0_isText_0 rfl ?_
  refine lv_istore_n (lv' := [(1, .int (nI 0)), (0, .ref f0)]) hx hb dX0_isText_1 rfl hl (by decide) rfl (fun ls hl => ?_)
  have lp2 : ∀ (n1 : Nat) (q : Nat), nb - q < n1 → (q ≤ nb) → (alB (fun i => tbB (vb i)) q = true) → ∀ ls : Array Slot, lv_has ls 2 [(1, .int (nI q)), (0, .ref f0)] → W p l e (rmO 1 0 0 20) s m args below meth c s.heap [] 0 0 Q (F0 m 2 ls []) := by
    intro n1
    induction n1 with
    | zero => intro q hm; exact absurd hm (Nat.not_lt_zero _)
    | succ n1 ih2 =>
      intro q hm2 h1 h2 ls hl
      refine lv_iload_n hx hb dX0_isText_2 rfl (lv_at hl 0 rfl) ?_
      refine lv_aload_n hx hb dX0_isText_3 rfl (lv_at hl 1 rfl) ?_
      refine va_get (D := D) (ci := 0) (v := .int (nI nb)) (C := RX0) (T := TX0) (N := 12) hx hb hts hiX0 hown hK hP 0 rfl rfl 1 (by decide) hf15 (fun _ h9 => h9) rfl dX0_isText_4 ?_
      refine ln_icmp_ge (tgt := 30) hx hb (by omega) (by omega) dX0_isText_7 (by decide) (fun c7 => ?_) (fun c7 => ?_)
      · refine lv_iconst (v := (nI 1)) hx hb dX0_isText_30 rfl ?_
        exact hret 31 ls _ (bI_t (by rw [show nb = q from by omega]; exact h2)) dX0_isText_31
      · refine lv_aload_n hx hb dX0_isText_10 rfl (lv_at hl 1 rfl) ?_
        refine va_get (D := D) (ci := 0) (v := .ref f1) (C := RX0) (T := TX0) (N := 12) hx hb hts hiX0 hown hK hP 0 rfl rfl 0 (by decide) hf9 (fun _ h9 => h9) rfl dX0_isText_11 ?_
        refine lv_iload_n hx hb dX0_isText_14 rfl (lv_at hl 0 rfl) ?_
        refine ln_iald hx hb hK hP 1 0 rfl rfl (by omega) (by decide) dX0_isText_15 ?_
        refine rd_S (own := RX0) (As := [.int (vb q)]) (rest := []) (bytes := cX0_isTextByte) (maxL := 1) ⟨hx, hb, hml, hown, hts⟩ (kX0_isTextByte l D y3 (vb q)) gX0_isText_X0_isTextByte rfl hvX0_isTextByte ⟨Nat.le_of_ble_eq_true rfl, Nat.le_of_ble_eq_true rfl⟩ hP hK [] rfl  hl.1 rfl (Nat.le_of_ble_eq_true rfl) dX0_isText_16 ⟨Nat.zero_le _, Nat.zero_le _⟩ (fun r2 hr2 => ?_)
        subst hr2
        refine lb_if_ne (tgt := 24) hx hb dX0_isText_19 (by decide) (fun c19 => ?_) (fun c19 => ?_)
        · refine lv_iinc (v := (nI (q + 1))) (lv' := [(1, .int (nI (q + 1))), (0, .ref f0)]) hx hb dX0_isText_24 hl (k := 0) rfl (nI_add _ _) (by decide) rfl (fun ls hl => ?_)
          refine lv_goto (tgt := 2) hx hb dX0_isText_27 (by decide) ?_
          exact ih2 (q + 1) (by omega) (by omega) (by show (alB _ q && tbB (vb q)) = true; rw [h2, c19]; rfl) _ (lv_sub hl [0, 1] rfl)
        · refine lv_iconst (v := (nI 0)) hx hb dX0_isText_22 rfl ?_
          exact hret 23 ls _ (bI_f (alB_f (q := q) (by omega) c19)) dX0_isText_23
  exact lp2 _ 0 (Nat.lt_succ_self _) (Nat.zero_le _) rfl _ (lv_sub hl [0, 1] rfl)

set_option maxHeartbeats 4000000 in
set_option maxRecDepth 100000 in
theorem kX0_hasRule (l : Launch) (D : va_G) (y3 : ClassId × ClassId × ClassId) (f0 : Nat) (f1 : Nat) (f2 : Nat) (f3 : Nat) (f4 : Nat) (f5 : Nat) (f6 : Nat) (f7 : Nat) (f8 : Nat) (f9 : Nat) (f10 : Nat) (nb : Nat) (nr : Nat) (k : Int32) (hnr : nr ≤ 12) : rdM l yX0_hasRule wsX0_hasRule 0 0 D y3 [(f0, .inr (0, [.ref f1, .int (nI nb), .ref f2, .ref f3, .ref f4, .int (nI nr), .ref f5, .ref f6, .ref f7, .ref f8, .ref f9, .ref f10]))] [.ref f0, .int k] (fun r => r = (bI (inB k nr))) := by
  refine rz_of (cc := cX0_hasRule) (maxL := 2) (by decide) rfl (Nat.le_of_ble_eq_true rfl) ?_
  intro p e s m args below meth c Q hx hb hml hown hts hP hK hret ls hl
  replace hl : lv_has ls 2 [(0, .ref f0), (1, .int k)] := hl
  have hf28 := hts (.fieldLink RX0 28 "KindGuesser$ByteSide" "ruleCount" "I") (by decide +kernel)
  have hiX0 : ∀ q ∈ wsX00, q ∈ wsX0_hasRule := by decide +kernel
  refine lv_iload_n hx hb dX0_hasRule_0 rfl (lv_at hl 1 rfl) ?_
  refine lv_if_lt (tgt := 16) hx hb dX0_hasRule_1 (by decide) (fun c1 => ?_) (fun c1 => ?_)
  · refine lv_iconst (v := (nI 0)) hx hb dX0_hasRule_16 rfl ?_
    exact hret 17 ls _ (bI_f (by first | exact inB_f0 c1 | exact inB_f1 c9 (by omega))) dX0_hasRule_17
  · refine lv_iload_n hx hb dX0_hasRule_4 rfl (lv_at hl 1 rfl) ?_
    refine lv_aload_n hx hb dX0_hasRule_5 rfl (lv_at hl 0 rfl) ?_
    refine va_get (D := D) (ci := 0) (v := .int (nI nr)) (C := RX0) (T := TX0) (N := 12) hx hb hts hiX0 hown hK hP 0 rfl rfl 5 (by decide) hf28 (fun _ h9 => h9) rfl dX0_hasRule_6 ?_
    refine lv_icmp_ge (tgt := 16) hx hb dX0_hasRule_9 (by decide) (fun c9 => ?_) (fun c9 => ?_)
    · refine lv_iconst (v := (nI 0)) hx hb dX0_hasRule_16 rfl ?_
      exact hret 17 ls _ (bI_f (by first | exact inB_f0 c1 | exact inB_f1 c9 (by omega))) dX0_hasRule_17
    · refine lv_iconst (v := (nI 1)) hx hb dX0_hasRule_12 rfl ?_
      refine lv_goto (tgt := 17) hx hb dX0_hasRule_13 (by decide) ?_
      exact hret 17 ls _ (bI_t (inB_t c1 c9 (by omega))) dX0_hasRule_17

set_option maxHeartbeats 4000000 in
set_option maxRecDepth 100000 in
theorem kX0_isFullOfRules (l : Launch) (D : va_G) (y3 : ClassId × ClassId × ClassId) (f0 : Nat) (f1 : Nat) (f2 : Nat) (f3 : Nat) (f4 : Nat) (f5 : Nat) (f6 : Nat) (f7 : Nat) (f8 : Nat) (f9 : Nat) (f10 : Nat) (nb : Nat) (nr : Nat) (hnr : nr ≤ 12) : rdM l yX0_isFullOfRules wsX0_isFullOfRules 0 0 D y3 [(f0, .inr (0, [.ref f1, .int (nI nb), .ref f2, .ref f3, .ref f4, .int (nI nr), .ref f5, .ref f6, .ref f7, .ref f8, .ref f9, .ref f10]))] [.ref f0] (fun r => r = (bI (decide (12 ≤ nr)))) := by
  refine rz_of (cc := cX0_isFullOfRules) (maxL := 1) (by decide) rfl (Nat.le_of_ble_eq_true rfl) ?_
  intro p e s m args below meth c Q hx hb hml hown hts hP hK hret ls hl
  replace hl : lv_has ls 1 [(0, .ref f0)] := hl
  have hf28 := hts (.fieldLink RX0 28 "KindGuesser$ByteSide" "ruleCount" "I") (by decide +kernel)
  have hiX0 : ∀ q ∈ wsX00, q ∈ wsX0_isFullOfRules := by decide +kernel
  refine lv_aload_n hx hb dX0_isFullOfRules_0 rfl (lv_at hl 0 rfl) ?_
  refine va_get (D := D) (ci := 0) (v := .int (nI nr)) (C := RX0) (T := TX0) (N := 12) hx hb hts hiX0 hown hK hP 0 rfl rfl 5 (by decide) hf28 (fun _ h9 => h9) rfl dX0_isFullOfRules_1 ?_
  refine lv_bipush (v := (nI 12)) hx hb dX0_isFullOfRules_4 rfl ?_
  refine ln_icmp_lt (tgt := 13) hx hb (by omega) (by omega) dX0_isFullOfRules_6 (by decide) (fun c6 => ?_) (fun c6 => ?_)
  · refine lv_iconst (v := (nI 0)) hx hb dX0_isFullOfRules_13 rfl ?_
    exact hret 14 ls _ (bI_df (by omega)) dX0_isFullOfRules_14
  · refine lv_iconst (v := (nI 1)) hx hb dX0_isFullOfRules_9 rfl ?_
    refine lv_goto (tgt := 14) hx hb dX0_isFullOfRules_10 (by decide) ?_
    exact hret 14 ls _ (bI_dt (by omega)) dX0_isFullOfRules_14

set_option maxHeartbeats 4000000 in
set_option maxRecDepth 100000 in
theorem kX0_addRule (l : Launch) (D : va_G) (y3 : ClassId × ClassId × ClassId) (f0 : Nat) (f1 : Nat) (f2 : Nat) (f3 : Nat) (f4 : Nat) (f5 : Nat) (f6 : Nat) (f7 : Nat) (f8 : Nat) (f9 : Nat) (f10 : Nat) (nb : Nat) (nr : Nat) (kr : Nat → Nat) (pr : Nat → Int32) (kd : Nat) (w : Int32) (hnr : nr < 12) : wrM l yX0_addRule wsX0_addRule 0 0 0 0 D y3 [(f0, .inr (0, [.ref f1, .int (nI nb), .ref f2, .ref f3, .ref f4, .int (nI nr), .ref f5, .ref f6, .ref f7, .ref f8, .ref f9, .ref f10])), (f2, .inl (y3.1, 12, .inl (fN kr))), (f3, .inl (y3.1, 12, .inl pr))] [.ref f0, .int (nI kd), .int w] (fun r (_ : Unit) => r = (nI nr)) (fun (_ : Unit) => [(f0, .inr (0, [.ref f1, .int (nI nb), .ref f2, .ref f3, .ref f4, .int (nI (nr + 1)), .ref f5, .ref f6, .ref f7, .ref f8, .ref f9, .ref f10])), (f2, .inl (y3.1, 12, .inl (fN (va_up kr nr kd)))), (f3, .inl (y3.1, 12, .inl (upd pr nr w)))]) := by
  refine wr_of (cc := cX0_addRule) (maxL := 3) (by decide) rfl (Nat.le_of_ble_eq_true rfl) ?_
  intro p e s m args below meth c A Q hx hb hml hown hts hP hK hD hA hS hret ls hl
  replace hl : lv_has ls 3 [(0, .ref f0), (1, .int (nI kd)), (2, .int w)] := hl
  have hf19 := hts (.fieldLink RX0 19 "KindGuesser$ByteSide" "kindsOfRules" "[I") (by decide +kernel)
  have hf22 := hts (.fieldLink RX0 22 "KindGuesser$ByteSide" "priorities" "[I") (by decide +kernel)
  have hf28 := hts (.fieldLink RX0 28 "KindGuesser$ByteSide" "ruleCount" "I") (by decide +kernel)
  have hiX0 : ∀ q ∈ wsX00, q ∈ wsX0_addRule := by decide +kernel
  refine lv_aload_n hx hb dX0_addRule_0 rfl (lv_at hl 0 rfl) ?_
  refine va_get (D := D) (ci := 0) (v := .ref f2) (C := RX0) (T := TX0) (N := 12) hx hb hts hiX0 hown hK hP 0 rfl rfl 2 (by decide) hf19 (fun _ h9 => h9) rfl dX0_addRule_1 ?_
  refine lv_aload_n hx hb dX0_addRule_4 rfl (lv_at hl 0 rfl) ?_
  refine va_get (D := D) (ci := 0) (v := .int (nI nr)) (C := RX0) (T := TX0) (N := 12) hx hb hts hiX0 hown hK hP 0 rfl rfl 5 (by decide) hf28 (fun _ h9 => h9) rfl dX0_addRule_5 ?_
  refine lv_iload_n hx hb dX0_addRule_8 rfl (lv_at hl 1 rfl) ?_
  refine ln_iastN hx hb hK hP hD hS 1 0 rfl rfl (by omega) (by decide) dX0_addRule_9 _ rfl (fun H locs hP hD hS => ?_)
  have hP : va_P D vwCl [(f0, .inr (0, [.ref f1, .int (nI nb), .ref f2, .ref f3, .ref f4, .int (nI nr), .ref f5, .ref f6, .ref f7, .ref f8, .ref f9, .ref f10])), (f2, .inl (y3.1, 12, .inl (fN (va_up kr nr kd)))), (f3, .inl (y3.1, 12, .inl pr))] H := hP
  have hD : va_D A [(f0, .inr (0, [.ref f1, .int (nI nb), .ref f2, .ref f3, .ref f4, .int (nI nr), .ref f5, .ref f6, .ref f7, .ref f8, .ref f9, .ref f10])), (f2, .inl (y3.1, 12, .inl (fN (va_up kr nr kd)))), (f3, .inl (y3.1, 12, .inl pr))] := hD
  refine lv_aload_n hx hb dX0_addRule_10 rfl (lv_at hl 0 rfl) ?_
  refine va_get (D := D) (ci := 0) (v := .ref f3) (C := RX0) (T := TX0) (N := 12) hx hb hts hiX0 hown hK hP 0 rfl rfl 3 (by decide) hf22 (fun _ h9 => h9) rfl dX0_addRule_11 ?_
  refine lv_aload_n hx hb dX0_addRule_14 rfl (lv_at hl 0 rfl) ?_
  refine va_get (D := D) (ci := 0) (v := .int (nI nr)) (C := RX0) (T := TX0) (N := 12) hx hb hts hiX0 hown hK hP 0 rfl rfl 5 (by decide) hf28 (fun _ h9 => h9) rfl dX0_addRule_15 ?_
  refine lv_iload_n hx hb dX0_addRule_18 rfl (lv_at hl 2 rfl) ?_
  refine ln_iast hx hb hK hP hD hS 2 0 rfl rfl (by omega) (by decide) dX0_addRule_19 _ rfl (fun H locs hP hD hS => ?_)
  have hP : va_P D vwCl [(f0, .inr (0, [.ref f1, .int (nI nb), .ref f2, .ref f3, .ref f4, .int (nI nr), .ref f5, .ref f6, .ref f7, .ref f8, .ref f9, .ref f10])), (f2, .inl (y3.1, 12, .inl (fN (va_up kr nr kd)))), (f3, .inl (y3.1, 12, .inl (upd pr nr w)))] H := hP
  have hD : va_D A [(f0, .inr (0, [.ref f1, .int (nI nb), .ref f2, .ref f3, .ref f4, .int (nI nr), .ref f5, .ref f6, .ref f7, .ref f8, .ref f9, .ref f10])), (f2, .inl (y3.1, 12, .inl (fN (va_up kr nr kd)))), (f3, .inl (y3.1, 12, .inl (upd pr nr w)))] := hD
  refine lv_aload_n hx hb dX0_addRule_20 rfl (lv_at hl 0 rfl) ?_
  refine lv_dup hx hb dX0_addRule_21 rfl ?_
  refine va_get (D := D) (ci := 0) (v := .int (nI nr)) (C := RX0) (T := TX0) (N := 12) hx hb hts hiX0 hown hK hP 0 rfl rfl 5 (by decide) hf28 (fun _ h9 => h9) rfl dX0_addRule_22 ?_
  refine lv_iconst (v := (nI 1)) hx hb dX0_addRule_25 rfl ?_
  refine ln_iadd (n := nr + 1) hx hb rfl dX0_addRule_26 ?_
  refine va_put (D := D) (ci := 0) (v := .int (nI (nr + 1))) (ty := .int) (C := RX0) (T := TX0) (N := 12) hx hb hts hiX0 tyX0 tyX0_ok nmX0 hown hK hP hD hS 0 rfl rfl 5 (by decide) hf28 (fun _ h9 => h9) rfl (by decide +kernel) rfl rfl (Nat.le_of_ble_eq_true rfl) dX0_addRule_27 (fun H locs hP hD hS => ?_)
  have hP : va_P D vwCl [(f0, .inr (0, [.ref f1, .int (nI nb), .ref f2, .ref f3, .ref f4, .int (nI (nr + 1)), .ref f5, .ref f6, .ref f7, .ref f8, .ref f9, .ref f10])), (f2, .inl (y3.1, 12, .inl (fN (va_up kr nr kd)))), (f3, .inl (y3.1, 12, .inl (upd pr nr w)))] H := hP
  have hD : va_D A [(f0, .inr (0, [.ref f1, .int (nI nb), .ref f2, .ref f3, .ref f4, .int (nI (nr + 1)), .ref f5, .ref f6, .ref f7, .ref f8, .ref f9, .ref f10])), (f2, .inl (y3.1, 12, .inl (fN (va_up kr nr kd)))), (f3, .inl (y3.1, 12, .inl (upd pr nr w)))] := hD
  refine lv_aload_n hx hb dX0_addRule_30 rfl (lv_at hl 0 rfl) ?_
  refine va_get (D := D) (ci := 0) (v := .int (nI (nr + 1))) (C := RX0) (T := TX0) (N := 12) hx hb hts hiX0 hown hK hP 0 rfl rfl 5 (by decide) hf28 (fun _ h9 => h9) rfl dX0_addRule_31 ?_
  refine lv_iconst (v := (nI 1)) hx hb dX0_addRule_34 rfl ?_
  refine ln_isub (n := nr) hx hb (by omega) (by omega) dX0_addRule_35 ?_
  exact hret 36 ls H locs _ _ () _ hP hD hS (Nat.le_of_ble_eq_true rfl) (Nat.le_of_ble_eq_true rfl) rfl dX0_addRule_36

set_option maxHeartbeats 4000000 in
set_option maxRecDepth 100000 in
theorem kX0_greatestNextLevel (l : Launch) (D : va_G) (y3 : ClassId × ClassId × ClassId) (f0 : Nat) (f1 : Nat) (f2 : Nat) (f3 : Nat) (f4 : Nat) (f5 : Nat) (f6 : Nat) (f7 : Nat) (f8 : Nat) (f9 : Nat) (f10 : Nat) (nb : Nat) (nr : Nat) (tc : Nat → Nat) (lev : Nat → Nat) (j : Nat) (hj : j < 12) (htc : ∀ q : Nat, tc q ≤ 6) : rdM l yX0_greatestNextLevel wsX0_greatestNextLevel 0 0 D y3 [(f0, .inr (0, [.ref f1, .int (nI nb), .ref f2, .ref f3, .ref f4, .int (nI nr), .ref f5, .ref f6, .ref f7, .ref f8, .ref f9, .ref f10])), (f4, .inl (y3.1, 12, .inl (fN tc))), (f5, .inl (y3.1, 72, .inl (fN lev)))] [.ref f0, .int (nI j)] (fun r => r = (nI (gnl lev tc j))) := by
  refine rd_of (cc := cX0_greatestNextLevel) (maxL := 3) (by decide) rfl (Nat.le_of_ble_eq_true rfl) ?_
  intro p e s m args below meth c Q hx hb hml hown hts hP hK hret ls hl
  replace hl : lv_has ls 3 [(0, .ref f0), (1, .int (nI j))] := hl
  have q1 := htc j
  have hf25 := hts (.fieldLink RX0 25 "KindGuesser$ByteSide" "testCounts" "[I") (by decide +kernel)
  have hf31 := hts (.fieldLink RX0 31 "KindGuesser$ByteSide" "levels" "[I") (by decide +kernel)
  have hiX0 : ∀ q ∈ wsX00, q ∈ wsX0_greatestNextLevel := by decide +kernel
  refine lv_aload_n hx hb dX0_greatestNextLevel_0 rfl (lv_at hl 0 rfl) ?_
  refine va_get (D := D) (ci := 0) (v := .ref f4) (C := RX0) (T := TX0) (N := 12) hx hb hts hiX0 hown hK hP 0 rfl rfl 4 (by decide) hf25 (fun _ h9 => h9) rfl dX0_greatestNextLevel_1 ?_
  refine lv_iload_n hx hb dX0_greatestNextLevel_4 rfl (lv_at hl 1 rfl) ?_
  refine ln_ialdN hx hb hK hP 1 0 rfl rfl (by omega) (by decide) dX0_greatestNextLevel_5 ?_
  refine lv_istore_n (lv' := [(2, .int (nI (tc j))), (0, .ref f0), (1, .int (nI j))]) hx hb dX0_greatestNextLevel_6 rfl hl (by decide) rfl (fun ls hl => ?_)
  refine lv_iload_n hx hb dX0_greatestNextLevel_7 rfl (lv_at hl 0 rfl) ?_
  refine ln_if_ne (tgt := 15) hx hb (by omega) dX0_greatestNextLevel_8 (by decide) (fun c8 => ?_) (fun c8 => ?_)
  · refine lv_aload_n hx hb dX0_greatestNextLevel_15 rfl (lv_at hl 1 rfl) ?_
    refine va_get (D := D) (ci := 0) (v := .ref f5) (C := RX0) (T := TX0) (N := 12) hx hb hts hiX0 hown hK hP 0 rfl rfl 6 (by decide) hf31 (fun _ h9 => h9) rfl dX0_greatestNextLevel_16 ?_
    refine lv_iload_n hx hb dX0_greatestNextLevel_19 rfl (lv_at hl 2 rfl) ?_
    refine lv_bipush (v := (nI 6)) hx hb dX0_greatestNextLevel_20 rfl ?_
    refine ln_imul (n := j * 6) hx hb (by omega) dX0_greatestNextLevel_22 ?_
    refine lv_iload_n hx hb dX0_greatestNextLevel_23 rfl (lv_at hl 0 rfl) ?_
    refine ln_iadd (n := (j * 6) + (tc j)) hx hb (by omega) dX0_greatestNextLevel_24 ?_
    refine lv_iconst (v := (nI 1)) hx hb dX0_greatestNextLevel_25 rfl ?_
    refine ln_isub (n := ((j * 6) + (tc j)) - 1) hx hb (by omega) (by omega) dX0_greatestNextLevel_26 ?_
    refine ln_ialdN hx hb hK hP 2 0 rfl rfl (by omega) (by decide) dX0_greatestNextLevel_27 ?_
    refine lv_iconst (v := (nI 1)) hx hb dX0_greatestNextLevel_28 rfl ?_
    refine ln_iadd (n := (lev (((j * 6) + (tc j)) - 1)) + 1) hx hb rfl dX0_greatestNextLevel_29 ?_
    exact hret 30 ls _ (by unfold gnl; first | (rw [if_pos c8]; done) | rw [if_neg c8]) dX0_greatestNextLevel_30
  · refine lv_iconst (v := (nI 0)) hx hb dX0_greatestNextLevel_11 rfl ?_
    refine lv_goto (tgt := 30) hx hb dX0_greatestNextLevel_12 (by decide) ?_
    exact hret 30 ls _ (by unfold gnl; first | (rw [if_pos c8]; done) | rw [if_neg c8]) dX0_greatestNextLevel_30

set_option maxHeartbeats 4000000 in
set_option maxRecDepth 100000 in
theorem kX0_isFullOfTests (l : Launch) (D : va_G) (y3 : ClassId × ClassId × ClassId) (f0 : Nat) (f1 : Nat) (f2 : Nat) (f3 : Nat) (f4 : Nat) (f5 : Nat) (f6 : Nat) (f7 : Nat) (f8 : Nat) (f9 : Nat) (f10 : Nat) (nb : Nat) (nr : Nat) (tc : Nat → Nat) (j : Nat) (hj : j < 12) (htc : ∀ q : Nat, tc q ≤ 6) : rdM l yX0_isFullOfTests wsX0_isFullOfTests 0 0 D y3 [(f0, .inr (0, [.ref f1, .int (nI nb), .ref f2, .ref f3, .ref f4, .int (nI nr), .ref f5, .ref f6, .ref f7, .ref f8, .ref f9, .ref f10])), (f4, .inl (y3.1, 12, .inl (fN tc)))] [.ref f0, .int (nI j)] (fun r => r = (bI (decide (6 ≤ tc j)))) := by
  refine rz_of (cc := cX0_isFullOfTests) (maxL := 2) (by decide) rfl (Nat.le_of_ble_eq_true rfl) ?_
  intro p e s m args below meth c Q hx hb hml hown hts hP hK hret ls hl
  replace hl : lv_has ls 2 [(0, .ref f0), (1, .int (nI j))] := hl
  have q1 := htc j
  have hf25 := hts (.fieldLink RX0 25 "KindGuesser$ByteSide" "testCounts" "[I") (by decide +kernel)
  have hiX0 : ∀ q ∈ wsX00, q ∈ wsX0_isFullOfTests := by decide +kernel
  refine lv_aload_n hx hb dX0_isFullOfTests_0 rfl (lv_at hl 0 rfl) ?_
  refine va_get (D := D) (ci := 0) (v := .ref f4) (C := RX0) (T := TX0) (N := 12) hx hb hts hiX0 hown hK hP 0 rfl rfl 4 (by decide) hf25 (fun _ h9 => h9) rfl dX0_isFullOfTests_1 ?_
  refine lv_iload_n hx hb dX0_isFullOfTests_4 rfl (lv_at hl 1 rfl) ?_
  refine ln_ialdN hx hb hK hP 1 0 rfl rfl (by omega) (by decide) dX0_isFullOfTests_5 ?_
  refine lv_bipush (v := (nI 6)) hx hb dX0_isFullOfTests_6 rfl ?_
  refine ln_icmp_lt (tgt := 15) hx hb (by omega) (by omega) dX0_isFullOfTests_8 (by decide) (fun c8 => ?_) (fun c8 => ?_)
  · refine lv_iconst (v := (nI 0)) hx hb dX0_isFullOfTests_15 rfl ?_
    exact hret 16 ls _ (bI_df (by omega)) dX0_isFullOfTests_16
  · refine lv_iconst (v := (nI 1)) hx hb dX0_isFullOfTests_11 rfl ?_
    refine lv_goto (tgt := 16) hx hb dX0_isFullOfTests_12 (by decide) ?_
    exact hret 16 ls _ (bI_dt (by omega)) dX0_isFullOfTests_16

set_option maxHeartbeats 4000000 in
set_option maxRecDepth 100000 in
theorem kX0_addTest (l : Launch) (D : va_G) (y3 : ClassId × ClassId × ClassId) (f0 : Nat) (f1 : Nat) (f2 : Nat) (f3 : Nat) (f4 : Nat) (f5 : Nat) (f6 : Nat) (f7 : Nat) (f8 : Nat) (f9 : Nat) (f10 : Nat) (nb : Nat) (nr : Nat) (tc : Nat → Nat) (lev : Nat → Nat) (fo : Nat → Nat) (tu : Nat → Nat) (wn : Nat → Int32) (mk : Nat → Int32) (j : Nat) (a1 : Nat) (a2 : Nat) (a3 : Nat) (a4 : Int32) (a5 : Int32) (hj : j < 12) (htj : tc j < 6) : wrM l yX0_addTest wsX0_addTest 0 0 0 0 D y3 [(f0, .inr (0, [.ref f1, .int (nI nb), .ref f2, .ref f3, .ref f4, .int (nI nr), .ref f5, .ref f6, .ref f7, .ref f8, .ref f9, .ref f10])), (f4, .inl (y3.1, 12, .inl (fN tc))), (f5, .inl (y3.1, 72, .inl (fN lev))), (f6, .inl (y3.1, 72, .inl (fN fo))), (f7, .inl (y3.1, 72, .inl (fN tu))), (f8, .inl (y3.1, 72, .inl wn)), (f9, .inl (y3.1, 72, .inl mk))] [.ref f0, .int (nI j), .int (nI a1), .int (nI a2), .int (nI a3), .int a4, .int a5] (fun r (_ : Unit) => r = (nI ((tc j) + 1))) (fun (_ : Unit) => [(f0, .inr (0, [.ref f1, .int (nI nb), .ref f2, .ref f3, .ref f4, .int (nI nr), .ref f5, .ref f6, .ref f7, .ref f8, .ref f9, .ref f10])), (f4, .inl (y3.1, 12, .inl (fN (va_up tc j ((tc j) + 1))))), (f5, .inl (y3.1, 72, .inl (fN (va_up lev ((j * 6) + (tc j)) a1)))), (f6, .inl (y3.1, 72, .inl (fN (va_up fo ((j * 6) + (tc j)) a2)))), (f7, .inl (y3.1, 72, .inl (fN (va_up tu ((j * 6) + (tc j)) a3)))), (f8, .inl (y3.1, 72, .inl (upd wn ((j * 6) + (tc j)) a4))), (f9, .inl (y3.1, 72, .inl (upd mk ((j * 6) + (tc j)) a5)))]) := by
  refine wr_of (cc := cX0_addTest) (maxL := 8) (by decide) rfl (Nat.le_of_ble_eq_true rfl) ?_
  intro p e s m args below meth c A Q hx hb hml hown hts hP hK hD hA hS hret ls hl
  replace hl : lv_has ls 8 [(0, .ref f0), (1, .int (nI j)), (2, .int (nI a1)), (3, .int (nI a2)), (4, .int (nI a3)), (5, .int a4), (6, .int a5)] := hl
  have hf25 := hts (.fieldLink RX0 25 "KindGuesser$ByteSide" "testCounts" "[I") (by decide +kernel)
  have hf31 := hts (.fieldLink RX0 31 "KindGuesser$ByteSide" "levels" "[I") (by decide +kernel)
  have hf34 := hts (.fieldLink RX0 34 "KindGuesser$ByteSide" "froms" "[I") (by decide +kernel)
  have hf37 := hts (.fieldLink RX0 37 "KindGuesser$ByteSide" "tos" "[I") (by decide +kernel)
  have hf40 := hts (.fieldLink RX0 40 "KindGuesser$ByteSide" "wanted" "[I") (by decide +kernel)
  have hf43 := hts (.fieldLink RX0 43 "KindGuesser$ByteSide" "masks" "[I") (by decide +kernel)
  have hiX0 : ∀ q ∈ wsX00, q ∈ wsX0_addTest := by decide +kernel
  refine lv_iload_n hx hb dX0_addTest_0 rfl (lv_at hl 1 rfl) ?_
  refine lv_bipush (v := (nI 6)) hx hb dX0_addTest_1 rfl ?_
  refine ln_imul (n := j * 6) hx hb (by omega) dX0_addTest_3 ?_
  refine lv_aload_n hx hb dX0_addTest_4 rfl (lv_at hl 0 rfl) ?_
  refine va_get (D := D) (ci := 0) (v := .ref f4) (C := RX0) (T := TX0) (N := 12) hx hb hts hiX0 hown hK hP 0 rfl rfl 4 (by decide) hf25 (fun _ h9 => h9) rfl dX0_addTest_5 ?_
  refine lv_iload_n hx hb dX0_addTest_8 rfl (lv_at hl 1 rfl) ?_
  refine ln_ialdN hx hb hK hP 1 0 rfl rfl (by omega) (by decide) dX0_addTest_9 ?_
  refine ln_iadd (n := (j * 6) + (tc j)) hx hb (by omega) dX0_addTest_10 ?_
  refine lv_istore (lv' := [(7, .int (nI ((j * 6) + (tc j)))), (0, .ref f0), (1, .int (nI j)), (2, .int (nI a1)), (3, .int (nI a2)), (4, .int (nI a3)), (5, .int a4), (6, .int a5)]) hx hb dX0_addTest_11 hl (by decide) rfl (fun ls hl => ?_)
  refine lv_aload_n hx hb dX0_addTest_13 rfl (lv_at hl 1 rfl) ?_
  refine va_get (D := D) (ci := 0) (v := .ref f5) (C := RX0) (T := TX0) (N := 12) hx hb hts hiX0 hown hK hP 0 rfl rfl 6 (by decide) hf31 (fun _ h9 => h9) rfl dX0_addTest_14 ?_
  refine lv_iload hx hb dX0_addTest_17 (lv_at hl 0 rfl) ?_
  refine lv_iload_n hx hb dX0_addTest_19 rfl (lv_at hl 3 rfl) ?_
  refine ln_iastN hx hb hK hP hD hS 2 0 rfl rfl (by omega) (by decide) dX0_addTest_20 _ rfl (fun H locs hP hD hS => ?_)
  have hP : va_P D vwCl [(f0, .inr (0, [.ref f1, .int (nI nb), .ref f2, .ref f3, .ref f4, .int (nI nr), .ref f5, .ref f6, .ref f7, .ref f8, .ref f9, .ref f10])), (f4, .inl (y3.1, 12, .inl (fN tc))), (f5, .inl (y3.1, 72, .inl (fN (va_up lev ((j * 6) + (tc j)) a1)))), (f6, .inl (y3.1, 72, .inl (fN fo))), (f7, .inl (y3.1, 72, .inl (fN tu))), (f8, .inl (y3.1, 72, .inl wn)), (f9, .inl (y3.1, 72, .inl mk))] H := hP
  have hD : va_D A [(f0, .inr (0, [.ref f1, .int (nI nb), .ref f2, .ref f3, .ref f4, .int (nI nr), .ref f5, .ref f6, .ref f7, .ref f8, .ref f9, .ref f10])), (f4, .inl (y3.1, 12, .inl (fN tc))), (f5, .inl (y3.1, 72, .inl (fN (va_up lev ((j * 6) + (tc j)) a1)))), (f6, .inl (y3.1, 72, .inl (fN fo))), (f7, .inl (y3.1, 72, .inl (fN tu))), (f8, .inl (y3.1, 72, .inl wn)), (f9, .inl (y3.1, 72, .inl mk))] := hD
  refine lv_aload_n hx hb dX0_addTest_21 rfl (lv_at hl 1 rfl) ?_
  refine va_get (D := D) (ci := 0) (v := .ref f6) (C := RX0) (T := TX0) (N := 12) hx hb hts hiX0 hown hK hP 0 rfl rfl 7 (by decide) hf34 (fun _ h9 => h9) rfl dX0_addTest_22 ?_
  refine lv_iload hx hb dX0_addTest_25 (lv_at hl 0 rfl) ?_
  refine lv_iload_n hx hb dX0_addTest_27 rfl (lv_at hl 4 rfl) ?_
  refine ln_iastN hx hb hK hP hD hS 3 0 rfl rfl (by omega) (by decide) dX0_addTest_28 _ rfl (fun H locs hP hD hS => ?_)
  have hP : va_P D vwCl [(f0, .inr (0, [.ref f1, .int (nI nb), .ref f2, .ref f3, .ref f4, .int (nI nr), .ref f5, .ref f6, .ref f7, .ref f8, .ref f9, .ref f10])), (f4, .inl (y3.1, 12, .inl (fN tc))), (f5, .inl (y3.1, 72, .inl (fN (va_up lev ((j * 6) + (tc j)) a1)))), (f6, .inl (y3.1, 72, .inl (fN (va_up fo ((j * 6) + (tc j)) a2)))), (f7, .inl (y3.1, 72, .inl (fN tu))), (f8, .inl (y3.1, 72, .inl wn)), (f9, .inl (y3.1, 72, .inl mk))] H := hP
  have hD : va_D A [(f0, .inr (0, [.ref f1, .int (nI nb), .ref f2, .ref f3, .ref f4, .int (nI nr), .ref f5, .ref f6, .ref f7, .ref f8, .ref f9, .ref f10])), (f4, .inl (y3.1, 12, .inl (fN tc))), (f5, .inl (y3.1, 72, .inl (fN (va_up lev ((j * 6) + (tc j)) a1)))), (f6, .inl (y3.1, 72, .inl (fN (va_up fo ((j * 6) + (tc j)) a2)))), (f7, .inl (y3.1, 72, .inl (fN tu))), (f8, .inl (y3.1, 72, .inl wn)), (f9, .inl (y3.1, 72, .inl mk))] := hD
  refine lv_aload_n hx hb dX0_addTest_29 rfl (lv_at hl 1 rfl) ?_
  refine va_get (D := D) (ci := 0) (v := .ref f7) (C := RX0) (T := TX0) (N := 12) hx hb hts hiX0 hown hK hP 0 rfl rfl 8 (by decide) hf37 (fun _ h9 => h9) rfl dX0_addTest_30 ?_
  refine lv_iload hx hb dX0_addTest_33 (lv_at hl 0 rfl) ?_
  refine lv_iload hx hb dX0_addTest_35 (lv_at hl 5 rfl) ?_
  refine ln_iastN hx hb hK hP hD hS 4 0 rfl rfl (by omega) (by decide) dX0_addTest_37 _ rfl (fun H locs hP hD hS => ?_)
  have hP : va_P D vwCl [(f0, .inr (0, [.ref f1, .int (nI nb), .ref f2, .ref f3, .ref f4, .int (nI nr), .ref f5, .ref f6, .ref f7, .ref f8, .ref f9, .ref f10])), (f4, .inl (y3.1, 12, .inl (fN tc))), (f5, .inl (y3.1, 72, .inl (fN (va_up lev ((j * 6) + (tc j)) a1)))), (f6, .inl (y3.1, 72, .inl (fN (va_up fo ((j * 6) + (tc j)) a2)))), (f7, .inl (y3.1, 72, .inl (fN (va_up tu ((j * 6) + (tc j)) a3)))), (f8, .inl (y3.1, 72, .inl wn)), (f9, .inl (y3.1, 72, .inl mk))] H := hP
  have hD : va_D A [(f0, .inr (0, [.ref f1, .int (nI nb), .ref f2, .ref f3, .ref f4, .int (nI nr), .ref f5, .ref f6, .ref f7, .ref f8, .ref f9, .ref f10])), (f4, .inl (y3.1, 12, .inl (fN tc))), (f5, .inl (y3.1, 72, .inl (fN (va_up lev ((j * 6) + (tc j)) a1)))), (f6, .inl (y3.1, 72, .inl (fN (va_up fo ((j * 6) + (tc j)) a2)))), (f7, .inl (y3.1, 72, .inl (fN (va_up tu ((j * 6) + (tc j)) a3)))), (f8, .inl (y3.1, 72, .inl wn)), (f9, .inl (y3.1, 72, .inl mk))] := hD
  refine lv_aload_n hx hb dX0_addTest_38 rfl (lv_at hl 1 rfl) ?_
  refine va_get (D := D) (ci := 0) (v := .ref f8) (C := RX0) (T := TX0) (N := 12) hx hb hts hiX0 hown hK hP 0 rfl rfl 9 (by decide) hf40 (fun _ h9 => h9) rfl dX0_addTest_39 ?_
  refine lv_iload hx hb dX0_addTest_42 (lv_at hl 0 rfl) ?_
  refine lv_iload hx hb dX0_addTest_44 (lv_at hl 6 rfl) ?_
  refine ln_iast hx hb hK hP hD hS 5 0 rfl rfl (by omega) (by decide) dX0_addTest_46 _ rfl (fun H locs hP hD hS => ?_)
  have hP : va_P D vwCl [(f0, .inr (0, [.ref f1, .int (nI nb), .ref f2, .ref f3, .ref f4, .int (nI nr), .ref f5, .ref f6, .ref f7, .ref f8, .ref f9, .ref f10])), (f4, .inl (y3.1, 12, .inl (fN tc))), (f5, .inl (y3.1, 72, .inl (fN (va_up lev ((j * 6) + (tc j)) a1)))), (f6, .inl (y3.1, 72, .inl (fN (va_up fo ((j * 6) + (tc j)) a2)))), (f7, .inl (y3.1, 72, .inl (fN (va_up tu ((j * 6) + (tc j)) a3)))), (f8, .inl (y3.1, 72, .inl (upd wn ((j * 6) + (tc j)) a4))), (f9, .inl (y3.1, 72, .inl mk))] H := hP
  have hD : va_D A [(f0, .inr (0, [.ref f1, .int (nI nb), .ref f2, .ref f3, .ref f4, .int (nI nr), .ref f5, .ref f6, .ref f7, .ref f8, .ref f9, .ref f10])), (f4, .inl (y3.1, 12, .inl (fN tc))), (f5, .inl (y3.1, 72, .inl (fN (va_up lev ((j * 6) + (tc j)) a1)))), (f6, .inl (y3.1, 72, .inl (fN (va_up fo ((j * 6) + (tc j)) a2)))), (f7, .inl (y3.1, 72, .inl (fN (va_up tu ((j * 6) + (tc j)) a3)))), (f8, .inl (y3.1, 72, .inl (upd wn ((j * 6) + (tc j)) a4))), (f9, .inl (y3.1, 72, .inl mk))] := hD
  refine lv_aload_n hx hb dX0_addTest_47 rfl (lv_at hl 1 rfl) ?_
  refine va_get (D := D) (ci := 0) (v := .ref f9) (C := RX0) (T := TX0) (N := 12) hx hb hts hiX0 hown hK hP 0 rfl rfl 10 (by decide) hf43 (fun _ h9 => h9) rfl dX0_addTest_48 ?_
  refine lv_iload hx hb dX0_addTest_51 (lv_at hl 0 rfl) ?_
  refine lv_iload hx hb dX0_addTest_53 (lv_at hl 7 rfl) ?_
  refine ln_iast hx hb hK hP hD hS 6 0 rfl rfl (by omega) (by decide) dX0_addTest_55 _ rfl (fun H locs hP hD hS => ?_)
  have hP : va_P D vwCl [(f0, .inr (0, [.ref f1, .int (nI nb), .ref f2, .ref f3, .ref f4, .int (nI nr), .ref f5, .ref f6, .ref f7, .ref f8, .ref f9, .ref f10])), (f4, .inl (y3.1, 12, .inl (fN tc))), (f5, .inl (y3.1, 72, .inl (fN (va_up lev ((j * 6) + (tc j)) a1)))), (f6, .inl (y3.1, 72, .inl (fN (va_up fo ((j * 6) + (tc j)) a2)))), (f7, .inl (y3.1, 72, .inl (fN (va_up tu ((j * 6) + (tc j)) a3)))), (f8, .inl (y3.1, 72, .inl (upd wn ((j * 6) + (tc j)) a4))), (f9, .inl (y3.1, 72, .inl (upd mk ((j * 6) + (tc j)) a5)))] H := hP
  have hD : va_D A [(f0, .inr (0, [.ref f1, .int (nI nb), .ref f2, .ref f3, .ref f4, .int (nI nr), .ref f5, .ref f6, .ref f7, .ref f8, .ref f9, .ref f10])), (f4, .inl (y3.1, 12, .inl (fN tc))), (f5, .inl (y3.1, 72, .inl (fN (va_up lev ((j * 6) + (tc j)) a1)))), (f6, .inl (y3.1, 72, .inl (fN (va_up fo ((j * 6) + (tc j)) a2)))), (f7, .inl (y3.1, 72, .inl (fN (va_up tu ((j * 6) + (tc j)) a3)))), (f8, .inl (y3.1, 72, .inl (upd wn ((j * 6) + (tc j)) a4))), (f9, .inl (y3.1, 72, .inl (upd mk ((j * 6) + (tc j)) a5)))] := hD
  refine lv_aload_n hx hb dX0_addTest_56 rfl (lv_at hl 1 rfl) ?_
  refine va_get (D := D) (ci := 0) (v := .ref f4) (C := RX0) (T := TX0) (N := 12) hx hb hts hiX0 hown hK hP 0 rfl rfl 4 (by decide) hf25 (fun _ h9 => h9) rfl dX0_addTest_57 ?_
  refine lv_iload_n hx hb dX0_addTest_60 rfl (lv_at hl 2 rfl) ?_
  refine lv_dup2_11 hx hb dX0_addTest_61 rfl rfl ?_
  refine ln_ialdN hx hb hK hP 1 0 rfl rfl (by omega) (by decide) dX0_addTest_62 ?_
  refine lv_iconst (v := (nI 1)) hx hb dX0_addTest_63 rfl ?_
  refine ln_iadd (n := (tc j) + 1) hx hb rfl dX0_addTest_64 ?_
  refine ln_iastN hx hb hK hP hD hS 1 0 rfl rfl (by omega) (by decide) dX0_addTest_65 _ rfl (fun H locs hP hD hS => ?_)
  have hP : va_P D vwCl [(f0, .inr (0, [.ref f1, .int (nI nb), .ref f2, .ref f3, .ref f4, .int (nI nr), .ref f5, .ref f6, .ref f7, .ref f8, .ref f9, .ref f10])), (f4, .inl (y3.1, 12, .inl (fN (va_up tc j ((tc j) + 1))))), (f5, .inl (y3.1, 72, .inl (fN (va_up lev ((j * 6) + (tc j)) a1)))), (f6, .inl (y3.1, 72, .inl (fN (va_up fo ((j * 6) + (tc j)) a2)))), (f7, .inl (y3.1, 72, .inl (fN (va_up tu ((j * 6) + (tc j)) a3)))), (f8, .inl (y3.1, 72, .inl (upd wn ((j * 6) + (tc j)) a4))), (f9, .inl (y3.1, 72, .inl (upd mk ((j * 6) + (tc j)) a5)))] H := hP
  have hD : va_D A [(f0, .inr (0, [.ref f1, .int (nI nb), .ref f2, .ref f3, .ref f4, .int (nI nr), .ref f5, .ref f6, .ref f7, .ref f8, .ref f9, .ref f10])), (f4, .inl (y3.1, 12, .inl (fN (va_up tc j ((tc j) + 1))))), (f5, .inl (y3.1, 72, .inl (fN (va_up lev ((j * 6) + (tc j)) a1)))), (f6, .inl (y3.1, 72, .inl (fN (va_up fo ((j * 6) + (tc j)) a2)))), (f7, .inl (y3.1, 72, .inl (fN (va_up tu ((j * 6) + (tc j)) a3)))), (f8, .inl (y3.1, 72, .inl (upd wn ((j * 6) + (tc j)) a4))), (f9, .inl (y3.1, 72, .inl (upd mk ((j * 6) + (tc j)) a5)))] := hD
  refine lv_aload_n hx hb dX0_addTest_66 rfl (lv_at hl 1 rfl) ?_
  refine va_get (D := D) (ci := 0) (v := .ref f4) (C := RX0) (T := TX0) (N := 12) hx hb hts hiX0 hown hK hP 0 rfl rfl 4 (by decide) hf25 (fun _ h9 => h9) rfl dX0_addTest_67 ?_
  refine lv_iload_n hx hb dX0_addTest_70 rfl (lv_at hl 2 rfl) ?_
  refine ln_ialdN hx hb hK hP 1 0 rfl rfl (by omega) (by decide) dX0_addTest_71 ?_
  refine ln_eqi (y := (nI ((tc j) + 1))) (by rw [up_s]) ?_
  exact hret 72 ls H locs _ _ () _ hP hD hS (Nat.le_of_ble_eq_true rfl) (Nat.le_of_ble_eq_true rfl) rfl dX0_addTest_72

set_option maxHeartbeats 4000000 in
set_option maxRecDepth 100000 in
theorem kX0_kindOf (l : Launch) (D : va_G) (y3 : ClassId × ClassId × ClassId) (f0 : Nat) (f1 : Nat) (f2 : Nat) (f3 : Nat) (f4 : Nat) (f5 : Nat) (f6 : Nat) (f7 : Nat) (f8 : Nat) (f9 : Nat) (f10 : Nat) (nb : Nat) (nr : Nat) (kr : Nat → Nat) (k : Int32) (hnr : nr ≤ 12) : rdM l yX0_kindOf wsX0_kindOf 1 21 D y3 [(f0, .inr (0, [.ref f1, .int (nI nb), .ref f2, .ref f3, .ref f4, .int (nI nr), .ref f5, .ref f6, .ref f7, .ref f8, .ref f9, .ref f10])), (f2, .inl (y3.1, 12, .inl (fN kr)))] [.ref f0, .int k] (fun r => r = (kndR nr kr k)) := by
  refine rd_of (cc := cX0_kindOf) (maxL := 2) (by decide) rfl (Nat.le_of_ble_eq_true rfl) ?_
  intro p e s m args below meth c Q hx hb hml hown hts hP hK hret ls hl
  replace hl : lv_has ls 2 [(0, .ref f0), (1, .int k)] := hl
  have hf19 := hts (.fieldLink RX0 19 "KindGuesser$ByteSide" "kindsOfRules" "[I") (by decide +kernel)
  have hiX0 : ∀ q ∈ wsX00, q ∈ wsX0_kindOf := by decide +kernel
  refine lv_aload_n hx hb dX0_kindOf_0 rfl (lv_at hl 0 rfl) ?_
  refine lv_iload_n hx hb dX0_kindOf_1 rfl (lv_at hl 1 rfl) ?_
  refine rd_V (ci := 0) (q0 := 0) (own := RX0) (As := [.int k]) (rest := []) (bytes := cX0_hasRule) (maxL := 2) ⟨hx, hb, hml, hown, hts⟩ (kX0_hasRule l D y3 f0 f1 f2 f3 f4 f5 f6 f7 f8 f9 f10 nb nr k (by omega)) gX0_kindOf_X0_hasRule rfl hvX0_hasRule ⟨Nat.le_of_ble_eq_true rfl, Nat.le_of_ble_eq_true rfl⟩ hP hK [0] rfl rfl rfl hl.1 rfl (Nat.le_of_ble_eq_true rfl) dX0_kindOf_2 ⟨Nat.zero_le _, Nat.zero_le _⟩ (fun r1 hr1 => ?_)
  subst hr1
  refine lb_if_eq (tgt := 17) hx hb dX0_kindOf_5 (by decide) (fun c5 => ?_) (fun c5 => ?_)
  · refine lv_iconst (v := (-1)) hx hb dX0_kindOf_17 rfl ?_
    exact hret 18 ls _ (by unfold kndR; rw [c5]; rfl) dX0_kindOf_18
  · refine lv_aload_n hx hb dX0_kindOf_8 rfl (lv_at hl 0 rfl) ?_
    refine va_get (D := D) (ci := 0) (v := .ref f2) (C := RX0) (T := TX0) (N := 12) hx hb hts hiX0 hown hK hP 0 rfl rfl 2 (by decide) hf19 (fun _ h9 => h9) rfl dX0_kindOf_9 ?_
    refine lv_iload_n hx hb dX0_kindOf_12 rfl (lv_at hl 1 rfl) ?_
    obtain ⟨j, hj, ej⟩ := inB_N c5 (by omega)
    refine ln_eqi (y := (nI j)) ej ?_
    refine ln_ialdN hx hb hK hP 1 0 rfl rfl (by omega) (by decide) dX0_kindOf_13 ?_
    refine lv_goto (tgt := 18) hx hb dX0_kindOf_14 (by decide) ?_
    exact hret 18 ls _ (by rw [ej, kndR_N hj (by omega)]) dX0_kindOf_18

set_option maxHeartbeats 4000000 in
set_option maxRecDepth 100000 in
theorem kX0_isStrong (l : Launch) (D : va_G) (y3 : ClassId × ClassId × ClassId) (f0 : Nat) (f1 : Nat) (f2 : Nat) (f3 : Nat) (f4 : Nat) (f5 : Nat) (f6 : Nat) (f7 : Nat) (f8 : Nat) (f9 : Nat) (f10 : Nat) (nb : Nat) (nr : Nat) (pr : Nat → Int32) (k : Int32) (hnr : nr ≤ 12) : rdM l yX0_isStrong wsX0_isStrong 1 21 D y3 [(f0, .inr (0, [.ref f1, .int (nI nb), .ref f2, .ref f3, .ref f4, .int (nI nr), .ref f5, .ref f6, .ref f7, .ref f8, .ref f9, .ref f10])), (f3, .inl (y3.1, 12, .inl pr))] [.ref f0, .int k] (fun r => r = (bI (stgB nr pr k))) := by
  refine rz_of (cc := cX0_isStrong) (maxL := 2) (by decide) rfl (Nat.le_of_ble_eq_true rfl) ?_
  intro p e s m args below meth c Q hx hb hml hown hts hP hK hret ls hl
  replace hl : lv_has ls 2 [(0, .ref f0), (1, .int k)] := hl
  have hf22 := hts (.fieldLink RX0 22 "KindGuesser$ByteSide" "priorities" "[I") (by decide +kernel)
  have hiX0 : ∀ q ∈ wsX00, q ∈ wsX0_isStrong := by decide +kernel
  refine lv_aload_n hx hb dX0_isStrong_0 rfl (lv_at hl 0 rfl) ?_
  refine lv_iload_n hx hb dX0_isStrong_1 rfl (lv_at hl 1 rfl) ?_
  refine rd_V (ci := 0) (q0 := 0) (own := RX0) (As := [.int k]) (rest := []) (bytes := cX0_hasRule) (maxL := 2) ⟨hx, hb, hml, hown, hts⟩ (kX0_hasRule l D y3 f0 f1 f2 f3 f4 f5 f6 f7 f8 f9 f10 nb nr k (by omega)) gX0_isStrong_X0_hasRule rfl hvX0_hasRule ⟨Nat.le_of_ble_eq_true rfl, Nat.le_of_ble_eq_true rfl⟩ hP hK [0] rfl rfl rfl hl.1 rfl (Nat.le_of_ble_eq_true rfl) dX0_isStrong_2 ⟨Nat.zero_le _, Nat.zero_le _⟩ (fun r1 hr1 => ?_)
  subst hr1
  refine lb_if_eq (tgt := 23) hx hb dX0_isStrong_5 (by decide) (fun c5 => ?_) (fun c5 => ?_)
  · refine lv_iconst (v := (nI 0)) hx hb dX0_isStrong_23 rfl ?_
    exact hret 24 ls _ (bI_f (by unfold stgB; first | (rw [c5]; rfl) | (rw [c5, ej, nI_clamp (by omega)]; exact decide_eq_false (Int32.not_le.mpr c16)))) dX0_isStrong_24
  · refine lv_aload_n hx hb dX0_isStrong_8 rfl (lv_at hl 0 rfl) ?_
    refine va_get (D := D) (ci := 0) (v := .ref f3) (C := RX0) (T := TX0) (N := 12) hx hb hts hiX0 hown hK hP 0 rfl rfl 3 (by decide) hf22 (fun _ h9 => h9) rfl dX0_isStrong_9 ?_
    refine lv_iload_n hx hb dX0_isStrong_12 rfl (lv_at hl 1 rfl) ?_
    obtain ⟨j, hj, ej⟩ := inB_N c5 (by omega)
    refine ln_eqi (y := (nI j)) ej ?_
    refine ln_iald hx hb hK hP 1 0 rfl rfl (by omega) (by decide) dX0_isStrong_13 ?_
    refine lv_bipush (v := (nI 50)) hx hb dX0_isStrong_14 rfl ?_
    refine lv_icmp_lt (tgt := 23) hx hb dX0_isStrong_16 (by decide) (fun c16 => ?_) (fun c16 => ?_)
    · refine lv_iconst (v := (nI 0)) hx hb dX0_isStrong_23 rfl ?_
      exact hret 24 ls _ (bI_f (by unfold stgB; first | (rw [c5]; rfl) | (rw [c5, ej, nI_clamp (by omega)]; exact decide_eq_false (Int32.not_le.mpr c16)))) dX0_isStrong_24
    · refine lv_iconst (v := (nI 1)) hx hb dX0_isStrong_19 rfl ?_
      refine lv_goto (tgt := 24) hx hb dX0_isStrong_20 (by decide) ?_
      exact hret 24 ls _ (bI_t (by unfold stgB; rw [c5, ej, nI_clamp (by omega)]; exact decide_eq_true (Int32.not_lt.mp c16))) dX0_isStrong_24

set_option maxHeartbeats 4000000 in
set_option maxRecDepth 100000 in
theorem kX0_holds (l : Launch) (D : va_G) (y3 : ClassId × ClassId × ClassId) (f0 : Nat) (f1 : Nat) (f2 : Nat) (f3 : Nat) (f4 : Nat) (f5 : Nat) (f6 : Nat) (f7 : Nat) (f8 : Nat) (f9 : Nat) (f10 : Nat) (nb : Nat) (nr : Nat) (vb : Nat → Int32) (fo : Nat → Nat) (tu : Nat → Nat) (wn : Nat → Int32) (mk : Nat → Int32) (t : Nat) (ht : t < 72) (hnb : nb ≤ 16) (hfo : ∀ q : Nat, fo q ≤ 15) (htu : ∀ q : Nat, tu q ≤ 15) : rdM l yX0_holds wsX0_holds 0 0 D y3 [(f0, .inr (0, [.ref f1, .int (nI nb), .ref f2, .ref f3, .ref f4, .int (nI nr), .ref f5, .ref f6, .ref f7, .ref f8, .ref f9, .ref f10])), (f1, .inl (y3.1, 16, .inl vb)), (f6, .inl (y3.1, 72, .inl (fN fo))), (f7, .inl (y3.1, 72, .inl (fN tu))), (f8, .inl (y3.1, 72, .inl wn)), (f9, .inl (y3.1, 72, .inl mk))] [.ref f0, .int (nI t)] (fun r => r = (bI (hldB vb nb fo tu wn mk t))) := by
  refine rz_of (cc := cX0_holds) (maxL := 3) (by decide) rfl (Nat.le_of_ble_eq_true rfl) ?_
  intro p e s m args below meth c Q hx hb hml hown hts hP hK hret ls hl
  replace hl : lv_has ls 3 [(0, .ref f0), (1, .int (nI t))] := hl
  have q1 := hfo t
  have q2 := htu t
  have hf15 := hts (.fieldLink RX0 15 "KindGuesser$ByteSide" "byteCount" "I") (by decide +kernel)
  have hf34 := hts (.fieldLink RX0 34 "KindGuesser$ByteSide" "froms" "[I") (by decide +kernel)
  have hf37 := hts (.fieldLink RX0 37 "KindGuesser$ByteSide" "tos" "[I") (by decide +kernel)
  have hf40 := hts (.fieldLink RX0 40 "KindGuesser$ByteSide" "wanted" "[I") (by decide +kernel)
  have hf43 := hts (.fieldLink RX0 43 "KindGuesser$ByteSide" "masks" "[I") (by decide +kernel)
  have hf9 := hts (.fieldLink RX0 9 "KindGuesser$ByteSide" "values" "[I") (by decide +kernel)
  have hiX0 : ∀ q ∈ wsX00, q ∈ wsX0_holds := by decide +kernel
  refine lv_aload_n hx hb dX0_holds_0 rfl (lv_at hl 0 rfl) ?_
  refine va_get (D := D) (ci := 0) (v := .ref f6) (C := RX0) (T := TX0) (N := 12) hx hb hts hiX0 hown hK hP 0 rfl rfl 7 (by decide) hf34 (fun _ h9 => h9) rfl dX0_holds_1 ?_
  refine lv_iload_n hx hb dX0_holds_4 rfl (lv_at hl 1 rfl) ?_
  refine ln_ialdN hx hb hK hP 2 0 rfl rfl (by omega) (by decide) dX0_holds_5 ?_
  refine lv_istore_n (lv' := [(2, .int (nI (fo t))), (0, .ref f0), (1, .int (nI t))]) hx hb dX0_holds_6 rfl hl (by decide) rfl (fun ls hl => ?_)
  have lp7 : ∀ (n1 : Nat) (q : Nat), 16 - q < n1 → (fo t ≤ q) → (∀ i : Nat, fo t ≤ i → i < q → ¬ (vb i &&& mk t) = wn t) → (q ≤ 16) → ∀ ls : Array Slot, lv_has ls 3 [(2, .int (nI q)), (0, .ref f0), (1, .int (nI t))] → W p l e (rmO 0 0 0 0) s m args below meth c s.heap [] 0 0 Q (F0 m 7 ls []) := by
    intro n1
    induction n1 with
    | zero => intro q hm; exact absurd hm (Nat.not_lt_zero _)
    | succ n1 ih7 =>
      intro q hm7 h1 h2 h3 ls hl
      refine lv_iload_n hx hb dX0_holds_7 rfl (lv_at hl 0 rfl) ?_
      refine lv_aload_n hx hb dX0_holds_8 rfl (lv_at hl 1 rfl) ?_
      refine va_get (D := D) (ci := 0) (v := .ref f7) (C := RX0) (T := TX0) (N := 12) hx hb hts hiX0 hown hK hP 0 rfl rfl 8 (by decide) hf37 (fun _ h9 => h9) rfl dX0_holds_9 ?_
      refine lv_iload_n hx hb dX0_holds_12 rfl (lv_at hl 2 rfl) ?_
      refine ln_ialdN hx hb hK hP 3 0 rfl rfl (by omega) (by decide) dX0_holds_13 ?_
      refine ln_icmp_gt (tgt := 55) hx hb (by omega) (by omega) dX0_holds_14 (by decide) (fun c14 => ?_) (fun c14 => ?_)
      · refine lv_iconst (v := (nI 0)) hx hb dX0_holds_55 rfl ?_
        exact hret 56 ls _ (bI_f (hld_f (fun i hi1 hi2 hi3 => h2 i hi1 (by omega)))) dX0_holds_56
      · refine lv_iload_n hx hb dX0_holds_17 rfl (lv_at hl 0 rfl) ?_
        refine lv_aload_n hx hb dX0_holds_18 rfl (lv_at hl 1 rfl) ?_
        refine va_get (D := D) (ci := 0) (v := .int (nI nb)) (C := RX0) (T := TX0) (N := 12) hx hb hts hiX0 hown hK hP 0 rfl rfl 1 (by decide) hf15 (fun _ h9 => h9) rfl dX0_holds_19 ?_
        refine ln_icmp_ge (tgt := 55) hx hb (by omega) (by omega) dX0_holds_22 (by decide) (fun c22 => ?_) (fun c22 => ?_)
        · refine lv_iconst (v := (nI 0)) hx hb dX0_holds_55 rfl ?_
          exact hret 56 ls _ (bI_f (hld_f (fun i hi1 hi2 hi3 => h2 i hi1 (by omega)))) dX0_holds_56
        · refine lv_aload_n hx hb dX0_holds_25 rfl (lv_at hl 1 rfl) ?_
          refine va_get (D := D) (ci := 0) (v := .ref f1) (C := RX0) (T := TX0) (N := 12) hx hb hts hiX0 hown hK hP 0 rfl rfl 0 (by decide) hf9 (fun _ h9 => h9) rfl dX0_holds_26 ?_
          refine lv_iload_n hx hb dX0_holds_29 rfl (lv_at hl 0 rfl) ?_
          refine ln_iald hx hb hK hP 1 0 rfl rfl (by omega) (by decide) dX0_holds_30 ?_
          refine lv_aload_n hx hb dX0_holds_31 rfl (lv_at hl 1 rfl) ?_
          refine va_get (D := D) (ci := 0) (v := .ref f9) (C := RX0) (T := TX0) (N := 12) hx hb hts hiX0 hown hK hP 0 rfl rfl 10 (by decide) hf43 (fun _ h9 => h9) rfl dX0_holds_32 ?_
          refine lv_iload_n hx hb dX0_holds_35 rfl (lv_at hl 2 rfl) ?_
          refine ln_iald hx hb hK hP 5 0 rfl rfl (by omega) (by decide) dX0_holds_36 ?_
          refine lv_iand hx hb dX0_holds_37 ?_
          refine lv_aload_n hx hb dX0_holds_38 rfl (lv_at hl 1 rfl) ?_
          refine va_get (D := D) (ci := 0) (v := .ref f8) (C := RX0) (T := TX0) (N := 12) hx hb hts hiX0 hown hK hP 0 rfl rfl 9 (by decide) hf40 (fun _ h9 => h9) rfl dX0_holds_39 ?_
          refine lv_iload_n hx hb dX0_holds_42 rfl (lv_at hl 2 rfl) ?_
          refine ln_iald hx hb hK hP 4 0 rfl rfl (by omega) (by decide) dX0_holds_43 ?_
          refine lv_icmp_ne (tgt := 49) hx hb dX0_holds_44 (by decide) (fun c44 => ?_) (fun c44 => ?_)
          · refine lv_iinc (v := (nI (q + 1))) (lv' := [(2, .int (nI (q + 1))), (0, .ref f0), (1, .int (nI t))]) hx hb dX0_holds_49 hl (k := 0) rfl (nI_add _ _) (by decide) rfl (fun ls hl => ?_)
            refine lv_goto (tgt := 7) hx hb dX0_holds_52 (by decide) ?_
            exact ih7 (q + 1) (by omega) (by omega) (fun i hi1 hi2 => by
          by_cases hiq : i = q
          · subst hiq; exact c44
          · exact h2 i hi1 (by omega)) (by omega) _ (lv_sub hl [0, 1, 2] rfl)
          · refine lv_iconst (v := (nI 1)) hx hb dX0_holds_47 rfl ?_
            exact hret 48 ls _ (bI_t (hld_t (i := q) (by omega) (by omega) (by omega) c44)) dX0_holds_48
  exact lp7 _ (fo t) (Nat.lt_succ_self _) (Nat.le_refl _) (fun i h1 h2 => absurd h2 (by omega)) (by omega) _ (lv_sub hl [0, 1, 2] rfl)

set_option maxHeartbeats 4000000 in
set_option maxRecDepth 100000 in
theorem kX0_leadsBelow (l : Launch) (D : va_G) (y3 : ClassId × ClassId × ClassId) (f0 : Nat) (f1 : Nat) (f2 : Nat) (f3 : Nat) (f4 : Nat) (f5 : Nat) (f6 : Nat) (f7 : Nat) (f8 : Nat) (f9 : Nat) (f10 : Nat) (nb : Nat) (nr : Nat) (lev : Nat → Nat) (ld : Nat → Bool) (t : Nat) (en : Nat) (ht : t < en) (hen : en ≤ 72) (hlv : ∀ q : Nat, lev q ≤ 5) : rdM l yX0_leadsBelow wsX0_leadsBelow 0 0 D y3 [(f0, .inr (0, [.ref f1, .int (nI nb), .ref f2, .ref f3, .ref f4, .int (nI nr), .ref f5, .ref f6, .ref f7, .ref f8, .ref f9, .ref f10])), (f5, .inl (y3.1, 72, .inl (fN lev))), (f10, .inl (y3.2.1, 72, .inl (fB ld)))] [.ref f0, .int (nI t), .int (nI en)] (fun r => r = (bI (pdec (lbP lev ld t en)))) := by
  refine rz_of (cc := cX0_leadsBelow) (maxL := 6) (by decide) rfl (Nat.le_of_ble_eq_true rfl) ?_
  intro p e s m args below meth c Q hx hb hml hown hts hP hK hret ls hl
  replace hl : lv_has ls 6 [(0, .ref f0), (1, .int (nI t)), (2, .int (nI en))] := hl
  have q1 := hlv t
  have hf31 := hts (.fieldLink RX0 31 "KindGuesser$ByteSide" "levels" "[I") (by decide +kernel)
  have hf46 := hts (.fieldLink RX0 46 "KindGuesser$ByteSide" "leads" "[Z") (by decide +kernel)
  have hiX0 : ∀ q ∈ wsX00, q ∈ wsX0_leadsBelow := by decide +kernel
  refine lv_aload_n hx hb dX0_leadsBelow_0 rfl (lv_at hl 0 rfl) ?_
  refine va_get (D := D) (ci := 0) (v := .ref f5) (C := RX0) (T := TX0) (N := 12) hx hb hts hiX0 hown hK hP 0 rfl rfl 6 (by decide) hf31 (fun _ h9 => h9) rfl dX0_leadsBelow_1 ?_
  refine lv_iload_n hx hb dX0_leadsBelow_4 rfl (lv_at hl 1 rfl) ?_
  refine ln_ialdN hx hb hK hP 1 0 rfl rfl (by omega) (by decide) dX0_leadsBelow_5 ?_
  refine lv_iconst (v := (nI 1)) hx hb dX0_leadsBelow_6 rfl ?_
  refine ln_iadd (n := (lev t) + 1) hx hb rfl dX0_leadsBelow_7 ?_
  refine lv_istore_n (lv' := [(3, .int (nI ((lev t) + 1))), (0, .ref f0), (1, .int (nI t)), (2, .int (nI en))]) hx hb dX0_leadsBelow_8 rfl hl (by decide) rfl (fun ls hl => ?_)
  refine lv_iconst (v := (nI 1)) hx hb dX0_leadsBelow_9 rfl ?_
  refine lv_istore (lv' := [(4, .int (nI 1)), (3, .int (nI ((lev t) + 1))), (0, .ref f0), (1, .int (nI t)), (2, .int (nI en))]) hx hb dX0_leadsBelow_10 hl (by decide) rfl (fun ls hl => ?_)
  refine lv_iload_n hx hb dX0_leadsBelow_12 rfl (lv_at hl 3 rfl) ?_
  refine lv_iconst (v := (nI 1)) hx hb dX0_leadsBelow_13 rfl ?_
  refine ln_iadd (n := t + 1) hx hb rfl dX0_leadsBelow_14 ?_
  refine lv_istore (lv' := [(5, .int (nI (t + 1))), (4, .int (nI 1)), (3, .int (nI ((lev t) + 1))), (0, .ref f0), (1, .int (nI t)), (2, .int (nI en))]) hx hb dX0_leadsBelow_15 hl (by decide) rfl (fun ls hl => ?_)
  have lp17 : ∀ (n1 : Nat) (q : Nat) (g : Bool), en - q < n1 → (t < q) → (q ≤ en) → (∀ k : Nat, t < k → k < q → lev t + 1 ≤ lev k) → (g = true ↔ ∀ i : Nat, t < i → i < q → ¬ lev i = lev t + 1) → (∀ i : Nat, t < i → i < q → lev i = lev t + 1 → ld i = false) → ∀ ls : Array Slot, lv_has ls 6 [(5, .int (nI q)), (4, .int (bI g)), (3, .int (nI ((lev t) + 1))), (0, .ref f0), (1, .int (nI t)), (2, .int (nI en))] → W p l e (rmO 0 0 0 0) s m args below meth c s.heap [] 0 0 Q (F0 m 17 ls []) := by
    intro n1
    induction n1 with
    | zero => intro q g hm; exact absurd hm (Nat.not_lt_zero _)
    | succ n1 ih17 =>
      intro q g hm17 h1 h2 h3 h4 h5 ls hl
      have q2 := hlv q
      refine lv_iload hx hb dX0_leadsBelow_17 (lv_at hl 0 rfl) ?_
      refine lv_iload_n hx hb dX0_leadsBelow_19 rfl (lv_at hl 5 rfl) ?_
      refine ln_icmp_ge (tgt := 66) hx hb (by omega) (by omega) dX0_leadsBelow_20 (by decide) (fun c20 => ?_) (fun c20 => ?_)
      · refine lv_iload hx hb dX0_leadsBelow_66 (lv_at hl 1 rfl) ?_
        exact hret 68 ls _ (congrArg bI (pdec_of (lb_end h1 h2 h3 h4 h5 (by first | exact Or.inl c20 | exact Or.inr c31)))) dX0_leadsBelow_68
      · refine lv_aload_n hx hb dX0_leadsBelow_23 rfl (lv_at hl 3 rfl) ?_
        refine va_get (D := D) (ci := 0) (v := .ref f5) (C := RX0) (T := TX0) (N := 12) hx hb hts hiX0 hown hK hP 0 rfl rfl 6 (by decide) hf31 (fun _ h9 => h9) rfl dX0_leadsBelow_24 ?_
        refine lv_iload hx hb dX0_leadsBelow_27 (lv_at hl 0 rfl) ?_
        refine ln_ialdN hx hb hK hP 1 0 rfl rfl (by omega) (by decide) dX0_leadsBelow_29 ?_
        refine lv_iload_n hx hb dX0_leadsBelow_30 rfl (lv_at hl 2 rfl) ?_
        refine ln_icmp_lt (tgt := 66) hx hb (by omega) (by omega) dX0_leadsBelow_31 (by decide) (fun c31 => ?_) (fun c31 => ?_)
        · refine lv_iload hx hb dX0_leadsBelow_66 (lv_at hl 1 rfl) ?_
          exact hret 68 ls _ (congrArg bI (pdec_of (lb_end h1 h2 h3 h4 h5 (by first | exact Or.inl c20 | exact Or.inr c31)))) dX0_leadsBelow_68
        · refine lv_aload_n hx hb dX0_leadsBelow_34 rfl (lv_at hl 3 rfl) ?_
          refine va_get (D := D) (ci := 0) (v := .ref f5) (C := RX0) (T := TX0) (N := 12) hx hb hts hiX0 hown hK hP 0 rfl rfl 6 (by decide) hf31 (fun _ h9 => h9) rfl dX0_leadsBelow_35 ?_
          refine lv_iload hx hb dX0_leadsBelow_38 (lv_at hl 0 rfl) ?_
          refine ln_ialdN hx hb hK hP 1 0 rfl rfl (by omega) (by decide) dX0_leadsBelow_40 ?_
          refine lv_iload_n hx hb dX0_leadsBelow_41 rfl (lv_at hl 2 rfl) ?_
          refine ln_icmp_ne (tgt := 60) hx hb (by omega) (by omega) dX0_leadsBelow_42 (by decide) (fun c42 => ?_) (fun c42 => ?_)
          · refine lv_iinc (v := (nI (q + 1))) (lv' := [(5, .int (nI (q + 1))), (4, .int (bI g)), (3, .int (nI ((lev t) + 1))), (0, .ref f0), (1, .int (nI t)), (2, .int (nI en))]) hx hb dX0_leadsBelow_60 hl (k := 0) rfl (nI_add _ _) (by decide) rfl (fun ls hl => ?_)
            refine lv_goto (tgt := 17) hx hb dX0_leadsBelow_63 (by decide) ?_
            exact ih17 (q + 1) g (by omega) (by omega) (by omega) (fun k a1 a2 => by
          by_cases hk : k = q
          · subst hk; omega
          · exact h3 k a1 (by omega)) (h4.trans ⟨fun h i a1 a2 => by
          by_cases hi : i = q
          · subst hi; exact c42
          · exact h i a1 (by omega), fun h i a1 a2 => h i a1 (by omega)⟩) (fun i a1 a2 a3 => by
          by_cases hi : i = q
          · subst hi; first | exact c52 | exact absurd a3 c42
          · exact h5 i a1 (by omega) a3) _ (lv_sub hl [0, 1, 2, 3, 4, 5] rfl)
          · refine lv_aload_n hx hb dX0_leadsBelow_45 rfl (lv_at hl 3 rfl) ?_
            refine va_get (D := D) (ci := 0) (v := .ref f10) (C := RX0) (T := TX0) (N := 12) hx hb hts hiX0 hown hK hP 0 rfl rfl 11 (by decide) hf46 (fun _ h9 => h9) rfl dX0_leadsBelow_46 ?_
            refine lv_iload hx hb dX0_leadsBelow_49 (lv_at hl 0 rfl) ?_
            refine ln_zaldB hx hb hK hP 2 1 rfl rfl (by omega) (by decide) dX0_leadsBelow_51 ?_
            refine lb_if_eq (tgt := 57) hx hb dX0_leadsBelow_52 (by decide) (fun c52 => ?_) (fun c52 => ?_)
            · refine lv_iconst (v := (nI 0)) hx hb dX0_leadsBelow_57 rfl ?_
              refine lv_istore (lv' := [(4, .int (nI 0)), (5, .int (nI q)), (3, .int (nI ((lev t) + 1))), (0, .ref f0), (1, .int (nI t)), (2, .int (nI en))]) hx hb dX0_leadsBelow_58 hl (by decide) rfl (fun ls hl => ?_)
              refine lv_iinc (v := (nI (q + 1))) (lv' := [(5, .int (nI (q + 1))), (4, .int (nI 0)), (3, .int (nI ((lev t) + 1))), (0, .ref f0), (1, .int (nI t)), (2, .int (nI en))]) hx hb dX0_leadsBelow_60 hl (k := 1) rfl (nI_add _ _) (by decide) rfl (fun ls hl => ?_)
              refine lv_goto (tgt := 17) hx hb dX0_leadsBelow_63 (by decide) ?_
              exact ih17 (q + 1) false (by omega) (by omega) (by omega) (fun k a1 a2 => by
          by_cases hk : k = q
          · subst hk; omega
          · exact h3 k a1 (by omega)) (⟨fun h => absurd h (by decide), fun h => absurd c42 (h q (by omega) (by omega))⟩) (fun i a1 a2 a3 => by
          by_cases hi : i = q
          · subst hi; first | exact c52 | exact absurd a3 c42
          · exact h5 i a1 (by omega) a3) _ (lv_sub hl [0, 1, 2, 3, 4, 5] rfl)
            · refine lv_iconst (v := (nI 1)) hx hb dX0_leadsBelow_55 rfl ?_
              exact hret 56 ls _ (bI_t (pdec_t (Or.inr ⟨q, by omega, ⟨by omega, fun k a1 a2 => (by
            by_cases hk : k = q
            · subst hk; omega
            · exact h3 k a1 (by omega)), c42⟩, c52⟩))) dX0_leadsBelow_56
  exact lp17 _ (t + 1) true (Nat.lt_succ_self _) (by omega) (by omega) (fun k a1 a2 => absurd a2 (by omega)) (⟨fun _ i a1 a2 => absurd a2 (by omega), fun _ => rfl⟩) (fun i a1 a2 => absurd a2 (by omega)) _ (lv_sub hl [0, 1, 2, 3, 4, 5] rfl)

set_option maxHeartbeats 4000000 in
set_option maxRecDepth 100000 in
theorem kX0_provesKind (l : Launch) (D : va_G) (y3 : ClassId × ClassId × ClassId) (f0 : Nat) (f1 : Nat) (f2 : Nat) (f3 : Nat) (f4 : Nat) (f5 : Nat) (f6 : Nat) (f7 : Nat) (f8 : Nat) (f9 : Nat) (f10 : Nat) (nb : Nat) (nr : Nat) (vb : Nat → Int32) (tc : Nat → Nat) (lev : Nat → Nat) (fo : Nat → Nat) (tu : Nat → Nat) (wn : Nat → Int32) (mk : Nat → Int32) (ld : Nat → Bool) (j : Nat) (hj : j < 12) (hnb : nb ≤ 16) (htc : ∀ q : Nat, tc q ≤ 6) (hlv : ∀ q : Nat, lev q ≤ 5) (hfo : ∀ q : Nat, fo q ≤ 15) (htu : ∀ q : Nat, tu q ≤ 15) : wrM l yX0_provesKind wsX0_provesKind 1 25 0 0 D y3 [(f0, .inr (0, [.ref f1, .int (nI nb), .ref f2, .ref f3, .ref f4, .int (nI nr), .ref f5, .ref f6, .ref f7, .ref f8, .ref f9, .ref f10])), (f1, .inl (y3.1, 16, .inl vb)), (f4, .inl (y3.1, 12, .inl (fN tc))), (f5, .inl (y3.1, 72, .inl (fN lev))), (f6, .inl (y3.1, 72, .inl (fN fo))), (f7, .inl (y3.1, 72, .inl (fN tu))), (f8, .inl (y3.1, 72, .inl wn)), (f9, .inl (y3.1, 72, .inl mk)), (f10, .inl (y3.2.1, 72, .inl (fB ld)))] [.ref f0, .int (nI j)] (fun r (u : Nat → Bool) => r = (bI (prvB lev (hldB vb nb fo tu wn mk) (j * 6) ((j * 6) + (tc j))))) (fun (u : Nat → Bool) => [(f0, .inr (0, [.ref f1, .int (nI nb), .ref f2, .ref f3, .ref f4, .int (nI nr), .ref f5, .ref f6, .ref f7, .ref f8, .ref f9, .ref f10])), (f1, .inl (y3.1, 16, .inl vb)), (f4, .inl (y3.1, 12, .inl (fN tc))), (f5, .inl (y3.1, 72, .inl (fN lev))), (f6, .inl (y3.1, 72, .inl (fN fo))), (f7, .inl (y3.1, 72, .inl (fN tu))), (f8, .inl (y3.1, 72, .inl wn)), (f9, .inl (y3.1, 72, .inl mk)), (f10, .inl (y3.2.1, 72, .inl (fB u)))]) := by
  refine wz_of (cc := cX0_provesKind) (maxL := 6) (by decide) rfl (Nat.le_of_ble_eq_true rfl) ?_
  intro p e s m args below meth c A Q hx hb hml hown hts hP hK hD hA hS hret ls hl
  replace hl : lv_has ls 6 [(0, .ref f0), (1, .int (nI j))] := hl
  have q1 := htc j
  have hf25 := hts (.fieldLink RX0 25 "KindGuesser$ByteSide" "testCounts" "[I") (by decide +kernel)
  have hf31 := hts (.fieldLink RX0 31 "KindGuesser$ByteSide" "levels" "[I") (by decide +kernel)
  have hf46 := hts (.fieldLink RX0 46 "KindGuesser$ByteSide" "leads" "[Z") (by decide +kernel)
  have hiX0 : ∀ q ∈ wsX00, q ∈ wsX0_provesKind := by decide +kernel
  refine lv_iload_n hx hb dX0_provesKind_0 rfl (lv_at hl 1 rfl) ?_
  refine lv_bipush (v := (nI 6)) hx hb dX0_provesKind_1 rfl ?_
  refine ln_imul (n := j * 6) hx hb (by omega) dX0_provesKind_3 ?_
  refine lv_istore_n (lv' := [(2, .int (nI (j * 6))), (0, .ref f0), (1, .int (nI j))]) hx hb dX0_provesKind_4 rfl hl (by decide) rfl (fun ls hl => ?_)
  refine lv_iload_n hx hb dX0_provesKind_5 rfl (lv_at hl 0 rfl) ?_
  refine lv_aload_n hx hb dX0_provesKind_6 rfl (lv_at hl 1 rfl) ?_
  refine va_get (D := D) (ci := 0) (v := .ref f4) (C := RX0) (T := TX0) (N := 12) hx hb hts hiX0 hown hK hP 0 rfl rfl 4 (by decide) hf25 (fun _ h9 => h9) rfl dX0_provesKind_7 ?_
  refine lv_iload_n hx hb dX0_provesKind_10 rfl (lv_at hl 2 rfl) ?_
  refine ln_ialdN hx hb hK hP 2 0 rfl rfl (by omega) (by decide) dX0_provesKind_11 ?_
  refine ln_iadd (n := (j * 6) + (tc j)) hx hb (by omega) dX0_provesKind_12 ?_
  refine lv_istore_n (lv' := [(3, .int (nI ((j * 6) + (tc j)))), (2, .int (nI (j * 6))), (0, .ref f0), (1, .int (nI j))]) hx hb dX0_provesKind_13 rfl hl (by decide) rfl (fun ls hl => ?_)
  refine lv_iconst (v := (nI 0)) hx hb dX0_provesKind_14 rfl ?_
  refine lv_istore (lv' := [(4, .int (nI 0)), (3, .int (nI ((j * 6) + (tc j)))), (2, .int (nI (j * 6))), (0, .ref f0), (1, .int (nI j))]) hx hb dX0_provesKind_15 hl (by decide) rfl (fun ls hl => ?_)
  refine lv_iload_n hx hb dX0_provesKind_17 rfl (lv_at hl 1 rfl) ?_
  refine lv_iconst (v := (nI 1)) hx hb dX0_provesKind_18 rfl ?_
  refine lv_isub hx hb dX0_provesKind_19 ?_
  refine lv_istore (lv' := [(5, .int ((nI ((j * 6) + (tc j))) - (nI 1))), (4, .int (nI 0)), (3, .int (nI ((j * 6) + (tc j)))), (2, .int (nI (j * 6))), (0, .ref f0), (1, .int (nI j))]) hx hb dX0_provesKind_20 hl (by decide) rfl (fun ls hl => ?_)
  have lp22 : ∀ (n1 : Nat) (k : Nat) (x : Int32) (v : Nat → Bool) (pv : Bool), k < n1 → (k ≤ tc j) → (x = nI ((j * 6) + k) - nI 1) → (∀ t : Nat, (j * 6) + k ≤ t → t < ((j * 6) + (tc j)) → v t = ((hldB vb nb fo tu wn mk) t && pdec (lbP lev v t ((j * 6) + (tc j))))) → (pv = true ↔ ∃ t : Nat, (j * 6) + k ≤ t ∧ t < ((j * 6) + (tc j)) ∧ v t = true ∧ lev t = 0) → ∀ (H : Heap) (locs : List Loc), va_P D vwCl [(f0, .inr (0, [.ref f1, .int (nI nb), .ref f2, .ref f3, .ref f4, .int (nI nr), .ref f5, .ref f6, .ref f7, .ref f8, .ref f9, .ref f10])), (f1, .inl (y3.1, 16, .inl vb)), (f4, .inl (y3.1, 12, .inl (fN tc))), (f5, .inl (y3.1, 72, .inl (fN lev))), (f6, .inl (y3.1, 72, .inl (fN fo))), (f7, .inl (y3.1, 72, .inl (fN tu))), (f8, .inl (y3.1, 72, .inl wn)), (f9, .inl (y3.1, 72, .inl mk)), (f10, .inl (y3.2.1, 72, .inl (fB v)))] H → va_D A [(f0, .inr (0, [.ref f1, .int (nI nb), .ref f2, .ref f3, .ref f4, .int (nI nr), .ref f5, .ref f6, .ref f7, .ref f8, .ref f9, .ref f10])), (f1, .inl (y3.1, 16, .inl vb)), (f4, .inl (y3.1, 12, .inl (fN tc))), (f5, .inl (y3.1, 72, .inl (fN lev))), (f6, .inl (y3.1, 72, .inl (fN fo))), (f7, .inl (y3.1, 72, .inl (fN tu))), (f8, .inl (y3.1, 72, .inl wn)), (f9, .inl (y3.1, 72, .inl mk)), (f10, .inl (y3.2.1, 72, .inl (fB v)))] → va_S A s.heap H locs → ∀ ls : Array Slot, lv_has ls 6 [(5, .int x), (4, .int (bI pv)), (3, .int (nI ((j * 6) + (tc j)))), (2, .int (nI (j * 6))), (0, .ref f0), (1, .int (nI j))] → W p l e (rmO 1 0 0 25) s m args below meth c H locs 0 0 Q (F0 m 22 ls []) := by
    intro n1
    induction n1 with
    | zero => intro k x v pv hm; exact absurd hm (Nat.not_lt_zero _)
    | succ n1 ih22 =>
      intro k x v pv hm22 h1 h2 h3 h4 H locs hP hD hS ls hl
      refine lv_iload hx hb dX0_provesKind_22 (lv_at hl 0 rfl) ?_
      refine lv_iload_n hx hb dX0_provesKind_24 rfl (lv_at hl 3 rfl) ?_
      refine lv_icmp_lt (tgt := 97) hx hb dX0_provesKind_25 (by decide) (fun c25 => ?_) (fun c25 => ?_)
      · have ek : k = 0 := pk_k0 h2 c25 (by omega)
        subst ek
        refine lv_iload hx hb dX0_provesKind_97 (lv_at hl 1 rfl) ?_
        exact hret 99 ls H locs _ _ v _ (prvB lev (hldB vb nb fo tu wn mk) (j * 6) ((j * 6) + (tc j))) hP hD hS (Nat.le_of_ble_eq_true rfl) (Nat.le_of_ble_eq_true rfl) (congrArg bI (pk_end h3 h4)) rfl dX0_provesKind_99
      · obtain ⟨k, rfl⟩ := pk_ks h2 c25 (by omega)
        have ex : x = nI ((j * 6) + k) := by rw [h2, pk_sub (by omega)]; rfl
        subst ex
        have jn58 : ∀ (g : Bool), (g = ((hldB vb nb fo tu wn mk) ((j * 6) + k) && pdec (lbP lev v ((j * 6) + k) ((j * 6) + (tc j))))) → ∀ (H : Heap) (locs : List Loc), va_P D vwCl [(f0, .inr (0, [.ref f1, .int (nI nb), .ref f2, .ref f3, .ref f4, .int (nI nr), .ref f5, .ref f6, .ref f7, .ref f8, .ref f9, .ref f10])), (f1, .inl (y3.1, 16, .inl vb)), (f4, .inl (y3.1, 12, .inl (fN tc))), (f5, .inl (y3.1, 72, .inl (fN lev))), (f6, .inl (y3.1, 72, .inl (fN fo))), (f7, .inl (y3.1, 72, .inl (fN tu))), (f8, .inl (y3.1, 72, .inl wn)), (f9, .inl (y3.1, 72, .inl mk)), (f10, .inl (y3.2.1, 72, .inl (fB v)))] H → va_D A [(f0, .inr (0, [.ref f1, .int (nI nb), .ref f2, .ref f3, .ref f4, .int (nI nr), .ref f5, .ref f6, .ref f7, .ref f8, .ref f9, .ref f10])), (f1, .inl (y3.1, 16, .inl vb)), (f4, .inl (y3.1, 12, .inl (fN tc))), (f5, .inl (y3.1, 72, .inl (fN lev))), (f6, .inl (y3.1, 72, .inl (fN fo))), (f7, .inl (y3.1, 72, .inl (fN tu))), (f8, .inl (y3.1, 72, .inl wn)), (f9, .inl (y3.1, 72, .inl mk)), (f10, .inl (y3.2.1, 72, .inl (fB v)))] → va_S A s.heap H locs → ∀ ls : Array Slot, lv_has ls 6 [(5, .int (nI ((j * 6) + k))), (4, .int (bI pv)), (3, .int (nI ((j * 6) + (tc j)))), (2, .int (nI (j * 6))), (0, .ref f0), (1, .int (nI j))] → W p l e (rmO 1 0 0 25) s m args below meth c H locs 0 0 Q (F0 m 58 ls [.int (bI g), .int (nI ((j * 6) + k)), .ref f10]) := by
          intro g hg H locs hP hD hS ls hl
          refine ln_zastB (b := g) hx hb hK hP hD hS 8 1 rfl rfl (by omega) (by decide) dX0_provesKind_58 _ rfl (fun H locs hP hD hS => ?_)
          have hP : va_P D vwCl [(f0, .inr (0, [.ref f1, .int (nI nb), .ref f2, .ref f3, .ref f4, .int (nI nr), .ref f5, .ref f6, .ref f7, .ref f8, .ref f9, .ref f10])), (f1, .inl (y3.1, 16, .inl vb)), (f4, .inl (y3.1, 12, .inl (fN tc))), (f5, .inl (y3.1, 72, .inl (fN lev))), (f6, .inl (y3.1, 72, .inl (fN fo))), (f7, .inl (y3.1, 72, .inl (fN tu))), (f8, .inl (y3.1, 72, .inl wn)), (f9, .inl (y3.1, 72, .inl mk)), (f10, .inl (y3.2.1, 72, .inl (fB (va_up v ((j * 6) + k) g))))] H := hP
          have hD : va_D A [(f0, .inr (0, [.ref f1, .int (nI nb), .ref f2, .ref f3, .ref f4, .int (nI nr), .ref f5, .ref f6, .ref f7, .ref f8, .ref f9, .ref f10])), (f1, .inl (y3.1, 16, .inl vb)), (f4, .inl (y3.1, 12, .inl (fN tc))), (f5, .inl (y3.1, 72, .inl (fN lev))), (f6, .inl (y3.1, 72, .inl (fN fo))), (f7, .inl (y3.1, 72, .inl (fN tu))), (f8, .inl (y3.1, 72, .inl wn)), (f9, .inl (y3.1, 72, .inl mk)), (f10, .inl (y3.2.1, 72, .inl (fB (va_up v ((j * 6) + k) g))))] := hD
          have jn89 : ∀ (pv2 : Bool), (pv2 = (pv || (g && decide (lev ((j * 6) + k) = 0)))) → ∀ (H : Heap) (locs : List Loc), va_P D vwCl [(f0, .inr (0, [.ref f1, .int (nI nb), .ref f2, .ref f3, .ref f4, .int (nI nr), .ref f5, .ref f6, .ref f7, .ref f8, .ref f9, .ref f10])), (f1, .inl (y3.1, 16, .inl vb)), (f4, .inl (y3.1, 12, .inl (fN tc))), (f5, .inl (y3.1, 72, .inl (fN lev))), (f6, .inl (y3.1, 72, .inl (fN fo))), (f7, .inl (y3.1, 72, .inl (fN tu))), (f8, .inl (y3.1, 72, .inl wn)), (f9, .inl (y3.1, 72, .inl mk)), (f10, .inl (y3.2.1, 72, .inl (fB (va_up v ((j * 6) + k) g))))] H → va_D A [(f0, .inr (0, [.ref f1, .int (nI nb), .ref f2, .ref f3, .ref f4, .int (nI nr), .ref f5, .ref f6, .ref f7, .ref f8, .ref f9, .ref f10])), (f1, .inl (y3.1, 16, .inl vb)), (f4, .inl (y3.1, 12, .inl (fN tc))), (f5, .inl (y3.1, 72, .inl (fN lev))), (f6, .inl (y3.1, 72, .inl (fN fo))), (f7, .inl (y3.1, 72, .inl (fN tu))), (f8, .inl (y3.1, 72, .inl wn)), (f9, .inl (y3.1, 72, .inl mk)), (f10, .inl (y3.2.1, 72, .inl (fB (va_up v ((j * 6) + k) g))))] → va_S A s.heap H locs → ∀ ls : Array Slot, lv_has ls 6 [(5, .int (nI ((j * 6) + k))), (4, .int (bI pv)), (3, .int (nI ((j * 6) + (tc j)))), (2, .int (nI (j * 6))), (0, .ref f0), (1, .int (nI j))] → W p l e (rmO 1 0 0 25) s m args below meth c H locs 0 0 Q (F0 m 89 ls [.int (bI pv2)]) := by
            intro pv2 hg2 H locs hP hD hS ls hl
            refine lv_istore (lv' := [(4, .int (bI pv2)), (5, .int (nI ((j * 6) + k))), (3, .int (nI ((j * 6) + (tc j)))), (2, .int (nI (j * 6))), (0, .ref f0), (1, .int (nI j))]) hx hb dX0_provesKind_89 hl (by decide) rfl (fun ls hl => ?_)
            refine lv_iinc (v := (nI ((j * 6) + k) - nI 1)) (lv' := [(5, .int (nI ((j * 6) + k) - nI 1)), (4, .int (bI pv2)), (3, .int (nI ((j * 6) + (tc j)))), (2, .int (nI (j * 6))), (0, .ref f0), (1, .int (nI j))]) hx hb dX0_provesKind_91 hl (k := 1) rfl (by rw [Int32.sub_eq_add_neg]; rfl) (by decide) rfl (fun ls hl => ?_)
            refine lv_goto (tgt := 22) hx hb dX0_provesKind_94 (by decide) ?_
            exact ih22 k (nI ((j * 6) + k) - nI 1) (va_up v ((j * 6) + k) g) pv2 (by omega) (by omega) rfl (pk_h3 h3 (by omega) hg) (pk_h4 h4 (by omega) hg2) _ _ hP hD hS _ (lv_sub hl [0, 1, 2, 3, 4, 5] rfl)
          have q2 := hlv ((j * 6) + k)
          refine lv_iload hx hb dX0_provesKind_59 (lv_at hl 1 rfl) ?_
          refine lb_if_ne (tgt := 84) hx hb dX0_provesKind_61 (by decide) (fun c61 => ?_) (fun c61 => ?_)
          · refine lv_iconst (v := (nI 1)) hx hb dX0_provesKind_84 rfl ?_
            refine lv_goto (tgt := 89) hx hb dX0_provesKind_85 (by decide) ?_
            exact jn89 true (by first | (rw [c61]; rfl) | (rw [up_s] at c71; rw [c61, c71, decide_eq_true c81]; rfl)) _ _ hP hD hS _ (lv_sub hl [0, 1, 2, 3, 4, 5] rfl)
          · refine lv_aload_n hx hb dX0_provesKind_64 rfl (lv_at hl 4 rfl) ?_
            refine va_get (D := D) (ci := 0) (v := .ref f10) (C := RX0) (T := TX0) (N := 12) hx hb hts hiX0 hown hK hP 0 rfl rfl 11 (by decide) hf46 (fun _ h9 => h9) rfl dX0_provesKind_65 ?_
            refine lv_iload hx hb dX0_provesKind_68 (lv_at hl 0 rfl) ?_
            refine ln_zaldB hx hb hK hP 8 1 rfl rfl (by omega) (by decide) dX0_provesKind_70 ?_
            refine lb_if_eq (tgt := 88) hx hb dX0_provesKind_71 (by decide) (fun c71 => ?_) (fun c71 => ?_)
            · refine lv_iconst (v := (nI 0)) hx hb dX0_provesKind_88 rfl ?_
              exact jn89 false (by rw [up_s] at c71; first | (rw [c61, c71]; rfl) | (rw [c61, c71, decide_eq_false c81]; rfl)) _ _ hP hD hS _ (lv_sub hl [0, 1, 2, 3, 4, 5] rfl)
            · refine lv_aload_n hx hb dX0_provesKind_74 rfl (lv_at hl 4 rfl) ?_
              refine va_get (D := D) (ci := 0) (v := .ref f5) (C := RX0) (T := TX0) (N := 12) hx hb hts hiX0 hown hK hP 0 rfl rfl 6 (by decide) hf31 (fun _ h9 => h9) rfl dX0_provesKind_75 ?_
              refine lv_iload hx hb dX0_provesKind_78 (lv_at hl 0 rfl) ?_
              refine ln_ialdN hx hb hK hP 3 0 rfl rfl (by omega) (by decide) dX0_provesKind_80 ?_
              refine ln_if_ne (tgt := 88) hx hb (by omega) dX0_provesKind_81 (by decide) (fun c81 => ?_) (fun c81 => ?_)
              · refine lv_iconst (v := (nI 0)) hx hb dX0_provesKind_88 rfl ?_
                exact jn89 false (by rw [up_s] at c71; first | (rw [c61, c71]; rfl) | (rw [c61, c71, decide_eq_false c81]; rfl)) _ _ hP hD hS _ (lv_sub hl [0, 1, 2, 3, 4, 5] rfl)
              · refine lv_iconst (v := (nI 1)) hx hb dX0_provesKind_84 rfl ?_
                refine lv_goto (tgt := 89) hx hb dX0_provesKind_85 (by decide) ?_
                exact jn89 true (by first | (rw [c61]; rfl) | (rw [up_s] at c71; rw [c61, c71, decide_eq_true c81]; rfl)) _ _ hP hD hS _ (lv_sub hl [0, 1, 2, 3, 4, 5] rfl)
        refine lv_aload_n hx hb dX0_provesKind_28 rfl (lv_at hl 4 rfl) ?_
        refine va_get (D := D) (ci := 0) (v := .ref f10) (C := RX0) (T := TX0) (N := 12) hx hb hts hiX0 hown hK hP 0 rfl rfl 11 (by decide) hf46 (fun _ h9 => h9) rfl dX0_provesKind_29 ?_
        refine lv_iload hx hb dX0_provesKind_32 (lv_at hl 0 rfl) ?_
        refine lv_aload_n hx hb dX0_provesKind_34 rfl (lv_at hl 4 rfl) ?_
        refine lv_iload hx hb dX0_provesKind_35 (lv_at hl 0 rfl) ?_
        refine rd_V (ci := 0) (q0 := 0) (own := RX0) (As := [.int (nI ((j * 6) + k))]) (rest := [.int (nI ((j * 6) + k)), .ref f10]) (bytes := cX0_holds) (maxL := 3) ⟨hx, hb, hml, hown, hts⟩ (kX0_holds l D y3 f0 f1 f2 f3 f4 f5 f6 f7 f8 f9 f10 nb nr vb fo tu wn mk ((j * 6) + k) (by omega) (by omega) (by assumption) (by assumption)) gX0_provesKind_X0_holds rfl hvX0_holds ⟨Nat.le_of_ble_eq_true rfl, Nat.le_of_ble_eq_true rfl⟩ hP hK [0, 1, 4, 5, 6, 7] rfl rfl rfl hl.1 rfl (Nat.le_of_ble_eq_true rfl) dX0_provesKind_37 ⟨Nat.le_of_ble_eq_true rfl, Nat.le_of_ble_eq_true rfl⟩ (fun r2 hr2 => ?_)
        subst hr2
        refine lb_if_eq (tgt := 57) hx hb dX0_provesKind_40 (by decide) (fun c40 => ?_) (fun c40 => ?_)
        · refine lv_iconst (v := (nI 0)) hx hb dX0_provesKind_57 rfl ?_
          exact jn58 false (by first | (rw [c40]; rfl) | (rw [c40, c50]; rfl)) _ _ hP hD hS _ (lv_sub hl [0, 1, 2, 3, 4, 5] rfl)
        · refine lv_aload_n hx hb dX0_provesKind_43 rfl (lv_at hl 4 rfl) ?_
          refine lv_iload hx hb dX0_provesKind_44 (lv_at hl 0 rfl) ?_
          refine lv_iload_n hx hb dX0_provesKind_46 rfl (lv_at hl 2 rfl) ?_
          refine rd_V (ci := 0) (q0 := 0) (own := RX0) (As := [.int (nI ((j * 6) + k)), .int (nI ((j * 6) + (tc j)))]) (rest := [.int (nI ((j * 6) + k)), .ref f10]) (bytes := cX0_leadsBelow) (maxL := 6) ⟨hx, hb, hml, hown, hts⟩ (kX0_leadsBelow l D y3 f0 f1 f2 f3 f4 f5 f6 f7 f8 f9 f10 nb nr lev v ((j * 6) + k) ((j * 6) + (tc j)) (by omega) (by omega) (by assumption)) gX0_provesKind_X0_leadsBelow rfl hvX0_leadsBelow ⟨Nat.le_of_ble_eq_true rfl, Nat.le_of_ble_eq_true rfl⟩ hP hK [0, 3, 8] rfl rfl rfl hl.1 rfl (Nat.le_of_ble_eq_true rfl) dX0_provesKind_47 ⟨Nat.le_of_ble_eq_true rfl, Nat.le_of_ble_eq_true rfl⟩ (fun r3 hr3 => ?_)
          subst hr3
          refine lb_if_eq (tgt := 57) hx hb dX0_provesKind_50 (by decide) (fun c50 => ?_) (fun c50 => ?_)
          · refine lv_iconst (v := (nI 0)) hx hb dX0_provesKind_57 rfl ?_
            exact jn58 false (by first | (rw [c40]; rfl) | (rw [c40, c50]; rfl)) _ _ hP hD hS _ (lv_sub hl [0, 1, 2, 3, 4, 5] rfl)
          · refine lv_iconst (v := (nI 1)) hx hb dX0_provesKind_53 rfl ?_
            refine lv_goto (tgt := 58) hx hb dX0_provesKind_54 (by decide) ?_
            exact jn58 true (by rw [c40, c50]; rfl) _ _ hP hD hS _ (lv_sub hl [0, 1, 2, 3, 4, 5] rfl)
  exact lp22 _ (tc j) (nI ((j * 6) + (tc j)) - nI 1) ld false (Nat.lt_succ_self _) (Nat.le_refl _) rfl (fun t a1 a2 => absurd a2 (by omega)) (⟨fun h => absurd h (by decide), fun ⟨t, a1, a2, _⟩ => absurd a2 (by omega)⟩) _ _ hP hD hS _ (lv_sub hl [0, 1, 2, 3, 4, 5] rfl)

set_option maxHeartbeats 4000000 in
set_option maxRecDepth 100000 in
theorem kX0_provingRule (l : Launch) (D : va_G) (y3 : ClassId × ClassId × ClassId) (f0 : Nat) (f1 : Nat) (f2 : Nat) (f3 : Nat) (f4 : Nat) (f5 : Nat) (f6 : Nat) (f7 : Nat) (f8 : Nat) (f9 : Nat) (f10 : Nat) (nb : Nat) (nr : Nat) (vb : Nat → Int32) (pr : Nat → Int32) (tc : Nat → Nat) (lev : Nat → Nat) (fo : Nat → Nat) (tu : Nat → Nat) (wn : Nat → Int32) (mk : Nat → Int32) (ld : Nat → Bool) (hnr : nr ≤ 12) (hnb : nb ≤ 16) (htc : ∀ q : Nat, tc q ≤ 6) (hlv : ∀ q : Nat, lev q ≤ 5) (hfo : ∀ q : Nat, fo q ≤ 15) (htu : ∀ q : Nat, tu q ≤ 15) : wrM l yX0_provingRule wsX0_provingRule 2 50 0 0 D y3 [(f0, .inr (0, [.ref f1, .int (nI nb), .ref f2, .ref f3, .ref f4, .int (nI nr), .ref f5, .ref f6, .ref f7, .ref f8, .ref f9, .ref f10])), (f1, .inl (y3.1, 16, .inl vb)), (f3, .inl (y3.1, 12, .inl pr)), (f4, .inl (y3.1, 12, .inl (fN tc))), (f5, .inl (y3.1, 72, .inl (fN lev))), (f6, .inl (y3.1, 72, .inl (fN fo))), (f7, .inl (y3.1, 72, .inl (fN tu))), (f8, .inl (y3.1, 72, .inl wn)), (f9, .inl (y3.1, 72, .inl mk)), (f10, .inl (y3.2.1, 72, .inl (fB ld)))] [.ref f0] (fun r (u : Nat → Bool) => r = (oI (bstB (fun k => prvB lev (hldB vb nb fo tu wn mk) (k * 6) ((k * 6) + (tc k))) (fun k b => decide (pr b < pr k)) nr))) (fun (u : Nat → Bool) => [(f0, .inr (0, [.ref f1, .int (nI nb), .ref f2, .ref f3, .ref f4, .int (nI nr), .ref f5, .ref f6, .ref f7, .ref f8, .ref f9, .ref f10])), (f1, .inl (y3.1, 16, .inl vb)), (f3, .inl (y3.1, 12, .inl pr)), (f4, .inl (y3.1, 12, .inl (fN tc))), (f5, .inl (y3.1, 72, .inl (fN lev))), (f6, .inl (y3.1, 72, .inl (fN fo))), (f7, .inl (y3.1, 72, .inl (fN tu))), (f8, .inl (y3.1, 72, .inl wn)), (f9, .inl (y3.1, 72, .inl mk)), (f10, .inl (y3.2.1, 72, .inl (fB u)))]) := by
  refine wr_of (cc := cX0_provingRule) (maxL := 4) (by decide) rfl (Nat.le_of_ble_eq_true rfl) ?_
  intro p e s m args below meth c A Q hx hb hml hown hts hP hK hD hA hS hret ls hl
  replace hl : lv_has ls 4 [(0, .ref f0)] := hl
  have hf22 := hts (.fieldLink RX0 22 "KindGuesser$ByteSide" "priorities" "[I") (by decide +kernel)
  have hf28 := hts (.fieldLink RX0 28 "KindGuesser$ByteSide" "ruleCount" "I") (by decide +kernel)
  have hiX0 : ∀ q ∈ wsX00, q ∈ wsX0_provingRule := by decide +kernel
  refine lv_iconst (v := (-1)) hx hb dX0_provingRule_0 rfl ?_
  refine lv_istore_n (lv' := [(1, .int (-1)), (0, .ref f0)]) hx hb dX0_provingRule_1 rfl hl (by decide) rfl (fun ls hl => ?_)
  refine lv_iconst (v := (nI 0)) hx hb dX0_provingRule_2 rfl ?_
  refine lv_istore_n (lv' := [(2, .int (nI 0)), (1, .int (-1)), (0, .ref f0)]) hx hb dX0_provingRule_3 rfl hl (by decide) rfl (fun ls hl => ?_)
  have lp4 : ∀ (n1 : Nat) (k : Nat) (o : Option Nat) (v : Nat → Bool), nr - k < n1 → (k ≤ nr) → (o = bstB (fun k => prvB lev (hldB vb nb fo tu wn mk) (k * 6) ((k * 6) + (tc k))) (fun k b => decide (pr b < pr k)) k) → ∀ (H : Heap) (locs : List Loc), va_P D vwCl [(f0, .inr (0, [.ref f1, .int (nI nb), .ref f2, .ref f3, .ref f4, .int (nI nr), .ref f5, .ref f6, .ref f7, .ref f8, .ref f9, .ref f10])), (f1, .inl (y3.1, 16, .inl vb)), (f3, .inl (y3.1, 12, .inl pr)), (f4, .inl (y3.1, 12, .inl (fN tc))), (f5, .inl (y3.1, 72, .inl (fN lev))), (f6, .inl (y3.1, 72, .inl (fN fo))), (f7, .inl (y3.1, 72, .inl (fN tu))), (f8, .inl (y3.1, 72, .inl wn)), (f9, .inl (y3.1, 72, .inl mk)), (f10, .inl (y3.2.1, 72, .inl (fB v)))] H → va_D A [(f0, .inr (0, [.ref f1, .int (nI nb), .ref f2, .ref f3, .ref f4, .int (nI nr), .ref f5, .ref f6, .ref f7, .ref f8, .ref f9, .ref f10])), (f1, .inl (y3.1, 16, .inl vb)), (f3, .inl (y3.1, 12, .inl pr)), (f4, .inl (y3.1, 12, .inl (fN tc))), (f5, .inl (y3.1, 72, .inl (fN lev))), (f6, .inl (y3.1, 72, .inl (fN fo))), (f7, .inl (y3.1, 72, .inl (fN tu))), (f8, .inl (y3.1, 72, .inl wn)), (f9, .inl (y3.1, 72, .inl mk)), (f10, .inl (y3.2.1, 72, .inl (fB v)))] → va_S A s.heap H locs → ∀ ls : Array Slot, lv_has ls 4 [(2, .int (nI k)), (1, .int (oI o)), (0, .ref f0)] → W p l e (rmO 2 0 0 50) s m args below meth c H locs 0 0 Q (F0 m 4 ls []) := by
    intro n1
    induction n1 with
    | zero => intro k o v hm; exact absurd hm (Nat.not_lt_zero _)
    | succ n1 ih4 =>
      intro k o v hm4 h1 h2 H locs hP hD hS ls hl
      have hob : ∀ b, o = some b → b < 2 ^ 31 := fun b hb => by have := (bstB_lt (h2.symm.trans hb)).1; omega
      refine lv_iload_n hx hb dX0_provingRule_4 rfl (lv_at hl 0 rfl) ?_
      refine lv_aload_n hx hb dX0_provingRule_5 rfl (lv_at hl 2 rfl) ?_
      refine va_get (D := D) (ci := 0) (v := .int (nI nr)) (C := RX0) (T := TX0) (N := 12) hx hb hts hiX0 hown hK hP 0 rfl rfl 5 (by decide) hf28 (fun _ h9 => h9) rfl dX0_provingRule_6 ?_
      refine ln_icmp_ge (tgt := 58) hx hb (by omega) (by omega) dX0_provingRule_9 (by decide) (fun c9 => ?_) (fun c9 => ?_)
      · refine lv_iload_n hx hb dX0_provingRule_58 rfl (lv_at hl 1 rfl) ?_
        exact hret 59 ls H locs _ _ v _ hP hD hS (Nat.le_of_ble_eq_true rfl) (Nat.le_of_ble_eq_true rfl) (by rw [h2, show k = nr from by omega]) dX0_provingRule_59
      · have jn37 : ∀ (g1 : Bool), (g1 = ahO (fun k b => decide (pr b < pr k)) k o) → ∀ (H : Heap) (locs : List Loc), va_P D vwCl [(f0, .inr (0, [.ref f1, .int (nI nb), .ref f2, .ref f3, .ref f4, .int (nI nr), .ref f5, .ref f6, .ref f7, .ref f8, .ref f9, .ref f10])), (f1, .inl (y3.1, 16, .inl vb)), (f3, .inl (y3.1, 12, .inl pr)), (f4, .inl (y3.1, 12, .inl (fN tc))), (f5, .inl (y3.1, 72, .inl (fN lev))), (f6, .inl (y3.1, 72, .inl (fN fo))), (f7, .inl (y3.1, 72, .inl (fN tu))), (f8, .inl (y3.1, 72, .inl wn)), (f9, .inl (y3.1, 72, .inl mk)), (f10, .inl (y3.2.1, 72, .inl (fB v)))] H → va_D A [(f0, .inr (0, [.ref f1, .int (nI nb), .ref f2, .ref f3, .ref f4, .int (nI nr), .ref f5, .ref f6, .ref f7, .ref f8, .ref f9, .ref f10])), (f1, .inl (y3.1, 16, .inl vb)), (f3, .inl (y3.1, 12, .inl pr)), (f4, .inl (y3.1, 12, .inl (fN tc))), (f5, .inl (y3.1, 72, .inl (fN lev))), (f6, .inl (y3.1, 72, .inl (fN fo))), (f7, .inl (y3.1, 72, .inl (fN tu))), (f8, .inl (y3.1, 72, .inl wn)), (f9, .inl (y3.1, 72, .inl mk)), (f10, .inl (y3.2.1, 72, .inl (fB v)))] → va_S A s.heap H locs → ∀ ls : Array Slot, lv_has ls 4 [(2, .int (nI k)), (1, .int (oI o)), (0, .ref f0)] → W p l e (rmO 2 0 0 50) s m args below meth c H locs 0 0 Q (F0 m 37 ls [.int (bI g1)]) := by
          intro g1 hg H locs hP hD hS ls hl
          refine lv_istore_n (lv' := [(3, .int (bI g1)), (2, .int (nI k)), (1, .int (oI o)), (0, .ref f0)]) hx hb dX0_provingRule_37 rfl hl (by decide) rfl (fun ls hl => ?_)
          refine lv_iload_n hx hb dX0_provingRule_38 rfl (lv_at hl 0 rfl) ?_
          refine lb_if_eq (tgt := 52) hx hb dX0_provingRule_39 (by decide) (fun c39 => ?_) (fun c39 => ?_)
          · refine lv_iinc (v := (nI (k + 1))) (lv' := [(2, .int (nI (k + 1))), (3, .int (bI g1)), (1, .int (oI o)), (0, .ref f0)]) hx hb dX0_provingRule_52 hl (k := 1) rfl (nI_add _ _) (by decide) rfl (fun ls hl => ?_)
            refine lv_goto (tgt := 4) hx hb dX0_provingRule_55 (by decide) ?_
            exact ih4 (k + 1) o v (by omega) (by omega) (bstB_no h2 (by first | exact Or.inl (hg.symm.trans c39) | exact Or.inr c47)) _ _ hP hD hS _ (lv_sub hl [0, 2, 3] rfl)
          · refine lv_aload_n hx hb dX0_provingRule_42 rfl (lv_at hl 3 rfl) ?_
            refine lv_iload_n hx hb dX0_provingRule_43 rfl (lv_at hl 1 rfl) ?_
            refine wr_V (ci := 0) (q0 := 0) (own := RX0) (As := [.int (nI k)]) (rest := []) (bytes := cX0_provesKind) (maxL := 6) (wr := [(f3, .inl (y3.1, 12, .inl pr))]) (w3 := (fun (u3 : Nat → Bool) => [(f0, .inr (0, [.ref f1, .int (nI nb), .ref f2, .ref f3, .ref f4, .int (nI nr), .ref f5, .ref f6, .ref f7, .ref f8, .ref f9, .ref f10])), (f1, .inl (y3.1, 16, .inl vb)), (f3, .inl (y3.1, 12, .inl pr)), (f4, .inl (y3.1, 12, .inl (fN tc))), (f5, .inl (y3.1, 72, .inl (fN lev))), (f6, .inl (y3.1, 72, .inl (fN fo))), (f7, .inl (y3.1, 72, .inl (fN tu))), (f8, .inl (y3.1, 72, .inl wn)), (f9, .inl (y3.1, 72, .inl mk)), (f10, .inl (y3.2.1, 72, .inl (fB u3)))])) ⟨hx, hb, hml, hown, hts⟩ (kX0_provesKind l D y3 f0 f1 f2 f3 f4 f5 f6 f7 f8 f9 f10 nb nr vb tc lev fo tu wn mk v k (by omega) (by omega) (by assumption) (by assumption) (by assumption) (by assumption)) gX0_provingRule_X0_provesKind rfl hvX0_provesKind ⟨Nat.le_of_ble_eq_true rfl, Nat.le_of_ble_eq_true rfl⟩ hP hK hD hS hA [0, 1, 3, 4, 5, 6, 7, 8, 9] [2] [1, 2, 0, 3, 4, 5, 6, 7, 8, 9] rfl rfl rfl rfl (by decide) (fun _ => rfl) rfl rfl rfl hl.1 rfl (Nat.le_of_ble_eq_true rfl) dX0_provingRule_44 ⟨Nat.le_of_ble_eq_true rfl, Nat.le_of_ble_eq_true rfl⟩ (fun r2 u3 H locs hr2 hP hD hS => ?_)
            have hP : va_P D vwCl [(f0, .inr (0, [.ref f1, .int (nI nb), .ref f2, .ref f3, .ref f4, .int (nI nr), .ref f5, .ref f6, .ref f7, .ref f8, .ref f9, .ref f10])), (f1, .inl (y3.1, 16, .inl vb)), (f3, .inl (y3.1, 12, .inl pr)), (f4, .inl (y3.1, 12, .inl (fN tc))), (f5, .inl (y3.1, 72, .inl (fN lev))), (f6, .inl (y3.1, 72, .inl (fN fo))), (f7, .inl (y3.1, 72, .inl (fN tu))), (f8, .inl (y3.1, 72, .inl wn)), (f9, .inl (y3.1, 72, .inl mk)), (f10, .inl (y3.2.1, 72, .inl (fB u3)))] H := hP
            have hD : va_D A [(f0, .inr (0, [.ref f1, .int (nI nb), .ref f2, .ref f3, .ref f4, .int (nI nr), .ref f5, .ref f6, .ref f7, .ref f8, .ref f9, .ref f10])), (f1, .inl (y3.1, 16, .inl vb)), (f3, .inl (y3.1, 12, .inl pr)), (f4, .inl (y3.1, 12, .inl (fN tc))), (f5, .inl (y3.1, 72, .inl (fN lev))), (f6, .inl (y3.1, 72, .inl (fN fo))), (f7, .inl (y3.1, 72, .inl (fN tu))), (f8, .inl (y3.1, 72, .inl wn)), (f9, .inl (y3.1, 72, .inl mk)), (f10, .inl (y3.2.1, 72, .inl (fB u3)))] := hD
            subst hr2
            refine lb_if_eq (tgt := 52) hx hb dX0_provingRule_47 (by decide) (fun c47 => ?_) (fun c47 => ?_)
            · refine lv_iinc (v := (nI (k + 1))) (lv' := [(2, .int (nI (k + 1))), (3, .int (bI g1)), (1, .int (oI o)), (0, .ref f0)]) hx hb dX0_provingRule_52 hl (k := 1) rfl (nI_add _ _) (by decide) rfl (fun ls hl => ?_)
              refine lv_goto (tgt := 4) hx hb dX0_provingRule_55 (by decide) ?_
              exact ih4 (k + 1) o u3 (by omega) (by omega) (bstB_no h2 (by first | exact Or.inl (hg.symm.trans c39) | exact Or.inr c47)) _ _ hP hD hS _ (lv_sub hl [0, 2, 3] rfl)
            · refine lv_iload_n hx hb dX0_provingRule_50 rfl (lv_at hl 1 rfl) ?_
              refine lv_istore_n (lv' := [(1, .int (nI k)), (3, .int (bI g1)), (2, .int (nI k)), (0, .ref f0)]) hx hb dX0_provingRule_51 rfl hl (by decide) rfl (fun ls hl => ?_)
              refine lv_iinc (v := (nI (k + 1))) (lv' := [(2, .int (nI (k + 1))), (1, .int (nI k)), (3, .int (bI g1)), (0, .ref f0)]) hx hb dX0_provingRule_52 hl (k := 2) rfl (nI_add _ _) (by decide) rfl (fun ls hl => ?_)
              refine lv_goto (tgt := 4) hx hb dX0_provingRule_55 (by decide) ?_
              exact ih4 (k + 1) (some k) u3 (by omega) (by omega) (bstB_yes h2 (hg.symm.trans c39) c47) _ _ hP hD hS _ (lv_sub hl [0, 1, 3] rfl)
        refine lv_iload_n hx hb dX0_provingRule_12 rfl (lv_at hl 1 rfl) ?_
        refine lv_iconst (v := (-1)) hx hb dX0_provingRule_13 rfl ?_
        refine lv_icmp_eq (tgt := 32) hx hb dX0_provingRule_14 (by decide) (fun c14 => ?_) (fun c14 => ?_)
        · refine lv_iconst (v := (nI 1)) hx hb dX0_provingRule_32 rfl ?_
          refine lv_goto (tgt := 37) hx hb dX0_provingRule_33 (by decide) ?_
          exact jn37 true (by first | (rw [oI_none hob c14]; rfl) | (rw [eb]; exact (decide_eq_true (Int32.not_le.mp c29)).symm)) _ _ hP hD hS _ (lv_sub hl [0, 1, 2] rfl)
        · obtain ⟨b, eb⟩ := oI_some c14
          have hbl := (bstB_lt (h2.symm.trans eb)).1
          refine lv_aload_n hx hb dX0_provingRule_17 rfl (lv_at hl 2 rfl) ?_
          refine va_get (D := D) (ci := 0) (v := .ref f3) (C := RX0) (T := TX0) (N := 12) hx hb hts hiX0 hown hK hP 0 rfl rfl 3 (by decide) hf22 (fun _ h9 => h9) rfl dX0_provingRule_18 ?_
          refine lv_iload_n hx hb dX0_provingRule_21 rfl (lv_at hl 0 rfl) ?_
          refine ln_iald hx hb hK hP 2 0 rfl rfl (by omega) (by decide) dX0_provingRule_22 ?_
          refine lv_aload_n hx hb dX0_provingRule_23 rfl (lv_at hl 2 rfl) ?_
          refine va_get (D := D) (ci := 0) (v := .ref f3) (C := RX0) (T := TX0) (N := 12) hx hb hts hiX0 hown hK hP 0 rfl rfl 3 (by decide) hf22 (fun _ h9 => h9) rfl dX0_provingRule_24 ?_
          refine lv_iload_n hx hb dX0_provingRule_27 rfl (lv_at hl 1 rfl) ?_
          refine ln_eqi (y := (nI b)) (by rw [eb]; rfl) ?_
          refine ln_iald hx hb hK hP 2 0 rfl rfl (by omega) (by decide) dX0_provingRule_28 ?_
          refine lv_icmp_le (tgt := 36) hx hb dX0_provingRule_29 (by decide) (fun c29 => ?_) (fun c29 => ?_)
          · refine lv_iconst (v := (nI 0)) hx hb dX0_provingRule_36 rfl ?_
            exact jn37 false (by rw [eb]; exact (decide_eq_false (fun h => absurd c29 (Int32.not_le.mpr h))).symm) _ _ hP hD hS _ (lv_sub hl [0, 1, 2] rfl)
          · refine lv_iconst (v := (nI 1)) hx hb dX0_provingRule_32 rfl ?_
            refine lv_goto (tgt := 37) hx hb dX0_provingRule_33 (by decide) ?_
            exact jn37 true (by first | (rw [oI_none hob c14]; rfl) | (rw [eb]; exact (decide_eq_true (Int32.not_le.mp c29)).symm)) _ _ hP hD hS _ (lv_sub hl [0, 1, 2] rfl)
  exact lp4 _ 0 none ld (Nat.lt_succ_self _) (Nat.zero_le _) rfl _ _ hP hD hS _ (lv_sub hl [0, 1, 2] rfl)
end
section
def cntB (P : Nat → Bool) : Nat → Nat
  | 0 => 0
  | n + 1 => cntB P n + (if P n = true then 1 else 0)
theorem cntB_t {P : Nat → Bool} {n : Nat} (h : P n = true) : cntB P (n + 1) = cntB P n + 1 := by
  show cntB P n + _ = _
  rw [if_pos h]
theorem cntB_f {P : Nat → Bool} {n : Nat} (h : P n = false) : cntB P (n + 1) = cntB P n := by
  show cntB P n + _ = _
  rw [if_neg (by rw [h]; decide)]; rfl
theorem cntB_congr {P Q : Nat → Bool} : ∀ {n : Nat}, (∀ i, i < n → P i = Q i) → cntB P n = cntB Q n
  | 0, _ => rfl
  | n + 1, h => by
    show cntB P n + _ = cntB Q n + _
    rw [cntB_congr (fun i hi => h i (by omega)), h n (by omega)]
theorem cntB_le (P : Nat → Bool) : ∀ n, cntB P n ≤ n
  | 0 => Nat.le_refl _
  | n + 1 => by
    show cntB P n + _ ≤ n + 1
    have := cntB_le P n
    by_cases h : P n = true
    · rw [if_pos h]; omega
    · rw [if_neg h]; omega
theorem cntB_or {P Q : Nat → Bool} : ∀ {n : Nat}, (∀ i, i < n → ¬ (P i = true ∧ Q i = true)) → cntB (fun i => P i || Q i) n = cntB P n + cntB Q n
  | 0, _ => rfl
  | n + 1, h => by
    show cntB (fun i => P i || Q i) n + _ = (cntB P n + _) + (cntB Q n + _)
    rw [cntB_or (fun i hi => h i (by omega))]
    have h1 := h n (by omega)
    cases hp : P n <;> cases hq : Q n <;> simp [hp, hq] at h1 ⊢ <;> omega
theorem bt_nI {n i : Nat} (hn : n < 2 ^ 32) (hi : i < 32) : bt (nI n) i = n.testBit i := by
  show (BitVec.ofNat 32 n).getLsbD i = n.testBit i
  rw [BitVec.getLsbD_ofNat]
  simp [hi]
theorem nI_low {x : Int32} (h : ∀ i : Nat, 10 ≤ i → i < 32 → bt x i = false) : ∃ n : Nat, n < 1024 ∧ x = nI n := by
  refine ⟨x.toBitVec.toNat % 1024, Nat.mod_lt _ (by omega), b_ext (fun i hi => ?_)⟩
  have hm : x.toBitVec.toNat % 1024 < 1024 := Nat.mod_lt _ (by omega)
  rw [bt_nI (by omega) hi, show (1024 : Nat) = 2 ^ 10 from rfl, Nat.testBit_mod_two_pow]
  by_cases h10 : i < 10
  · rw [decide_eq_true h10, Bool.true_and]; rfl
  · rw [decide_eq_false h10, Bool.false_and]; exact h i (by omega) hi
def bc_1 (x : Int32) : Int32 := x - (((x).toUInt32 >>> (((nI 1)).toUInt32 &&& Int32.toUInt32 31)).toInt32 &&& 1431655765)
def bc_2 (x : Int32) : Int32 := (x &&& 858993459) + (((x).toUInt32 >>> (((nI 2)).toUInt32 &&& Int32.toUInt32 31)).toInt32 &&& 858993459)
def bc_3 (x : Int32) : Int32 := (x + ((x).toUInt32 >>> (((nI 4)).toUInt32 &&& Int32.toUInt32 31)).toInt32) &&& 252645135
def bc_4 (x : Int32) : Int32 := x + ((x).toUInt32 >>> (((nI 8)).toUInt32 &&& Int32.toUInt32 31)).toInt32
def bc_5 (x : Int32) : Int32 := x + ((x).toUInt32 >>> (((nI 16)).toUInt32 &&& Int32.toUInt32 31)).toInt32
def bc_F (x : Int32) : Int32 := bc_5 (bc_4 (bc_3 (bc_2 (bc_1 x)))) &&& nI 63
set_option maxRecDepth 100000 in
theorem bc_K : ∀ n, n < 1024 → bc_F (nI n) = nI (cntB (bt (nI n)) 10) := by decide +kernel
theorem bc_ok {x : Int32} (h : ∀ i : Nat, 10 ≤ i → i < 32 → bt x i = false) : bc_F x = nI (cntB (bt x) 10) := by
  obtain ⟨n, hn, rfl⟩ := nI_low h
  exact bc_K n hn
/-- how a program stands in the lists, from the list 3 - k on: the first that names it decides -/
def opR (st : Nat → Int32) (kd pg : Nat) : Nat → Bool
  | 0 => false
  | k + 1 => if st (((((3 - 1 - k) * 14) + kd) * 10) + pg) = 0 then opR st kd pg k else decide (st (((((3 - 1 - k) * 14) + kd) * 10) + pg) = nI 1)
def opB (st : Nat → Int32) (kd pg : Nat) : Bool := opR st kd pg 3
theorem opR_0 {st : Nat → Int32} {kd pg k : Nat} (h : st (((((3 - 1 - k) * 14) + kd) * 10) + pg) = 0) : opR st kd pg (k + 1) = opR st kd pg k := by show (if _ then _ else _) = _; rw [if_pos h]
theorem opR_1 {st : Nat → Int32} {kd pg k : Nat} (h : ¬ st (((((3 - 1 - k) * 14) + kd) * 10) + pg) = 0) : opR st kd pg (k + 1) = decide (st (((((3 - 1 - k) * 14) + kd) * 10) + pg) = nI 1) := by show (if _ then _ else _) = _; rw [if_neg h]
theorem op_no {st : Nat → Int32} {kd q : Nat} {a : Int32} (h : ∀ i : Nat, i < 32 → bt a i = (decide (i < q) && opB st kd i)) (hq : q < 32) (hp : opB st kd q = false) : ∀ i : Nat, i < 32 → bt a i = (decide (i < q + 1) && opB st kd i) := by
  intro i hi
  rw [h i hi]
  by_cases hiq : i = q
  · subst hiq; rw [hp, Bool.and_false, Bool.and_false]
  · congr 1; exact decide_eq_decide.mpr (by omega)
theorem op_yes {st : Nat → Int32} {kd q : Nat} {a : Int32} (h : ∀ i : Nat, i < 32 → bt a i = (decide (i < q) && opB st kd i)) (hq : q < 32) (hp : opB st kd q = true) : ∀ i : Nat, i < 32 → bt (a ||| (nI 1 <<< (nI q &&& 31))) i = (decide (i < q + 1) && opB st kd i) := by
  intro i hi
  rw [bt_set a hq hi, h i hi]
  by_cases hiq : i = q
  · subst hiq; rw [hp, decide_eq_true (rfl : i = i), decide_eq_true (Nat.lt_succ_self i), Bool.or_true]; rfl
  · rw [decide_eq_false hiq, Bool.or_false]; congr 1; exact decide_eq_decide.mpr (by omega)
/-- the programs seen on the way up, f steps at most -/
def seenB (st par : Nat → Int32) : Nat → Int32 → (Nat → Bool) → Nat → Bool
  | 0, _, S => S
  | f + 1, u, S => if u = -1 then S else seenB st par f (par u.toNatClampNeg) (fun i => S i || (decide (i < 10) && opB st u.toNatClampNeg i))
theorem seen_m1 {st par : Nat → Int32} {f : Nat} {S : Nat → Bool} : seenB st par f (-1) S = S := by cases f <;> simp [seenB]
theorem bt_or_fun {a r : Int32} {st : Nat → Int32} {kd : Nat} (h4 : ∀ i : Nat, 10 ≤ i → i < 32 → bt a i = false) (hr : ∀ i : Nat, i < 32 → bt r i = (decide (i < 10) && opB st kd i)) : bt (a ||| r) = (fun i => bt a i || (decide (i < 10) && opB st kd i)) := by
  funext i
  rw [b_or]
  by_cases hi : i < 32
  · rw [hr i hi]
  · rw [b_big (x := r) (by omega), decide_eq_false (by omega : ¬ i < 10)]; rfl
theorem seen_s {st par : Nat → Int32} {f i : Nat} {a r : Int32} (hu : ¬ nI i = -1) (hi : i < 2 ^ 31) (h4 : ∀ i : Nat, 10 ≤ i → i < 32 → bt a i = false) (hr : ∀ k : Nat, k < 32 → bt r k = (decide (k < 10) && opB st i k)) : seenB st par (f + 1) (nI i) (bt a) = seenB st par f (par i) (bt (a ||| r)) := by
  show (if _ then _ else _) = _
  rw [if_neg hu, nI_clamp hi, bt_or_fun h4 hr]
theorem or_hi {a r : Int32} {st : Nat → Int32} {kd : Nat} (h4 : ∀ i : Nat, 10 ≤ i → i < 32 → bt a i = false) (hr : ∀ i : Nat, i < 32 → bt r i = (decide (i < 10) && opB st kd i)) : ∀ i : Nat, 10 ≤ i → i < 32 → bt (a ||| r) i = false := by
  intro i h1 h2
  rw [b_or, h4 i h1 h2, hr i h2, decide_eq_false (by omega : ¬ i < 10)]; rfl
/-- the k-th of those below n for which P holds -/
def fnd (P : Nat → Bool) (k : Nat) : Nat → Option Nat
  | 0 => none
  | n + 1 => match fnd P k n with
    | some i => some i
    | none => if P n = true ∧ cntB P n = k then some n else none
theorem fnd_no {P : Nat → Bool} {k q : Nat} (h : fnd P k q = none) (h2 : P q = false ∨ ¬ cntB P q = k) : fnd P k (q + 1) = none := by
  show (match fnd P k q with | some i => some i | none => if P q = true ∧ cntB P q = k then some q else none) = none
  rw [h]
  show (if P q = true ∧ cntB P q = k then some q else none) = none
  rw [if_neg]
  rintro ⟨a, b⟩
  rcases h2 with h2 | h2
  · rw [a] at h2; cases h2
  · exact h2 b
theorem fnd_at {P : Nat → Bool} {k q : Nat} (h : fnd P k q = none) (h2 : P q = true) (h3 : cntB P q = k) : fnd P k (q + 1) = some q := by
  show (match fnd P k q with | some i => some i | none => if P q = true ∧ cntB P q = k then some q else none) = some q
  rw [h]
  show (if P q = true ∧ cntB P q = k then some q else none) = some q
  rw [if_pos ⟨h2, h3⟩]
theorem fnd_up {P : Nat → Bool} {k q : Nat} : ∀ {n : Nat}, q < n → fnd P k (q + 1) = some q → fnd P k n = some q
  | 0, h, _ => absurd h (Nat.not_lt_zero q)
  | n + 1, h, h1 => by
    by_cases hq : q = n
    · subst hq; exact h1
    · show (match fnd P k n with | some i => some i | none => if P n = true ∧ cntB P n = k then some n else none) = some q
      rw [fnd_up (by omega) h1]
theorem fnd_yes {P : Nat → Bool} {k q n : Nat} (hq : q < n) (h : fnd P k q = none) (h2 : P q = true) (h3 : cntB P q = k) : fnd P k n = some q := fnd_up hq (fnd_at h h2 h3)
theorem fnd_congr {P Q : Nat → Bool} {k : Nat} : ∀ {n : Nat}, (∀ i, i < n → P i = Q i) → fnd P k n = fnd Q k n
  | 0, _ => rfl
  | n + 1, h => by
    show (match fnd P k n with | some i => some i | none => if P n = true ∧ cntB P n = k then some n else none) = (match fnd Q k n with | some i => some i | none => if Q n = true ∧ cntB Q n = k then some n else none)
    rw [fnd_congr (fun i hi => h i (by omega)), h n (by omega), cntB_congr (fun i hi => h i (by omega))]
/-- the programs that open a kind and are not yet seen -/
def nwB (st : Nat → Int32) (kd : Nat) (S : Nat → Bool) (i : Nat) : Bool := (decide (i < 10) && opB st kd i) && !S i
/-- the program at place p, on the way up -/
def pioB (st par : Nat → Int32) (p : Nat) : Nat → Int32 → (Nat → Bool) → Option Nat
  | 0, _, _ => none
  | f + 1, u, S => if u = -1 then none else if p - cntB S 10 < cntB (nwB st u.toNatClampNeg S) 10 then fnd (nwB st u.toNatClampNeg S) (p - cntB S 10) 10 else pioB st par p f (par u.toNatClampNeg) (fun i => S i || nwB st u.toNatClampNeg S i)
def pioI (st par : Nat → Int32) (j : Nat) (pl : Int32) : Int32 := if 0 ≤ pl then oI (pioB st par pl.toNatClampNeg 14 (nI j) (fun _ => false)) else -1
theorem pio_m1 {st par : Nat → Int32} {p f : Nat} {S : Nat → Bool} : pioB st par p f (-1) S = none := by cases f <;> simp [pioB]
theorem bt_nw {a r : Int32} {st : Nat → Int32} {kd : Nat} (hr : ∀ i : Nat, i < 32 → bt r i = (decide (i < 10) && opB st kd i)) : bt (r &&& (a ^^^ (-1))) = nwB st kd (bt a) := by
  funext i
  unfold nwB
  rw [b_and, b_xor]
  by_cases hi : i < 32
  · rw [hr i hi, b_m1 i hi, Bool.xor_true]
  · rw [b_big (x := r) (by omega), decide_eq_false (by omega : ¬ i < 10)]; rfl
theorem an_hi {a r : Int32} {st : Nat → Int32} {kd : Nat} (hr : ∀ i : Nat, i < 32 → bt r i = (decide (i < 10) && opB st kd i)) : ∀ i : Nat, 10 ≤ i → i < 32 → bt (r &&& (a ^^^ (-1))) i = false := by
  intro i h1 h2
  rw [bt_nw hr]
  unfold nwB
  rw [decide_eq_false (by omega : ¬ i < 10)]; rfl
theorem or_hi4 {a r : Int32} {st : Nat → Int32} {kd : Nat} (h4 : ∀ i : Nat, 10 ≤ i → i < 32 → bt a i = false) (hr : ∀ i : Nat, i < 32 → bt r i = (decide (i < 10) && opB st kd i)) : ∀ i : Nat, 10 ≤ i → i < 32 → bt (a ||| (r &&& (a ^^^ (-1)))) i = false := by
  intro i h1 h2
  rw [b_or, h4 i h1 h2, an_hi hr i h1 h2]; rfl
theorem bt_or_nw {a r : Int32} {st : Nat → Int32} {kd : Nat} (hr : ∀ i : Nat, i < 32 → bt r i = (decide (i < 10) && opB st kd i)) : bt (a ||| (r &&& (a ^^^ (-1)))) = (fun i => bt a i || nwB st kd (bt a) i) := by
  funext i
  rw [b_or, bt_nw hr]
theorem pio_s {st par : Nat → Int32} {p f i : Nat} {a r : Int32} (hu : ¬ nI i = -1) (hi : i < 2 ^ 31) (h4 : ∀ i : Nat, 10 ≤ i → i < 32 → bt a i = false) (hr : ∀ k : Nat, k < 32 → bt r k = (decide (k < 10) && opB st i k)) (hc : cntB (bt (r &&& (a ^^^ (-1)))) 10 ≤ p - cntB (bt a) 10) : pioB st par p (f + 1) (nI i) (bt a) = pioB st par p f (par i) (bt (a ||| (r &&& (a ^^^ (-1))))) := by
  show (if _ then _ else if _ then _ else _) = _
  rw [if_neg hu, nI_clamp hi, if_neg (by rw [bt_nw hr] at hc; omega), bt_or_nw hr]
theorem pio_e {st par : Nat → Int32} {p f i : Nat} {a r : Int32} (hu : ¬ nI i = -1) (hi : i < 2 ^ 31) (h4 : ∀ i : Nat, 10 ≤ i → i < 32 → bt a i = false) (hr : ∀ k : Nat, k < 32 → bt r k = (decide (k < 10) && opB st i k)) (hc : ¬ cntB (bt (r &&& (a ^^^ (-1)))) 10 ≤ p - cntB (bt a) 10) : oI (pioB st par p (f + 1) (nI i) (bt a)) = oI (fnd (bt (r &&& (a ^^^ (-1)))) (p - cntB (bt a) 10) 10) := by
  show oI (if _ then _ else if _ then _ else _) = _
  rw [if_neg hu, nI_clamp hi, if_pos (by rw [bt_nw hr] at hc; omega), bt_nw hr]
theorem pio_c {st : Nat → Int32} {p i : Nat} {a r : Int32} (h4 : ∀ i : Nat, 10 ≤ i → i < 32 → bt a i = false) (hr : ∀ k : Nat, k < 32 → bt r k = (decide (k < 10) && opB st i k)) (h5 : cntB (bt a) 10 ≤ p) (hc : cntB (bt (r &&& (a ^^^ (-1)))) 10 ≤ p - cntB (bt a) 10) : cntB (bt (a ||| (r &&& (a ^^^ (-1))))) 10 ≤ p := by
  rw [bt_or_nw hr, cntB_or (fun k hk => ?_)]
  · rw [bt_nw hr] at hc; omega
  · rintro ⟨h1, h2⟩
    unfold nwB at h2
    rw [h1] at h2
    simp at h2
/-- the default of a kind itself, from the list 3 - k on -/
def dfR (st df : Nat → Int32) (kd : Nat) : Nat → Int32
  | 0 => -1
  | k + 1 => if df (((3 - 1 - k) * 14) + kd) ≠ -1 ∧ opB st kd (df (((3 - 1 - k) * 14) + kd)).toNatClampNeg = true then df (((3 - 1 - k) * 14) + kd) else dfR st df kd k
def dfO (st df : Nat → Int32) (kd : Nat) : Int32 := dfR st df kd 3
theorem dfR_yes {st df : Nat → Int32} {kd k : Nat} (h : ¬ df (((3 - 1 - k) * 14) + kd) = -1) (h2 : opB st kd (df (((3 - 1 - k) * 14) + kd)).toNatClampNeg = true) : dfR st df kd (k + 1) = df (((3 - 1 - k) * 14) + kd) := by show (if _ then _ else _) = _; rw [if_pos ⟨h, h2⟩]
theorem dfR_no {st df : Nat → Int32} {kd k : Nat} (h : df (((3 - 1 - k) * 14) + kd) = -1 ∨ opB st kd (df (((3 - 1 - k) * 14) + kd)).toNatClampNeg = false) : dfR st df kd (k + 1) = dfR st df kd k := by
  show (if _ then _ else _) = _
  rw [if_neg]
  rintro ⟨a, b⟩
  rcases h with h | h
  · exact a h
  · rw [b] at h; cases h
def duO (st df par : Nat → Int32) : Nat → Int32 → Int32
  | 0, _ => -1
  | f + 1, u => if u = -1 then -1 else if dfO st df u.toNatClampNeg = -1 then duO st df par f (par u.toNatClampNeg) else dfO st df u.toNatClampNeg
theorem duO_m1 {st df par : Nat → Int32} {f : Nat} : duO st df par f (-1) = -1 := by cases f <;> simp [duO]
theorem duO_s {st df par : Nat → Int32} {f i : Nat} (hu : ¬ nI i = -1) (hi : i < 2 ^ 31) (h : dfO st df i = -1) : duO st df par (f + 1) (nI i) = duO st df par f (par i) := by show (if _ then _ else if _ then _ else _) = _; rw [if_neg hu, nI_clamp hi, if_pos h]
theorem duO_e {st df par : Nat → Int32} {f i : Nat} (hu : ¬ nI i = -1) (hi : i < 2 ^ 31) (h : ¬ dfO st df i = -1) : duO st df par (f + 1) (nI i) = dfO st df i := by show (if _ then _ else if _ then _ else _) = _; rw [if_neg hu, nI_clamp hi, if_neg h]
theorem hvJ6_bitCount_0f7a4 : yJ6_bitCount_0f7a4.cls ≠ "java/lang/invoke/MethodHandle" ∧ yJ6_bitCount_0f7a4.cls ≠ "java/lang/invoke/VarHandle" ∧ (parseMethodDescriptor yJ6_bitCount_0f7a4.desc).map (fun d => d.parameters.length) = some 1 := by decide +kernel
theorem hvX3_placeOf : yX3_placeOf.cls ≠ "java/lang/invoke/MethodHandle" ∧ yX3_placeOf.cls ≠ "java/lang/invoke/VarHandle" ∧ (parseMethodDescriptor yX3_placeOf.desc).map (fun d => d.parameters.length) = some 2 := by decide +kernel
theorem hvX3_setStanding : yX3_setStanding.cls = RX3 ∧ yX3_setStanding.cls ≠ "java/lang/invoke/MethodHandle" ∧ yX3_setStanding.cls ≠ "java/lang/invoke/VarHandle" ∧ (parseMethodDescriptor yX3_setStanding.desc).map (fun d => d.parameters.length) = some 4 := by decide +kernel
theorem hvX3_setDefaultOf : yX3_setDefaultOf.cls = RX3 ∧ yX3_setDefaultOf.cls ≠ "java/lang/invoke/MethodHandle" ∧ yX3_setDefaultOf.cls ≠ "java/lang/invoke/VarHandle" ∧ (parseMethodDescriptor yX3_setDefaultOf.desc).map (fun d => d.parameters.length) = some 3 := by decide +kernel
theorem hvX3_opens : yX3_opens.cls = RX3 ∧ yX3_opens.cls ≠ "java/lang/invoke/MethodHandle" ∧ yX3_opens.cls ≠ "java/lang/invoke/VarHandle" ∧ (parseMethodDescriptor yX3_opens.desc).map (fun d => d.parameters.length) = some 2 := by decide +kernel
theorem hvX3_openersOf : yX3_openersOf.cls = RX3 ∧ yX3_openersOf.cls ≠ "java/lang/invoke/MethodHandle" ∧ yX3_openersOf.cls ≠ "java/lang/invoke/VarHandle" ∧ (parseMethodDescriptor yX3_openersOf.desc).map (fun d => d.parameters.length) = some 1 := by decide +kernel
theorem hvX3_countPrograms : yX3_countPrograms.cls = RX3 ∧ yX3_countPrograms.cls ≠ "java/lang/invoke/MethodHandle" ∧ yX3_countPrograms.cls ≠ "java/lang/invoke/VarHandle" ∧ (parseMethodDescriptor yX3_countPrograms.desc).map (fun d => d.parameters.length) = some 2 := by decide +kernel
theorem hvX3_programOf : yX3_programOf.cls ≠ "java/lang/invoke/MethodHandle" ∧ yX3_programOf.cls ≠ "java/lang/invoke/VarHandle" ∧ (parseMethodDescriptor yX3_programOf.desc).map (fun d => d.parameters.length) = some 2 := by decide +kernel
theorem hvX3_programInOrder : yX3_programInOrder.cls = RX3 ∧ yX3_programInOrder.cls ≠ "java/lang/invoke/MethodHandle" ∧ yX3_programInOrder.cls ≠ "java/lang/invoke/VarHandle" ∧ (parseMethodDescriptor yX3_programInOrder.desc).map (fun d => d.parameters.length) = some 3 := by decide +kernel
theorem hvX3_defaultOf : yX3_defaultOf.cls = RX3 ∧ yX3_defaultOf.cls ≠ "java/lang/invoke/MethodHandle" ∧ yX3_defaultOf.cls ≠ "java/lang/invoke/VarHandle" ∧ (parseMethodDescriptor yX3_defaultOf.desc).map (fun d => d.parameters.length) = some 1 := by decide +kernel
theorem hvX3_defaultUpward : yX3_defaultUpward.cls = RX3 ∧ yX3_defaultUpward.cls ≠ "java/lang/invoke/MethodHandle" ∧ yX3_defaultUpward.cls ≠ "java/lang/invoke/VarHandle" ∧ (parseMethodDescriptor yX3_defaultUpward.desc).map (fun d => d.parameters.length) = some 2 := by decide +kernel
set_option maxHeartbeats 4000000 in
set_option maxRecDepth 100000 in
theorem kJ6_bitCount_0f7a4 (l : Launch) (D : va_G) (y3 : ClassId × ClassId × ClassId) (x : Int32) (hx9 : ∀ i : Nat, 10 ≤ i → i < 32 → bt x i = false) : rdM l yJ6_bitCount_0f7a4 wsJ6_bitCount_0f7a4 0 0 D y3 [] [.int x] (fun r => r = (nI (cntB (bt x) 10))) := by
  refine rd_of (cc := cJ6_bitCount_0f7a4) (maxL := 1) (by decide) rfl (Nat.le_of_ble_eq_true rfl) ?_
  intro p e s m args below meth c Q hx hb hml hown hts hP hK hret ls hl
  replace hl : lv_has ls 1 [(0, .int x)] := hl
  refine lv_iload_n hx hb dJ6_bitCount_0f7a4_0 rfl (lv_at hl 0 rfl) ?_
  refine lv_iload_n hx hb dJ6_bitCount_0f7a4_1 rfl (lv_at hl 0 rfl) ?_
  refine lv_iconst (v := (nI 1)) hx hb dJ6_bitCount_0f7a4_2 rfl ?_
  refine lv_iushr (v := ((x).toUInt32 >>> (((nI 1)).toUInt32 &&& Int32.toUInt32 31)).toInt32) hx hb dJ6_bitCount_0f7a4_3 rfl ?_
  refine lv_ldcw (own := RJ6) (v := 1431655765) hx hb hown (hts (.constant RJ6 265 (1431655765)) (by decide +kernel)) dJ6_bitCount_0f7a4_4 ?_
  refine lv_iand hx hb dJ6_bitCount_0f7a4_7 ?_
  refine lv_isub hx hb dJ6_bitCount_0f7a4_8 ?_
  refine lv_topi (fun v1 ev1 => ?_)
  refine lv_istore_n (lv' := [(0, .int v1)]) hx hb dJ6_bitCount_0f7a4_9 rfl hl (by decide) rfl (fun ls hl => ?_)
  refine lv_iload_n hx hb dJ6_bitCount_0f7a4_10 rfl (lv_at hl 0 rfl) ?_
  refine lv_ldcw (own := RJ6) (v := 858993459) hx hb hown (hts (.constant RJ6 266 (858993459)) (by decide +kernel)) dJ6_bitCount_0f7a4_11 ?_
  refine lv_iand hx hb dJ6_bitCount_0f7a4_14 ?_
  refine lv_iload_n hx hb dJ6_bitCount_0f7a4_15 rfl (lv_at hl 0 rfl) ?_
  refine lv_iconst (v := (nI 2)) hx hb dJ6_bitCount_0f7a4_16 rfl ?_
  refine lv_iushr (v := ((v1).toUInt32 >>> (((nI 2)).toUInt32 &&& Int32.toUInt32 31)).toInt32) hx hb dJ6_bitCount_0f7a4_17 rfl ?_
  refine lv_ldcw (own := RJ6) (v := 858993459) hx hb hown (hts (.constant RJ6 266 (858993459)) (by decide +kernel)) dJ6_bitCount_0f7a4_18 ?_
  refine lv_iand hx hb dJ6_bitCount_0f7a4_21 ?_
  refine lv_iadd hx hb dJ6_bitCount_0f7a4_22 ?_
  refine lv_topi (fun v2 ev2 => ?_)
  refine lv_istore_n (lv' := [(0, .int v2)]) hx hb dJ6_bitCount_0f7a4_23 rfl hl (by decide) rfl (fun ls hl => ?_)
  refine lv_iload_n hx hb dJ6_bitCount_0f7a4_24 rfl (lv_at hl 0 rfl) ?_
  refine lv_iload_n hx hb dJ6_bitCount_0f7a4_25 rfl (lv_at hl 0 rfl) ?_
  refine lv_iconst (v := (nI 4)) hx hb dJ6_bitCount_0f7a4_26 rfl ?_
  refine lv_iushr (v := ((v2).toUInt32 >>> (((nI 4)).toUInt32 &&& Int32.toUInt32 31)).toInt32) hx hb dJ6_bitCount_0f7a4_27 rfl ?_
  refine lv_iadd hx hb dJ6_bitCount_0f7a4_28 ?_
  refine lv_ldcw (own := RJ6) (v := 252645135) hx hb hown (hts (.constant RJ6 267 (252645135)) (by decide +kernel)) dJ6_bitCount_0f7a4_29 ?_
  refine lv_iand hx hb dJ6_bitCount_0f7a4_32 ?_
  refine lv_topi (fun v3 ev3 => ?_)
  refine lv_istore_n (lv' := [(0, .int v3)]) hx hb dJ6_bitCount_0f7a4_33 rfl hl (by decide) rfl (fun ls hl => ?_)
  refine lv_iload_n hx hb dJ6_bitCount_0f7a4_34 rfl (lv_at hl 0 rfl) ?_
  refine lv_iload_n hx hb dJ6_bitCount_0f7a4_35 rfl (lv_at hl 0 rfl) ?_
  refine lv_bipush (v := (nI 8)) hx hb dJ6_bitCount_0f7a4_36 rfl ?_
  refine lv_iushr (v := ((v3).toUInt32 >>> (((nI 8)).toUInt32 &&& Int32.toUInt32 31)).toInt32) hx hb dJ6_bitCount_0f7a4_38 rfl ?_
  refine lv_iadd hx hb dJ6_bitCount_0f7a4_39 ?_
  refine lv_topi (fun v4 ev4 => ?_)
  refine lv_istore_n (lv' := [(0, .int v4)]) hx hb dJ6_bitCount_0f7a4_40 rfl hl (by decide) rfl (fun ls hl => ?_)
  refine lv_iload_n hx hb dJ6_bitCount_0f7a4_41 rfl (lv_at hl 0 rfl) ?_
  refine lv_iload_n hx hb dJ6_bitCount_0f7a4_42 rfl (lv_at hl 0 rfl) ?_
  refine lv_bipush (v := (nI 16)) hx hb dJ6_bitCount_0f7a4_43 rfl ?_
  refine lv_iushr (v := ((v4).toUInt32 >>> (((nI 16)).toUInt32 &&& Int32.toUInt32 31)).toInt32) hx hb dJ6_bitCount_0f7a4_45 rfl ?_
  refine lv_iadd hx hb dJ6_bitCount_0f7a4_46 ?_
  refine lv_topi (fun v5 ev5 => ?_)
  refine lv_istore_n (lv' := [(0, .int v5)]) hx hb dJ6_bitCount_0f7a4_47 rfl hl (by decide) rfl (fun ls hl => ?_)
  refine lv_iload_n hx hb dJ6_bitCount_0f7a4_48 rfl (lv_at hl 0 rfl) ?_
  refine lv_bipush (v := (nI 63)) hx hb dJ6_bitCount_0f7a4_49 rfl ?_
  refine lv_iand hx hb dJ6_bitCount_0f7a4_51 ?_
  exact hret 52 ls _ (by subst ev5 ev4 ev3 ev2 ev1; exact bc_ok hx9) dJ6_bitCount_0f7a4_52

set_option maxHeartbeats 4000000 in
set_option maxRecDepth 100000 in
theorem kX3_placeOf (l : Launch) (D : va_G) (y3 : ClassId × ClassId × ClassId) (i : Nat) (kd : Nat) : rdM l yX3_placeOf wsX3_placeOf 0 0 D y3 [] [.int (nI i), .int (nI kd)] (fun r => r = (nI ((i * 14) + kd))) := by
  refine rd_of (cc := cX3_placeOf) (maxL := 2) (by decide) rfl (Nat.le_of_ble_eq_true rfl) ?_
  intro p e s m args below meth c Q hx hb hml hown hts hP hK hret ls hl
  replace hl : lv_has ls 2 [(0, .int (nI i)), (1, .int (nI kd))] := hl
  refine lv_iload_n hx hb dX3_placeOf_0 rfl (lv_at hl 0 rfl) ?_
  refine lv_bipush (v := (nI 14)) hx hb dX3_placeOf_1 rfl ?_
  refine ln_imul (n := i * 14) hx hb (by omega) dX3_placeOf_3 ?_
  refine lv_iload_n hx hb dX3_placeOf_4 rfl (lv_at hl 1 rfl) ?_
  refine ln_iadd (n := (i * 14) + kd) hx hb (by omega) dX3_placeOf_5 ?_
  exact hret 6 ls _ rfl dX3_placeOf_6

set_option maxHeartbeats 4000000 in
set_option maxRecDepth 100000 in
theorem kX3_setStanding (l : Launch) (D : va_G) (y3 : ClassId × ClassId × ClassId) (g0 : Nat) (g1 : Nat) (g2 : Nat) (st : Nat → Int32) (i : Nat) (kd : Nat) (pg : Nat) (sv : Int32) (hi : i < 3) (hkd : kd < 14) (hpg : pg < 10) : wrM l yX3_setStanding wsX3_setStanding 1 21 0 0 D y3 [(g0, .inr (3, [.ref g1, .ref g2])), (g1, .inl (y3.1, 420, .inl st))] [.ref g0, .int (nI i), .int (nI kd), .int (nI pg), .int sv] (fun r (_ : Unit) => r = (st ((((i * 14) + kd) * 10) + pg))) (fun (_ : Unit) => [(g0, .inr (3, [.ref g1, .ref g2])), (g1, .inl (y3.1, 420, .inl (upd st ((((i * 14) + kd) * 10) + pg) sv)))]) := by
  refine wr_of (cc := cX3_setStanding) (maxL := 7) (by decide) rfl (Nat.le_of_ble_eq_true rfl) ?_
  intro p e s m args below meth c A Q hx hb hml hown hts hP hK hD hA hS hret ls hl
  replace hl : lv_has ls 7 [(0, .ref g0), (1, .int (nI i)), (2, .int (nI kd)), (3, .int (nI pg)), (4, .int sv)] := hl
  have hf9 := hts (.fieldLink RX3 9 "KindGuesser$ProgramLists" "standings" "[I") (by decide +kernel)
  have hiX3 : ∀ q ∈ wsX30, q ∈ wsX3_setStanding := by decide +kernel
  refine lv_iload_n hx hb dX3_setStanding_0 rfl (lv_at hl 1 rfl) ?_
  refine lv_iload_n hx hb dX3_setStanding_1 rfl (lv_at hl 2 rfl) ?_
  refine rd_S (own := RX3) (As := [.int (nI i), .int (nI kd)]) (rest := []) (bytes := cX3_placeOf) (maxL := 2) ⟨hx, hb, hml, hown, hts⟩ (kX3_placeOf l D y3 i kd) gX3_setStanding_X3_placeOf rfl hvX3_placeOf ⟨Nat.le_of_ble_eq_true rfl, Nat.le_of_ble_eq_true rfl⟩ hP hK [] rfl  hl.1 rfl (Nat.le_of_ble_eq_true rfl) dX3_setStanding_2 ⟨Nat.le_of_ble_eq_true rfl, Nat.le_of_ble_eq_true rfl⟩ (fun r1 hr1 => ?_)
  subst hr1
  refine lv_bipush (v := (nI 10)) hx hb dX3_setStanding_5 rfl ?_
  refine ln_imul (n := ((i * 14) + kd) * 10) hx hb (by omega) dX3_setStanding_7 ?_
  refine lv_iload_n hx hb dX3_setStanding_8 rfl (lv_at hl 3 rfl) ?_
  refine ln_iadd (n := (((i * 14) + kd) * 10) + pg) hx hb (by omega) dX3_setStanding_9 ?_
  refine lv_istore (lv' := [(5, .int (nI ((((i * 14) + kd) * 10) + pg))), (0, .ref g0), (1, .int (nI i)), (2, .int (nI kd)), (3, .int (nI pg)), (4, .int sv)]) hx hb dX3_setStanding_10 hl (by decide) rfl (fun ls hl => ?_)
  refine lv_aload_n hx hb dX3_setStanding_12 rfl (lv_at hl 1 rfl) ?_
  refine va_get (D := D) (ci := 3) (v := .ref g1) (C := RX3) (T := TX3) (N := 2) hx hb hts hiX3 hown hK hP 0 rfl rfl 0 (by decide) hf9 (fun _ h9 => h9) rfl dX3_setStanding_13 ?_
  refine lv_iload hx hb dX3_setStanding_16 (lv_at hl 0 rfl) ?_
  refine ln_iald hx hb hK hP 1 0 rfl rfl (by omega) (by decide) dX3_setStanding_18 ?_
  refine lv_istore (lv' := [(6, .int (st ((((i * 14) + kd) * 10) + pg))), (5, .int (nI ((((i * 14) + kd) * 10) + pg))), (0, .ref g0), (1, .int (nI i)), (2, .int (nI kd)), (3, .int (nI pg)), (4, .int sv)]) hx hb dX3_setStanding_19 hl (by decide) rfl (fun ls hl => ?_)
  refine lv_aload_n hx hb dX3_setStanding_21 rfl (lv_at hl 2 rfl) ?_
  refine va_get (D := D) (ci := 3) (v := .ref g1) (C := RX3) (T := TX3) (N := 2) hx hb hts hiX3 hown hK hP 0 rfl rfl 0 (by decide) hf9 (fun _ h9 => h9) rfl dX3_setStanding_22 ?_
  refine lv_iload hx hb dX3_setStanding_25 (lv_at hl 1 rfl) ?_
  refine lv_iload hx hb dX3_setStanding_27 (lv_at hl 6 rfl) ?_
  refine ln_iast hx hb hK hP hD hS 1 0 rfl rfl (by omega) (by decide) dX3_setStanding_29 _ rfl (fun H locs hP hD hS => ?_)
  have hP : va_P D vwCl [(g0, .inr (3, [.ref g1, .ref g2])), (g1, .inl (y3.1, 420, .inl (upd st ((((i * 14) + kd) * 10) + pg) sv)))] H := hP
  have hD : va_D A [(g0, .inr (3, [.ref g1, .ref g2])), (g1, .inl (y3.1, 420, .inl (upd st ((((i * 14) + kd) * 10) + pg) sv)))] := hD
  refine lv_iload hx hb dX3_setStanding_30 (lv_at hl 0 rfl) ?_
  exact hret 32 ls H locs _ _ () _ hP hD hS (Nat.le_of_ble_eq_true rfl) (Nat.le_of_ble_eq_true rfl) rfl dX3_setStanding_32

set_option maxHeartbeats 4000000 in
set_option maxRecDepth 100000 in
theorem kX3_setDefaultOf (l : Launch) (D : va_G) (y3 : ClassId × ClassId × ClassId) (g0 : Nat) (g1 : Nat) (g2 : Nat) (df : Nat → Int32) (i : Nat) (kd : Nat) (sv : Int32) (hi : i < 3) (hkd : kd < 14) : wrM l yX3_setDefaultOf wsX3_setDefaultOf 1 21 0 0 D y3 [(g0, .inr (3, [.ref g1, .ref g2])), (g2, .inl (y3.1, 42, .inl df))] [.ref g0, .int (nI i), .int (nI kd), .int sv] (fun r (_ : Unit) => r = (df ((i * 14) + kd))) (fun (_ : Unit) => [(g0, .inr (3, [.ref g1, .ref g2])), (g2, .inl (y3.1, 42, .inl (upd df ((i * 14) + kd) sv)))]) := by
  refine wr_of (cc := cX3_setDefaultOf) (maxL := 6) (by decide) rfl (Nat.le_of_ble_eq_true rfl) ?_
  intro p e s m args below meth c A Q hx hb hml hown hts hP hK hD hA hS hret ls hl
  replace hl : lv_has ls 6 [(0, .ref g0), (1, .int (nI i)), (2, .int (nI kd)), (3, .int sv)] := hl
  have hf15 := hts (.fieldLink RX3 15 "KindGuesser$ProgramLists" "defaults" "[I") (by decide +kernel)
  have hiX3 : ∀ q ∈ wsX30, q ∈ wsX3_setDefaultOf := by decide +kernel
  refine lv_iload_n hx hb dX3_setDefaultOf_0 rfl (lv_at hl 1 rfl) ?_
  refine lv_iload_n hx hb dX3_setDefaultOf_1 rfl (lv_at hl 2 rfl) ?_
  refine rd_S (own := RX3) (As := [.int (nI i), .int (nI kd)]) (rest := []) (bytes := cX3_placeOf) (maxL := 2) ⟨hx, hb, hml, hown, hts⟩ (kX3_placeOf l D y3 i kd) gX3_setDefaultOf_X3_placeOf rfl hvX3_placeOf ⟨Nat.le_of_ble_eq_true rfl, Nat.le_of_ble_eq_true rfl⟩ hP hK [] rfl  hl.1 rfl (Nat.le_of_ble_eq_true rfl) dX3_setDefaultOf_2 ⟨Nat.le_of_ble_eq_true rfl, Nat.le_of_ble_eq_true rfl⟩ (fun r1 hr1 => ?_)
  subst hr1
  refine lv_istore (lv' := [(4, .int (nI ((i * 14) + kd))), (0, .ref g0), (1, .int (nI i)), (2, .int (nI kd)), (3, .int sv)]) hx hb dX3_setDefaultOf_5 hl (by decide) rfl (fun ls hl => ?_)
  refine lv_aload_n hx hb dX3_setDefaultOf_7 rfl (lv_at hl 1 rfl) ?_
  refine va_get (D := D) (ci := 3) (v := .ref g2) (C := RX3) (T := TX3) (N := 2) hx hb hts hiX3 hown hK hP 0 rfl rfl 1 (by decide) hf15 (fun _ h9 => h9) rfl dX3_setDefaultOf_8 ?_
  refine lv_iload hx hb dX3_setDefaultOf_11 (lv_at hl 0 rfl) ?_
  refine ln_iald hx hb hK hP 1 0 rfl rfl (by omega) (by decide) dX3_setDefaultOf_13 ?_
  refine lv_istore (lv' := [(5, .int (df ((i * 14) + kd))), (4, .int (nI ((i * 14) + kd))), (0, .ref g0), (1, .int (nI i)), (2, .int (nI kd)), (3, .int sv)]) hx hb dX3_setDefaultOf_14 hl (by decide) rfl (fun ls hl => ?_)
  refine lv_aload_n hx hb dX3_setDefaultOf_16 rfl (lv_at hl 2 rfl) ?_
  refine va_get (D := D) (ci := 3) (v := .ref g2) (C := RX3) (T := TX3) (N := 2) hx hb hts hiX3 hown hK hP 0 rfl rfl 1 (by decide) hf15 (fun _ h9 => h9) rfl dX3_setDefaultOf_17 ?_
  refine lv_iload hx hb dX3_setDefaultOf_20 (lv_at hl 1 rfl) ?_
  refine lv_iload_n hx hb dX3_setDefaultOf_22 rfl (lv_at hl 5 rfl) ?_
  refine ln_iast hx hb hK hP hD hS 1 0 rfl rfl (by omega) (by decide) dX3_setDefaultOf_23 _ rfl (fun H locs hP hD hS => ?_)
  have hP : va_P D vwCl [(g0, .inr (3, [.ref g1, .ref g2])), (g2, .inl (y3.1, 42, .inl (upd df ((i * 14) + kd) sv)))] H := hP
  have hD : va_D A [(g0, .inr (3, [.ref g1, .ref g2])), (g2, .inl (y3.1, 42, .inl (upd df ((i * 14) + kd) sv)))] := hD
  refine lv_iload hx hb dX3_setDefaultOf_24 (lv_at hl 0 rfl) ?_
  exact hret 26 ls H locs _ _ () _ hP hD hS (Nat.le_of_ble_eq_true rfl) (Nat.le_of_ble_eq_true rfl) rfl dX3_setDefaultOf_26

set_option maxHeartbeats 4000000 in
set_option maxRecDepth 100000 in
theorem kX3_opens (l : Launch) (D : va_G) (y3 : ClassId × ClassId × ClassId) (g0 : Nat) (g1 : Nat) (g2 : Nat) (st : Nat → Int32) (pg : Nat) (kd : Nat) (hpg : pg < 10) (hkd : kd < 14) : rdM l yX3_opens wsX3_opens 1 21 D y3 [(g0, .inr (3, [.ref g1, .ref g2])), (g1, .inl (y3.1, 420, .inl st))] [.ref g0, .int (nI pg), .int (nI kd)] (fun r => r = (bI (opB st kd pg))) := by
  refine rz_of (cc := cX3_opens) (maxL := 5) (by decide) rfl (Nat.le_of_ble_eq_true rfl) ?_
  intro p e s m args below meth c Q hx hb hml hown hts hP hK hret ls hl
  replace hl : lv_has ls 5 [(0, .ref g0), (1, .int (nI pg)), (2, .int (nI kd))] := hl
  have hf9 := hts (.fieldLink RX3 9 "KindGuesser$ProgramLists" "standings" "[I") (by decide +kernel)
  have hiX3 : ∀ q ∈ wsX30, q ∈ wsX3_opens := by decide +kernel
  refine lv_iconst (v := (nI 0)) hx hb dX3_opens_0 rfl ?_
  refine lv_istore_n (lv' := [(3, .int (nI 0)), (0, .ref g0), (1, .int (nI pg)), (2, .int (nI kd))]) hx hb dX3_opens_1 rfl hl (by decide) rfl (fun ls hl => ?_)
  have lp2 : ∀ (n1 : Nat) (i : Nat), 3 - i < n1 → (i ≤ 3) → (opR st kd pg (3 - i) = opB st kd pg) → ∀ ls : Array Slot, lv_has ls 5 [(3, .int (nI i)), (0, .ref g0), (1, .int (nI pg)), (2, .int (nI kd))] → W p l e (rmO 1 0 0 21) s m args below meth c s.heap [] 0 0 Q (F0 m 2 ls []) := by
    intro n1
    induction n1 with
    | zero => intro i hm; exact absurd hm (Nat.not_lt_zero _)
    | succ n1 ih2 =>
      intro i hm2 h1 h2 ls hl
      refine lv_iload_n hx hb dX3_opens_2 rfl (lv_at hl 0 rfl) ?_
      refine lv_iconst (v := (nI 3)) hx hb dX3_opens_3 rfl ?_
      refine ln_icmp_ge (tgt := 47) hx hb (by omega) (by omega) dX3_opens_4 (by decide) (fun c4 => ?_) (fun c4 => ?_)
      · refine lv_iconst (v := (nI 0)) hx hb dX3_opens_47 rfl ?_
        exact hret 48 ls _ (bI_f (by rw [← h2, show 3 - i = 0 from by omega]; rfl)) dX3_opens_48
      · refine lv_aload_n hx hb dX3_opens_7 rfl (lv_at hl 1 rfl) ?_
        refine va_get (D := D) (ci := 3) (v := .ref g1) (C := RX3) (T := TX3) (N := 2) hx hb hts hiX3 hown hK hP 0 rfl rfl 0 (by decide) hf9 (fun _ h9 => h9) rfl dX3_opens_8 ?_
        refine lv_iload_n hx hb dX3_opens_11 rfl (lv_at hl 0 rfl) ?_
        refine lv_iload_n hx hb dX3_opens_12 rfl (lv_at hl 3 rfl) ?_
        refine rd_S (own := RX3) (As := [.int (nI i), .int (nI kd)]) (rest := [.ref g1]) (bytes := cX3_placeOf) (maxL := 2) ⟨hx, hb, hml, hown, hts⟩ (kX3_placeOf l D y3 i kd) gX3_opens_X3_placeOf rfl hvX3_placeOf ⟨Nat.le_of_ble_eq_true rfl, Nat.le_of_ble_eq_true rfl⟩ hP hK [] rfl  hl.1 rfl (Nat.le_of_ble_eq_true rfl) dX3_opens_13 ⟨Nat.zero_le _, Nat.zero_le _⟩ (fun r2 hr2 => ?_)
        subst hr2
        refine lv_bipush (v := (nI 10)) hx hb dX3_opens_16 rfl ?_
        refine ln_imul (n := ((i * 14) + kd) * 10) hx hb (by omega) dX3_opens_18 ?_
        refine lv_iload_n hx hb dX3_opens_19 rfl (lv_at hl 2 rfl) ?_
        refine ln_iadd (n := (((i * 14) + kd) * 10) + pg) hx hb (by omega) dX3_opens_20 ?_
        refine ln_iald hx hb hK hP 1 0 rfl rfl (by omega) (by decide) dX3_opens_21 ?_
        refine lv_istore (lv' := [(4, .int (st ((((i * 14) + kd) * 10) + pg))), (3, .int (nI i)), (0, .ref g0), (1, .int (nI pg)), (2, .int (nI kd))]) hx hb dX3_opens_22 hl (by decide) rfl (fun ls hl => ?_)
        refine lv_iload hx hb dX3_opens_24 (lv_at hl 0 rfl) ?_
        refine lv_if_eq (tgt := 41) hx hb dX3_opens_26 (by decide) (fun c26 => ?_) (fun c26 => ?_)
        · refine lv_iinc (v := (nI (i + 1))) (lv' := [(3, .int (nI (i + 1))), (4, .int (st ((((i * 14) + kd) * 10) + pg))), (0, .ref g0), (1, .int (nI pg)), (2, .int (nI kd))]) hx hb dX3_opens_41 hl (k := 1) rfl (nI_add _ _) (by decide) rfl (fun ls hl => ?_)
          refine lv_goto (tgt := 2) hx hb dX3_opens_44 (by decide) ?_
          exact ih2 (i + 1) (by omega) (by omega) (by rw [← h2, show 3 - i = (3 - (i + 1)) + 1 from by omega, opR_0 (by rw [show 3 - 1 - (3 - (i + 1)) = i from by omega]; exact c26)]) _ (lv_sub hl [0, 2, 3, 4] rfl)
        · refine lv_iload hx hb dX3_opens_29 (lv_at hl 0 rfl) ?_
          refine lv_iconst (v := (nI 1)) hx hb dX3_opens_31 rfl ?_
          refine lv_icmp_ne (tgt := 39) hx hb dX3_opens_32 (by decide) (fun c32 => ?_) (fun c32 => ?_)
          · refine lv_iconst (v := (nI 0)) hx hb dX3_opens_39 rfl ?_
            exact hret 40 ls _ (by first | exact bI_t (by rw [← h2, show 3 - i = (3 - (i + 1)) + 1 from by omega, opR_1 (by rw [show 3 - 1 - (3 - (i + 1)) = i from by omega]; exact c26), show 3 - 1 - (3 - (i + 1)) = i from by omega]; exact decide_eq_true c32) | exact bI_f (by rw [← h2, show 3 - i = (3 - (i + 1)) + 1 from by omega, opR_1 (by rw [show 3 - 1 - (3 - (i + 1)) = i from by omega]; exact c26), show 3 - 1 - (3 - (i + 1)) = i from by omega]; exact decide_eq_false c32)) dX3_opens_40
          · refine lv_iconst (v := (nI 1)) hx hb dX3_opens_35 rfl ?_
            refine lv_goto (tgt := 40) hx hb dX3_opens_36 (by decide) ?_
            exact hret 40 ls _ (by first | exact bI_t (by rw [← h2, show 3 - i = (3 - (i + 1)) + 1 from by omega, opR_1 (by rw [show 3 - 1 - (3 - (i + 1)) = i from by omega]; exact c26), show 3 - 1 - (3 - (i + 1)) = i from by omega]; exact decide_eq_true c32) | exact bI_f (by rw [← h2, show 3 - i = (3 - (i + 1)) + 1 from by omega, opR_1 (by rw [show 3 - 1 - (3 - (i + 1)) = i from by omega]; exact c26), show 3 - 1 - (3 - (i + 1)) = i from by omega]; exact decide_eq_false c32)) dX3_opens_40
  exact lp2 _ 0 (Nat.lt_succ_self _) (Nat.zero_le _) rfl _ (lv_sub hl [0, 1, 2, 3] rfl)

set_option maxHeartbeats 4000000 in
set_option maxRecDepth 100000 in
theorem kX3_openersOf (l : Launch) (D : va_G) (y3 : ClassId × ClassId × ClassId) (g0 : Nat) (g1 : Nat) (g2 : Nat) (st : Nat → Int32) (kd : Nat) (hkd : kd < 14) : rdM l yX3_openersOf wsX3_openersOf 2 45 D y3 [(g0, .inr (3, [.ref g1, .ref g2])), (g1, .inl (y3.1, 420, .inl st))] [.ref g0, .int (nI kd)] (fun r => ∀ i : Nat, i < 32 → bt r i = (decide (i < 10) && opB st kd i)) := by
  refine rd_of (cc := cX3_openersOf) (maxL := 4) (by decide) rfl (Nat.le_of_ble_eq_true rfl) ?_
  intro p e s m args below meth c Q hx hb hml hown hts hP hK hret ls hl
  replace hl : lv_has ls 4 [(0, .ref g0), (1, .int (nI kd))] := hl
  refine lv_iconst (v := (nI 0)) hx hb dX3_openersOf_0 rfl ?_
  refine lv_istore_n (lv' := [(2, .int (nI 0)), (0, .ref g0), (1, .int (nI kd))]) hx hb dX3_openersOf_1 rfl hl (by decide) rfl (fun ls hl => ?_)
  refine lv_iconst (v := (nI 0)) hx hb dX3_openersOf_2 rfl ?_
  refine lv_istore_n (lv' := [(3, .int (nI 0)), (2, .int (nI 0)), (0, .ref g0), (1, .int (nI kd))]) hx hb dX3_openersOf_3 rfl hl (by decide) rfl (fun ls hl => ?_)
  have lp4 : ∀ (n1 : Nat) (q : Nat) (a : Int32), 10 - q < n1 → (q ≤ 10) → (∀ i : Nat, i < 32 → bt a i = (decide (i < q) && opB st kd i)) → ∀ ls : Array Slot, lv_has ls 4 [(3, .int (nI q)), (2, .int a), (0, .ref g0), (1, .int (nI kd))] → W p l e (rmO 2 0 0 45) s m args below meth c s.heap [] 0 0 Q (F0 m 4 ls []) := by
    intro n1
    induction n1 with
    | zero => intro q a hm; exact absurd hm (Nat.not_lt_zero _)
    | succ n1 ih4 =>
      intro q a hm4 h1 h2 ls hl
      refine lv_iload_n hx hb dX3_openersOf_4 rfl (lv_at hl 0 rfl) ?_
      refine lv_bipush (v := (nI 10)) hx hb dX3_openersOf_5 rfl ?_
      refine ln_icmp_ge (tgt := 31) hx hb (by omega) (by omega) dX3_openersOf_7 (by decide) (fun c7 => ?_) (fun c7 => ?_)
      · refine lv_iload_n hx hb dX3_openersOf_31 rfl (lv_at hl 1 rfl) ?_
        exact hret 32 ls _ (by rw [show q = 10 from by omega] at h2; exact h2) dX3_openersOf_32
      · refine lv_aload_n hx hb dX3_openersOf_10 rfl (lv_at hl 2 rfl) ?_
        refine lv_iload_n hx hb dX3_openersOf_11 rfl (lv_at hl 0 rfl) ?_
        refine lv_iload_n hx hb dX3_openersOf_12 rfl (lv_at hl 3 rfl) ?_
        refine rd_V (ci := 3) (q0 := 0) (own := RX3) (As := [.int (nI q), .int (nI kd)]) (rest := []) (bytes := cX3_opens) (maxL := 5) ⟨hx, hb, hml, hown, hts⟩ (kX3_opens l D y3 g0 g1 g2 st q kd (by omega) (by omega)) gX3_openersOf_X3_opens rfl hvX3_opens ⟨Nat.le_of_ble_eq_true rfl, Nat.le_of_ble_eq_true rfl⟩ hP hK [0, 1] rfl rfl rfl hl.1 rfl (Nat.le_of_ble_eq_true rfl) dX3_openersOf_13 ⟨Nat.zero_le _, Nat.zero_le _⟩ (fun r2 hr2 => ?_)
        subst hr2
        refine lb_if_eq (tgt := 25) hx hb dX3_openersOf_16 (by decide) (fun c16 => ?_) (fun c16 => ?_)
        · refine lv_iinc (v := (nI (q + 1))) (lv' := [(3, .int (nI (q + 1))), (2, .int a), (0, .ref g0), (1, .int (nI kd))]) hx hb dX3_openersOf_25 hl (k := 0) rfl (nI_add _ _) (by decide) rfl (fun ls hl => ?_)
          refine lv_goto (tgt := 4) hx hb dX3_openersOf_28 (by decide) ?_
          exact ih4 (q + 1) a (by omega) (by omega) (op_no h2 (by omega) c16) _ (lv_sub hl [0, 1, 2, 3] rfl)
        · refine lv_iload_n hx hb dX3_openersOf_19 rfl (lv_at hl 1 rfl) ?_
          refine lv_iconst (v := (nI 1)) hx hb dX3_openersOf_20 rfl ?_
          refine lv_iload_n hx hb dX3_openersOf_21 rfl (lv_at hl 0 rfl) ?_
          refine lv_ishl hx hb dX3_openersOf_22 ?_
          refine lv_ior hx hb dX3_openersOf_23 ?_
          refine lv_istore_n (lv' := [(2, .int (a ||| ((nI 1) <<< ((nI q) &&& 31)))), (3, .int (nI q)), (0, .ref g0), (1, .int (nI kd))]) hx hb dX3_openersOf_24 rfl hl (by decide) rfl (fun ls hl => ?_)
          refine lv_iinc (v := (nI (q + 1))) (lv' := [(3, .int (nI (q + 1))), (2, .int (a ||| ((nI 1) <<< ((nI q) &&& 31)))), (0, .ref g0), (1, .int (nI kd))]) hx hb dX3_openersOf_25 hl (k := 1) rfl (nI_add _ _) (by decide) rfl (fun ls hl => ?_)
          refine lv_goto (tgt := 4) hx hb dX3_openersOf_28 (by decide) ?_
          exact ih4 (q + 1) (a ||| ((nI 1) <<< ((nI q) &&& 31))) (by omega) (by omega) (op_yes h2 (by omega) c16) _ (lv_sub hl [0, 1, 2, 3] rfl)
  exact lp4 _ 0 (nI 0) (Nat.lt_succ_self _) (Nat.zero_le _) (fun i hi => by rw [bt_0, decide_eq_false (Nat.not_lt_zero i)]; rfl) _ (lv_sub hl [0, 1, 2, 3] rfl)

set_option maxHeartbeats 4000000 in
set_option maxRecDepth 100000 in
theorem kX3_countPrograms (l : Launch) (D : va_G) (y3 : ClassId × ClassId × ClassId) (g0 : Nat) (g1 : Nat) (g2 : Nat) (a0 : Nat) (a1 : Nat) (nk : Nat) (par : Nat → Int32) (st : Nat → Int32) (j : Nat) (hj : j < nk) (hk : nk ≤ 14) (hp : parOK par nk) : rdM l yX3_countPrograms wsX3_countPrograms 3 68 D y3 [(g0, .inr (3, [.ref g1, .ref g2])), (g1, .inl (y3.1, 420, .inl st)), (a0, .inr (1, [.ref a1, .int (nI nk)])), (a1, .inl (y3.1, 14, .inl par))] [.ref g0, .ref a0, .int (nI j)] (fun r => r = (nI (cntB (seenB st par 14 (nI j) (fun _ => false)) 10))) := by
  refine rd_of (cc := cX3_countPrograms) (maxL := 6) (by decide) rfl (Nat.le_of_ble_eq_true rfl) ?_
  intro p e s m args below meth c Q hx hb hml hown hts hP hK hret ls hl
  replace hl : lv_has ls 6 [(0, .ref g0), (1, .ref a0), (2, .int (nI j))] := hl
  refine lv_iconst (v := (nI 0)) hx hb dX3_countPrograms_0 rfl ?_
  refine lv_istore_n (lv' := [(3, .int (nI 0)), (0, .ref g0), (1, .ref a0), (2, .int (nI j))]) hx hb dX3_countPrograms_1 rfl hl (by decide) rfl (fun ls hl => ?_)
  refine lv_iload_n hx hb dX3_countPrograms_2 rfl (lv_at hl 3 rfl) ?_
  refine lv_istore (lv' := [(4, .int (nI j)), (3, .int (nI 0)), (0, .ref g0), (1, .ref a0), (2, .int (nI j))]) hx hb dX3_countPrograms_3 hl (by decide) rfl (fun ls hl => ?_)
  refine lv_iconst (v := (nI 0)) hx hb dX3_countPrograms_5 rfl ?_
  refine lv_istore (lv' := [(5, .int (nI 0)), (4, .int (nI j)), (3, .int (nI 0)), (0, .ref g0), (1, .ref a0), (2, .int (nI j))]) hx hb dX3_countPrograms_6 hl (by decide) rfl (fun ls hl => ?_)
  have lp8 : ∀ (n1 : Nat) (t : Nat) (u : Int32) (a : Int32), 14 - t < n1 → (t ≤ 14) → (u = -1 ∨ ∃ i : Nat, i < nk ∧ u = nI i) → (seenB st par (14 - t) u (bt a) = seenB st par 14 (nI j) (fun _ => false)) → (∀ i : Nat, 10 ≤ i → i < 32 → bt a i = false) → ∀ ls : Array Slot, lv_has ls 6 [(5, .int (nI t)), (4, .int u), (3, .int a), (0, .ref g0), (1, .ref a0), (2, .int (nI j))] → W p l e (rmO 3 0 0 68) s m args below meth c s.heap [] 0 0 Q (F0 m 8 ls []) := by
    intro n1
    induction n1 with
    | zero => intro t u a hm; exact absurd hm (Nat.not_lt_zero _)
    | succ n1 ih8 =>
      intro t u a hm8 h1 h2 h3 h4 ls hl
      refine lv_iload hx hb dX3_countPrograms_8 (lv_at hl 0 rfl) ?_
      refine lv_bipush (v := (nI 14)) hx hb dX3_countPrograms_10 rfl ?_
      refine ln_icmp_ge (tgt := 44) hx hb (by omega) (by omega) dX3_countPrograms_12 (by decide) (fun c12 => ?_) (fun c12 => ?_)
      · refine lv_iload_n hx hb dX3_countPrograms_44 rfl (lv_at hl 2 rfl) ?_
        refine rd_S (own := RX3) (As := [.int a]) (rest := []) (bytes := cJ6_bitCount_0f7a4) (maxL := 1) ⟨hx, hb, hml, hown, hts⟩ (kJ6_bitCount_0f7a4 l D y3 a h4) gX3_countPrograms_J6_bitCount_0f7a4 rfl hvJ6_bitCount_0f7a4 ⟨Nat.le_of_ble_eq_true rfl, Nat.le_of_ble_eq_true rfl⟩ hP hK [] rfl  hl.1 rfl (Nat.le_of_ble_eq_true rfl) dX3_countPrograms_45 ⟨Nat.zero_le _, Nat.zero_le _⟩ (fun r2 hr2 => ?_)
        subst hr2
        exact hret 48 ls _ (by rw [show bt a = seenB st par 14 (nI j) (fun _ => false) from (by first | (rw [← h3, show 14 - t = 0 from by omega]; rfl) | (rw [← h3, c18, seen_m1]))]) dX3_countPrograms_48
      · refine lv_iload hx hb dX3_countPrograms_15 (lv_at hl 1 rfl) ?_
        refine lv_iconst (v := (-1)) hx hb dX3_countPrograms_17 rfl ?_
        refine lv_icmp_eq (tgt := 44) hx hb dX3_countPrograms_18 (by decide) (fun c18 => ?_) (fun c18 => ?_)
        · refine lv_iload_n hx hb dX3_countPrograms_44 rfl (lv_at hl 2 rfl) ?_
          refine rd_S (own := RX3) (As := [.int a]) (rest := []) (bytes := cJ6_bitCount_0f7a4) (maxL := 1) ⟨hx, hb, hml, hown, hts⟩ (kJ6_bitCount_0f7a4 l D y3 a h4) gX3_countPrograms_J6_bitCount_0f7a4 rfl hvJ6_bitCount_0f7a4 ⟨Nat.le_of_ble_eq_true rfl, Nat.le_of_ble_eq_true rfl⟩ hP hK [] rfl  hl.1 rfl (Nat.le_of_ble_eq_true rfl) dX3_countPrograms_45 ⟨Nat.zero_le _, Nat.zero_le _⟩ (fun r3 hr3 => ?_)
          subst hr3
          exact hret 48 ls _ (by rw [show bt a = seenB st par 14 (nI j) (fun _ => false) from (by first | (rw [← h3, show 14 - t = 0 from by omega]; rfl) | (rw [← h3, c18, seen_m1]))]) dX3_countPrograms_48
        · obtain ⟨i, hi, ei⟩ := h2.resolve_left c18
          refine lv_iload_n hx hb dX3_countPrograms_21 rfl (lv_at hl 2 rfl) ?_
          refine lv_aload_n hx hb dX3_countPrograms_22 rfl (lv_at hl 3 rfl) ?_
          refine lv_iload hx hb dX3_countPrograms_23 (lv_at hl 1 rfl) ?_
          refine ln_eqi (y := (nI i)) ei ?_
          refine rd_V (ci := 3) (q0 := 0) (own := RX3) (As := [.int (nI i)]) (rest := [.int a]) (bytes := cX3_openersOf) (maxL := 4) ⟨hx, hb, hml, hown, hts⟩ (kX3_openersOf l D y3 g0 g1 g2 st i (by omega)) gX3_countPrograms_X3_openersOf rfl hvX3_openersOf ⟨Nat.le_of_ble_eq_true rfl, Nat.le_of_ble_eq_true rfl⟩ hP hK [0, 1] rfl rfl rfl hl.1 rfl (Nat.le_of_ble_eq_true rfl) dX3_countPrograms_25 ⟨Nat.zero_le _, Nat.zero_le _⟩ (fun r25 hr25 => ?_)
          refine lv_ior hx hb dX3_countPrograms_28 ?_
          refine lv_istore_n (lv' := [(3, .int (a ||| r25)), (5, .int (nI t)), (4, .int u), (0, .ref g0), (1, .ref a0), (2, .int (nI j))]) hx hb dX3_countPrograms_29 rfl hl (by decide) rfl (fun ls hl => ?_)
          refine lv_aload_n hx hb dX3_countPrograms_30 rfl (lv_at hl 4 rfl) ?_
          refine lv_iload hx hb dX3_countPrograms_31 (lv_at hl 2 rfl) ?_
          refine rd_V (ci := 1) (q0 := 0) (own := RX3) (As := [.int u]) (rest := []) (bytes := cX1_parentOf) (maxL := 2) ⟨hx, hb, hml, hown, hts⟩ (kX1_parentOf l D y3 a0 a1 nk par u (by omega)) gX3_countPrograms_X1_parentOf rfl hvX1_parentOf ⟨Nat.le_of_ble_eq_true rfl, Nat.le_of_ble_eq_true rfl⟩ hP hK [2, 3] rfl rfl rfl hl.1 rfl (Nat.le_of_ble_eq_true rfl) dX3_countPrograms_33 ⟨Nat.zero_le _, Nat.zero_le _⟩ (fun r4 hr4 => ?_)
          subst hr4
          refine lv_istore (lv' := [(4, .int (parO par nk u)), (3, .int (a ||| r25)), (5, .int (nI t)), (0, .ref g0), (1, .ref a0), (2, .int (nI j))]) hx hb dX3_countPrograms_36 hl (by decide) rfl (fun ls hl => ?_)
          refine lv_iinc (v := (nI (t + 1))) (lv' := [(5, .int (nI (t + 1))), (4, .int (parO par nk u)), (3, .int (a ||| r25)), (0, .ref g0), (1, .ref a0), (2, .int (nI j))]) hx hb dX3_countPrograms_38 hl (k := 2) rfl (nI_add _ _) (by decide) rfl (fun ls hl => ?_)
          refine lv_goto (tgt := 8) hx hb dX3_countPrograms_41 (by decide) ?_
          exact ih8 (t + 1) (parO par nk u) (a ||| r25) (by omega) (by omega) (by rw [ei, parO_N hi (by omega)]; exact (hp i hi).imp id (fun ⟨q, hq, e⟩ => ⟨q, by omega, e⟩)) (by rw [← h3, ei, parO_N hi (by omega), show 14 - t = (14 - (t + 1)) + 1 from by omega]; exact (seen_s (by rw [← ei]; exact c18) (by omega) h4 hr25).symm) (or_hi h4 hr25) _ (lv_sub hl [0, 1, 2, 3, 4, 5] rfl)
  exact lp8 _ 0 (nI j) (nI 0) (Nat.lt_succ_self _) (Nat.zero_le _) (Or.inr ⟨j, hj, rfl⟩) (by rw [show bt (nI 0) = (fun _ => false) from funext bt_0]) (fun i _ _ => bt_0 i) _ (lv_sub hl [0, 1, 2, 3, 4, 5] rfl)

set_option maxHeartbeats 4000000 in
set_option maxRecDepth 100000 in
theorem kX3_programOf (l : Launch) (D : va_G) (y3 : ClassId × ClassId × ClassId) (x : Int32) (k : Nat) (hk : k < 2 ^ 31) : rdM l yX3_programOf wsX3_programOf 0 0 D y3 [] [.int x, .int (nI k)] (fun r => r = (oI (fnd (bt x) k 10))) := by
  refine rd_of (cc := cX3_programOf) (maxL := 4) (by decide) rfl (Nat.le_of_ble_eq_true rfl) ?_
  intro p e s m args below meth c Q hx hb hml hown hts hP hK hret ls hl
  replace hl : lv_has ls 4 [(0, .int x), (1, .int (nI k))] := hl
  refine lv_iload_n hx hb dX3_programOf_0 rfl (lv_at hl 1 rfl) ?_
  refine lv_istore_n (lv' := [(2, .int (nI k)), (0, .int x), (1, .int (nI k))]) hx hb dX3_programOf_1 rfl hl (by decide) rfl (fun ls hl => ?_)
  refine lv_iconst (v := (nI 0)) hx hb dX3_programOf_2 rfl ?_
  refine lv_istore_n (lv' := [(3, .int (nI 0)), (2, .int (nI k)), (0, .int x), (1, .int (nI k))]) hx hb dX3_programOf_3 rfl hl (by decide) rfl (fun ls hl => ?_)
  have lp4 : ∀ (n1 : Nat) (q : Nat) (a : Nat), 10 - q < n1 → (q ≤ 10) → (fnd (bt x) k q = none) → (cntB (bt x) q + a = k) → ∀ ls : Array Slot, lv_has ls 4 [(3, .int (nI q)), (2, .int (nI a)), (0, .int x), (1, .int (nI k))] → W p l e (rmO 0 0 0 0) s m args below meth c s.heap [] 0 0 Q (F0 m 4 ls []) := by
    intro n1
    induction n1 with
    | zero => intro q a hm; exact absurd hm (Nat.not_lt_zero _)
    | succ n1 ih4 =>
      intro q a hm4 h1 h2 h3 ls hl
      refine lv_iload_n hx hb dX3_programOf_4 rfl (lv_at hl 0 rfl) ?_
      refine lv_bipush (v := (nI 10)) hx hb dX3_programOf_5 rfl ?_
      refine ln_icmp_ge (tgt := 34) hx hb (by omega) (by omega) dX3_programOf_7 (by decide) (fun c7 => ?_) (fun c7 => ?_)
      · refine lv_iconst (v := (-1)) hx hb dX3_programOf_34 rfl ?_
        exact hret 35 ls _ (by rw [show q = 10 from by omega] at h2; rw [h2]; rfl) dX3_programOf_35
      · refine lv_iload_n hx hb dX3_programOf_10 rfl (lv_at hl 2 rfl) ?_
        refine lv_iload_n hx hb dX3_programOf_11 rfl (lv_at hl 0 rfl) ?_
        refine lv_ishr hx hb dX3_programOf_12 ?_
        refine lv_iconst (v := (nI 1)) hx hb dX3_programOf_13 rfl ?_
        refine lv_iand hx hb dX3_programOf_14 ?_
        refine lv_iconst (v := (nI 1)) hx hb dX3_programOf_15 rfl ?_
        refine lv_icmp_ne (tgt := 28) hx hb dX3_programOf_16 (by decide) (fun c16 => ?_) (fun c16 => ?_)
        · refine lv_iinc (v := (nI (q + 1))) (lv' := [(3, .int (nI (q + 1))), (2, .int (nI a)), (0, .int x), (1, .int (nI k))]) hx hb dX3_programOf_28 hl (k := 0) rfl (nI_add _ _) (by decide) rfl (fun ls hl => ?_)
          refine lv_goto (tgt := 4) hx hb dX3_programOf_31 (by decide) ?_
          exact ih4 (q + 1) a (by omega) (by omega) (fnd_no h2 (Or.inl (bt_f (by omega) c16))) (by rw [cntB_f (bt_f (by omega) c16)]; exact h3) _ (lv_sub hl [0, 1, 2, 3] rfl)
        · refine lv_iload_n hx hb dX3_programOf_19 rfl (lv_at hl 1 rfl) ?_
          refine ln_if_ne (tgt := 25) hx hb (by omega) dX3_programOf_20 (by decide) (fun c20 => ?_) (fun c20 => ?_)
          · refine lv_iinc (v := (nI (a - 1))) (lv' := [(2, .int (nI (a - 1))), (3, .int (nI q)), (0, .int x), (1, .int (nI k))]) hx hb dX3_programOf_25 hl (k := 1) rfl (by rw [nI_m1] <;> omega) (by decide) rfl (fun ls hl => ?_)
            refine lv_iinc (v := (nI (q + 1))) (lv' := [(3, .int (nI (q + 1))), (2, .int (nI (a - 1))), (0, .int x), (1, .int (nI k))]) hx hb dX3_programOf_28 hl (k := 1) rfl (nI_add _ _) (by decide) rfl (fun ls hl => ?_)
            refine lv_goto (tgt := 4) hx hb dX3_programOf_31 (by decide) ?_
            exact ih4 (q + 1) (a - 1) (by omega) (by omega) (fnd_no h2 (Or.inr (by omega))) (by rw [cntB_t (bt_t (by omega) c16)]; omega) _ (lv_sub hl [0, 1, 2, 3] rfl)
          · refine lv_iload_n hx hb dX3_programOf_23 rfl (lv_at hl 0 rfl) ?_
            exact hret 24 ls _ (by rw [fnd_yes (by omega : q < 10) h2 (bt_t (by omega) c16) (by omega)]; rfl) dX3_programOf_24
  exact lp4 _ 0 k (Nat.lt_succ_self _) (Nat.zero_le _) rfl (by show 0 + k = k; omega) _ (lv_sub hl [0, 1, 2, 3] rfl)

set_option maxHeartbeats 4000000 in
set_option maxRecDepth 100000 in
theorem kX3_programInOrder (l : Launch) (D : va_G) (y3 : ClassId × ClassId × ClassId) (g0 : Nat) (g1 : Nat) (g2 : Nat) (a0 : Nat) (a1 : Nat) (nk : Nat) (par : Nat → Int32) (st : Nat → Int32) (j : Nat) (pl : Int32) (hj : j < nk) (hk : nk ≤ 14) (hp : parOK par nk) : rdM l yX3_programInOrder wsX3_programInOrder 3 68 D y3 [(g0, .inr (3, [.ref g1, .ref g2])), (g1, .inl (y3.1, 420, .inl st)), (a0, .inr (1, [.ref a1, .int (nI nk)])), (a1, .inl (y3.1, 14, .inl par))] [.ref g0, .ref a0, .int (nI j), .int pl] (fun r => r = (pioI st par j pl)) := by
  refine rd_of (cc := cX3_programInOrder) (maxL := 9) (by decide) rfl (Nat.le_of_ble_eq_true rfl) ?_
  intro p e s m args below meth c Q hx hb hml hown hts hP hK hret ls hl
  replace hl : lv_has ls 9 [(0, .ref g0), (1, .ref a0), (2, .int (nI j)), (3, .int pl)] := hl
  refine lv_iload_n hx hb dX3_programInOrder_0 rfl (lv_at hl 3 rfl) ?_
  refine lv_if_ge (tgt := 6) hx hb dX3_programInOrder_1 (by decide) (fun c1 => ?_) (fun c1 => ?_)
  · obtain ⟨p9, hp9, ep⟩ := nI_of (Int32.not_lt.mpr c1)
    subst ep
    refine lv_iconst (v := (nI 0)) hx hb dX3_programInOrder_6 rfl ?_
    refine lv_istore (lv' := [(4, .int (nI 0)), (0, .ref g0), (1, .ref a0), (2, .int (nI j)), (3, .int (nI p9))]) hx hb dX3_programInOrder_7 hl (by decide) rfl (fun ls hl => ?_)
    refine lv_iload_n hx hb dX3_programInOrder_9 rfl (lv_at hl 3 rfl) ?_
    refine lv_istore (lv' := [(5, .int (nI j)), (4, .int (nI 0)), (0, .ref g0), (1, .ref a0), (2, .int (nI j)), (3, .int (nI p9))]) hx hb dX3_programInOrder_10 hl (by decide) rfl (fun ls hl => ?_)
    refine lv_iconst (v := (nI 0)) hx hb dX3_programInOrder_12 rfl ?_
    refine lv_istore (lv' := [(6, .int (nI 0)), (5, .int (nI j)), (4, .int (nI 0)), (0, .ref g0), (1, .ref a0), (2, .int (nI j)), (3, .int (nI p9))]) hx hb dX3_programInOrder_13 hl (by decide) rfl (fun ls hl => ?_)
    have lp15 : ∀ (n1 : Nat) (t : Nat) (u : Int32) (a : Int32), 14 - t < n1 → (t ≤ 14) → (u = -1 ∨ ∃ i : Nat, i < nk ∧ u = nI i) → (pioB st par p9 (14 - t) u (bt a) = pioB st par p9 14 (nI j) (fun _ => false)) → (∀ i : Nat, 10 ≤ i → i < 32 → bt a i = false) → (cntB (bt a) 10 ≤ p9) → ∀ ls : Array Slot, lv_has ls 9 [(6, .int (nI t)), (5, .int u), (4, .int a), (0, .ref g0), (1, .ref a0), (2, .int (nI j)), (3, .int (nI p9))] → W p l e (rmO 3 0 0 68) s m args below meth c s.heap [] 0 0 Q (F0 m 15 ls []) := by
      intro n1
      induction n1 with
      | zero => intro t u a hm; exact absurd hm (Nat.not_lt_zero _)
      | succ n1 ih15 =>
        intro t u a hm15 h1 h2 h3 h4 h5 ls hl
        refine lv_iload hx hb dX3_programInOrder_15 (lv_at hl 0 rfl) ?_
        refine lv_bipush (v := (nI 14)) hx hb dX3_programInOrder_17 rfl ?_
        refine ln_icmp_ge (tgt := 91) hx hb (by omega) (by omega) dX3_programInOrder_19 (by decide) (fun c19 => ?_) (fun c19 => ?_)
        · refine lv_iconst (v := (-1)) hx hb dX3_programInOrder_91 rfl ?_
          exact hret 92 ls _ (by unfold pioI; rw [if_pos c1, nI_clamp (by omega), ← h3]; first | (rw [show 14 - t = 0 from by omega]; rfl) | (rw [c25, pio_m1]; rfl)) dX3_programInOrder_92
        · refine lv_iload hx hb dX3_programInOrder_22 (lv_at hl 1 rfl) ?_
          refine lv_iconst (v := (-1)) hx hb dX3_programInOrder_24 rfl ?_
          refine lv_icmp_eq (tgt := 91) hx hb dX3_programInOrder_25 (by decide) (fun c25 => ?_) (fun c25 => ?_)
          · refine lv_iconst (v := (-1)) hx hb dX3_programInOrder_91 rfl ?_
            exact hret 92 ls _ (by unfold pioI; rw [if_pos c1, nI_clamp (by omega), ← h3]; first | (rw [show 14 - t = 0 from by omega]; rfl) | (rw [c25, pio_m1]; rfl)) dX3_programInOrder_92
          · obtain ⟨i, hi, ei⟩ := h2.resolve_left c25
            refine lv_aload_n hx hb dX3_programInOrder_28 rfl (lv_at hl 3 rfl) ?_
            refine lv_iload hx hb dX3_programInOrder_29 (lv_at hl 1 rfl) ?_
            refine ln_eqi (y := (nI i)) ei ?_
            refine rd_V (ci := 3) (q0 := 0) (own := RX3) (As := [.int (nI i)]) (rest := []) (bytes := cX3_openersOf) (maxL := 4) ⟨hx, hb, hml, hown, hts⟩ (kX3_openersOf l D y3 g0 g1 g2 st i (by omega)) gX3_programInOrder_X3_openersOf rfl hvX3_openersOf ⟨Nat.le_of_ble_eq_true rfl, Nat.le_of_ble_eq_true rfl⟩ hP hK [0, 1] rfl rfl rfl hl.1 rfl (Nat.le_of_ble_eq_true rfl) dX3_programInOrder_31 ⟨Nat.zero_le _, Nat.zero_le _⟩ (fun r31 hr31 => ?_)
            refine lv_iload hx hb dX3_programInOrder_34 (lv_at hl 2 rfl) ?_
            refine lv_iconst (v := (-1)) hx hb dX3_programInOrder_36 rfl ?_
            refine lv_ixor hx hb dX3_programInOrder_37 ?_
            refine lv_iand hx hb dX3_programInOrder_38 ?_
            refine lv_istore (lv' := [(7, .int (r31 &&& (a ^^^ (-1)))), (6, .int (nI t)), (5, .int u), (4, .int a), (0, .ref g0), (1, .ref a0), (2, .int (nI j)), (3, .int (nI p9))]) hx hb dX3_programInOrder_39 hl (by decide) rfl (fun ls hl => ?_)
            refine lv_iload hx hb dX3_programInOrder_41 (lv_at hl 3 rfl) ?_
            refine rd_S (own := RX3) (As := [.int a]) (rest := []) (bytes := cJ6_bitCount_0f7a4) (maxL := 1) ⟨hx, hb, hml, hown, hts⟩ (kJ6_bitCount_0f7a4 l D y3 a h4) gX3_programInOrder_J6_bitCount_0f7a4 rfl hvJ6_bitCount_0f7a4 ⟨Nat.le_of_ble_eq_true rfl, Nat.le_of_ble_eq_true rfl⟩ hP hK [] rfl  hl.1 rfl (Nat.le_of_ble_eq_true rfl) dX3_programInOrder_43 ⟨Nat.zero_le _, Nat.zero_le _⟩ (fun r2 hr2 => ?_)
            subst hr2
            refine lv_istore (lv' := [(8, .int (nI (cntB (bt a) 10))), (7, .int (r31 &&& (a ^^^ (-1)))), (6, .int (nI t)), (5, .int u), (4, .int a), (0, .ref g0), (1, .ref a0), (2, .int (nI j)), (3, .int (nI p9))]) hx hb dX3_programInOrder_46 hl (by decide) rfl (fun ls hl => ?_)
            refine lv_iload_n hx hb dX3_programInOrder_48 rfl (lv_at hl 8 rfl) ?_
            refine lv_iload hx hb dX3_programInOrder_49 (lv_at hl 0 rfl) ?_
            refine ln_isub (n := (p9 - (cntB (bt a) 10))) hx hb (by omega) (by omega) dX3_programInOrder_51 ?_
            refine lv_iload hx hb dX3_programInOrder_52 (lv_at hl 1 rfl) ?_
            refine rd_S (own := RX3) (As := [.int (r31 &&& (a ^^^ (-1)))]) (rest := [.int (nI (p9 - (cntB (bt a) 10)))]) (bytes := cJ6_bitCount_0f7a4) (maxL := 1) ⟨hx, hb, hml, hown, hts⟩ (kJ6_bitCount_0f7a4 l D y3 (r31 &&& (a ^^^ (-1))) (an_hi hr31)) gX3_programInOrder_J6_bitCount_0f7a4 rfl hvJ6_bitCount_0f7a4 ⟨Nat.le_of_ble_eq_true rfl, Nat.le_of_ble_eq_true rfl⟩ hP hK [] rfl  hl.1 rfl (Nat.le_of_ble_eq_true rfl) dX3_programInOrder_54 ⟨Nat.zero_le _, Nat.zero_le _⟩ (fun r3 hr3 => ?_)
            subst hr3
            refine ln_icmp_ge (tgt := 70) hx hb (by omega) (Nat.lt_of_le_of_lt (cntB_le _ _) (by omega)) dX3_programInOrder_57 (by decide) (fun c57 => ?_) (fun c57 => ?_)
            · refine lv_iload hx hb dX3_programInOrder_70 (lv_at hl 4 rfl) ?_
              refine lv_iload hx hb dX3_programInOrder_72 (lv_at hl 1 rfl) ?_
              refine lv_ior hx hb dX3_programInOrder_74 ?_
              refine lv_istore (lv' := [(4, .int (a ||| (r31 &&& (a ^^^ (-1))))), (8, .int (nI (cntB (bt a) 10))), (7, .int (r31 &&& (a ^^^ (-1)))), (6, .int (nI t)), (5, .int u), (0, .ref g0), (1, .ref a0), (2, .int (nI j)), (3, .int (nI p9))]) hx hb dX3_programInOrder_75 hl (by decide) rfl (fun ls hl => ?_)
              refine lv_aload_n hx hb dX3_programInOrder_77 rfl (lv_at hl 6 rfl) ?_
              refine lv_iload hx hb dX3_programInOrder_78 (lv_at hl 4 rfl) ?_
              refine rd_V (ci := 1) (q0 := 0) (own := RX3) (As := [.int u]) (rest := []) (bytes := cX1_parentOf) (maxL := 2) ⟨hx, hb, hml, hown, hts⟩ (kX1_parentOf l D y3 a0 a1 nk par u (by omega)) gX3_programInOrder_X1_parentOf rfl hvX1_parentOf ⟨Nat.le_of_ble_eq_true rfl, Nat.le_of_ble_eq_true rfl⟩ hP hK [2, 3] rfl rfl rfl hl.1 rfl (Nat.le_of_ble_eq_true rfl) dX3_programInOrder_80 ⟨Nat.zero_le _, Nat.zero_le _⟩ (fun r4 hr4 => ?_)
              subst hr4
              refine lv_istore (lv' := [(5, .int (parO par nk u)), (4, .int (a ||| (r31 &&& (a ^^^ (-1))))), (8, .int (nI (cntB (bt a) 10))), (7, .int (r31 &&& (a ^^^ (-1)))), (6, .int (nI t)), (0, .ref g0), (1, .ref a0), (2, .int (nI j)), (3, .int (nI p9))]) hx hb dX3_programInOrder_83 hl (by decide) rfl (fun ls hl => ?_)
              refine lv_iinc (v := (nI (t + 1))) (lv' := [(6, .int (nI (t + 1))), (5, .int (parO par nk u)), (4, .int (a ||| (r31 &&& (a ^^^ (-1))))), (8, .int (nI (cntB (bt a) 10))), (7, .int (r31 &&& (a ^^^ (-1)))), (0, .ref g0), (1, .ref a0), (2, .int (nI j)), (3, .int (nI p9))]) hx hb dX3_programInOrder_85 hl (k := 4) rfl (nI_add _ _) (by decide) rfl (fun ls hl => ?_)
              refine lv_goto (tgt := 15) hx hb dX3_programInOrder_88 (by decide) ?_
              exact ih15 (t + 1) (parO par nk u) (a ||| (r31 &&& (a ^^^ (-1)))) (by omega) (by omega) (by rw [ei, parO_N hi (by omega)]; exact (hp i hi).imp id (fun ⟨q, hq, e⟩ => ⟨q, by omega, e⟩)) (by rw [← h3, ei, parO_N hi (by omega), show 14 - t = (14 - (t + 1)) + 1 from by omega]; exact (pio_s (by rw [← ei]; exact c25) (by omega) h4 hr31 c57).symm) (or_hi4 h4 hr31) (pio_c h4 hr31 h5 c57) _ (lv_sub hl [0, 1, 2, 5, 6, 7, 8] rfl)
            · refine lv_iload hx hb dX3_programInOrder_60 (lv_at hl 1 rfl) ?_
              refine lv_iload_n hx hb dX3_programInOrder_62 rfl (lv_at hl 8 rfl) ?_
              refine lv_iload hx hb dX3_programInOrder_63 (lv_at hl 0 rfl) ?_
              refine ln_isub (n := (p9 - (cntB (bt a) 10))) hx hb (by omega) (by omega) dX3_programInOrder_65 ?_
              refine rd_S (own := RX3) (As := [.int (r31 &&& (a ^^^ (-1))), .int (nI (p9 - (cntB (bt a) 10)))]) (rest := []) (bytes := cX3_programOf) (maxL := 4) ⟨hx, hb, hml, hown, hts⟩ (kX3_programOf l D y3 (r31 &&& (a ^^^ (-1))) (p9 - (cntB (bt a) 10)) (by omega)) gX3_programInOrder_X3_programOf rfl hvX3_programOf ⟨Nat.le_of_ble_eq_true rfl, Nat.le_of_ble_eq_true rfl⟩ hP hK [] rfl  hl.1 rfl (Nat.le_of_ble_eq_true rfl) dX3_programInOrder_66 ⟨Nat.zero_le _, Nat.zero_le _⟩ (fun r5 hr5 => ?_)
              subst hr5
              exact hret 69 ls _ (by unfold pioI; rw [if_pos c1, nI_clamp (by omega), ← h3, ei, show 14 - t = (14 - (t + 1)) + 1 from by omega]; exact (pio_e (by rw [← ei]; exact c25) (by omega) h4 hr31 c57).symm) dX3_programInOrder_69
    exact lp15 _ 0 (nI j) (nI 0) (Nat.lt_succ_self _) (Nat.zero_le _) (Or.inr ⟨j, hj, rfl⟩) (by rw [show bt (nI 0) = (fun _ => false) from funext bt_0]) (fun i _ _ => bt_0 i) (by rw [show bt (nI 0) = (fun _ => false) from funext bt_0]; exact Nat.zero_le _) _ (lv_sub hl [0, 1, 2, 3, 4, 5, 6] rfl)
  · refine lv_iconst (v := (-1)) hx hb dX3_programInOrder_4 rfl ?_
    exact hret 5 ls _ (by unfold pioI; rw [if_neg c1]) dX3_programInOrder_5

set_option maxHeartbeats 4000000 in
set_option maxRecDepth 100000 in
theorem kX3_defaultOf (l : Launch) (D : va_G) (y3 : ClassId × ClassId × ClassId) (g0 : Nat) (g1 : Nat) (g2 : Nat) (st : Nat → Int32) (df : Nat → Int32) (kd : Nat) (hkd : kd < 14) (hdf : ∀ q : Nat, df q = -1 ∨ ∃ z : Nat, z < 10 ∧ df q = nI z) : rdM l yX3_defaultOf wsX3_defaultOf 2 45 D y3 [(g0, .inr (3, [.ref g1, .ref g2])), (g1, .inl (y3.1, 420, .inl st)), (g2, .inl (y3.1, 42, .inl df))] [.ref g0, .int (nI kd)] (fun r => r = (dfO st df kd)) := by
  refine rd_of (cc := cX3_defaultOf) (maxL := 4) (by decide) rfl (Nat.le_of_ble_eq_true rfl) ?_
  intro p e s m args below meth c Q hx hb hml hown hts hP hK hret ls hl
  replace hl : lv_has ls 4 [(0, .ref g0), (1, .int (nI kd))] := hl
  have hf15 := hts (.fieldLink RX3 15 "KindGuesser$ProgramLists" "defaults" "[I") (by decide +kernel)
  have hiX3 : ∀ q ∈ wsX30, q ∈ wsX3_defaultOf := by decide +kernel
  refine lv_iconst (v := (nI 0)) hx hb dX3_defaultOf_0 rfl ?_
  refine lv_istore_n (lv' := [(2, .int (nI 0)), (0, .ref g0), (1, .int (nI kd))]) hx hb dX3_defaultOf_1 rfl hl (by decide) rfl (fun ls hl => ?_)
  have lp2 : ∀ (n1 : Nat) (i : Nat), 3 - i < n1 → (i ≤ 3) → (dfR st df kd (3 - i) = dfO st df kd) → ∀ ls : Array Slot, lv_has ls 4 [(2, .int (nI i)), (0, .ref g0), (1, .int (nI kd))] → W p l e (rmO 2 0 0 45) s m args below meth c s.heap [] 0 0 Q (F0 m 2 ls []) := by
    intro n1
    induction n1 with
    | zero => intro i hm; exact absurd hm (Nat.not_lt_zero _)
    | succ n1 ih2 =>
      intro i hm2 h1 h2 ls hl
      refine lv_iload_n hx hb dX3_defaultOf_2 rfl (lv_at hl 0 rfl) ?_
      refine lv_iconst (v := (nI 3)) hx hb dX3_defaultOf_3 rfl ?_
      refine ln_icmp_ge (tgt := 40) hx hb (by omega) (by omega) dX3_defaultOf_4 (by decide) (fun c4 => ?_) (fun c4 => ?_)
      · refine lv_iconst (v := (-1)) hx hb dX3_defaultOf_40 rfl ?_
        exact hret 41 ls _ (by rw [← h2, show 3 - i = 0 from by omega]; rfl) dX3_defaultOf_41
      · refine lv_aload_n hx hb dX3_defaultOf_7 rfl (lv_at hl 1 rfl) ?_
        refine va_get (D := D) (ci := 3) (v := .ref g2) (C := RX3) (T := TX3) (N := 2) hx hb hts hiX3 hown hK hP 0 rfl rfl 1 (by decide) hf15 (fun _ h9 => h9) rfl dX3_defaultOf_8 ?_
        refine lv_iload_n hx hb dX3_defaultOf_11 rfl (lv_at hl 0 rfl) ?_
        refine lv_iload_n hx hb dX3_defaultOf_12 rfl (lv_at hl 2 rfl) ?_
        refine rd_S (own := RX3) (As := [.int (nI i), .int (nI kd)]) (rest := [.ref g2]) (bytes := cX3_placeOf) (maxL := 2) ⟨hx, hb, hml, hown, hts⟩ (kX3_placeOf l D y3 i kd) gX3_defaultOf_X3_placeOf rfl hvX3_placeOf ⟨Nat.le_of_ble_eq_true rfl, Nat.le_of_ble_eq_true rfl⟩ hP hK [] rfl  hl.1 rfl (Nat.le_of_ble_eq_true rfl) dX3_defaultOf_13 ⟨Nat.zero_le _, Nat.zero_le _⟩ (fun r2 hr2 => ?_)
        subst hr2
        refine ln_iald hx hb hK hP 2 0 rfl rfl (by omega) (by decide) dX3_defaultOf_16 ?_
        refine lv_istore_n (lv' := [(3, .int (df ((i * 14) + kd))), (2, .int (nI i)), (0, .ref g0), (1, .int (nI kd))]) hx hb dX3_defaultOf_17 rfl hl (by decide) rfl (fun ls hl => ?_)
        refine lv_iload_n hx hb dX3_defaultOf_18 rfl (lv_at hl 0 rfl) ?_
        refine lv_iconst (v := (-1)) hx hb dX3_defaultOf_19 rfl ?_
        refine lv_icmp_eq (tgt := 34) hx hb dX3_defaultOf_20 (by decide) (fun c20 => ?_) (fun c20 => ?_)
        · refine lv_iinc (v := (nI (i + 1))) (lv' := [(2, .int (nI (i + 1))), (3, .int (df ((i * 14) + kd))), (0, .ref g0), (1, .int (nI kd))]) hx hb dX3_defaultOf_34 hl (k := 1) rfl (nI_add _ _) (by decide) rfl (fun ls hl => ?_)
          refine lv_goto (tgt := 2) hx hb dX3_defaultOf_37 (by decide) ?_
          exact ih2 (i + 1) (by omega) (by omega) (by rw [← h2, show 3 - i = (3 - (i + 1)) + 1 from by omega]; exact (dfR_no (by rw [show 3 - 1 - (3 - (i + 1)) = i from by omega]; first | exact Or.inl c20 | exact Or.inr (by rw [ez, nI_clamp (by omega)]; exact c29))).symm) _ (lv_sub hl [0, 2, 3] rfl)
        · obtain ⟨z, hz, ez⟩ := (hdf ((i * 14) + kd)).resolve_left c20
          refine lv_aload_n hx hb dX3_defaultOf_23 rfl (lv_at hl 2 rfl) ?_
          refine lv_iload_n hx hb dX3_defaultOf_24 rfl (lv_at hl 0 rfl) ?_
          refine ln_eqi (y := (nI z)) ez ?_
          refine lv_iload_n hx hb dX3_defaultOf_25 rfl (lv_at hl 3 rfl) ?_
          refine rd_V (ci := 3) (q0 := 0) (own := RX3) (As := [.int (nI z), .int (nI kd)]) (rest := []) (bytes := cX3_opens) (maxL := 5) ⟨hx, hb, hml, hown, hts⟩ (kX3_opens l D y3 g0 g1 g2 st z kd (by omega) (by omega)) gX3_defaultOf_X3_opens rfl hvX3_opens ⟨Nat.le_of_ble_eq_true rfl, Nat.le_of_ble_eq_true rfl⟩ hP hK [0, 1] rfl rfl rfl hl.1 rfl (Nat.le_of_ble_eq_true rfl) dX3_defaultOf_26 ⟨Nat.zero_le _, Nat.zero_le _⟩ (fun r3 hr3 => ?_)
          subst hr3
          refine lb_if_eq (tgt := 34) hx hb dX3_defaultOf_29 (by decide) (fun c29 => ?_) (fun c29 => ?_)
          · refine lv_iinc (v := (nI (i + 1))) (lv' := [(2, .int (nI (i + 1))), (3, .int (df ((i * 14) + kd))), (0, .ref g0), (1, .int (nI kd))]) hx hb dX3_defaultOf_34 hl (k := 1) rfl (nI_add _ _) (by decide) rfl (fun ls hl => ?_)
            refine lv_goto (tgt := 2) hx hb dX3_defaultOf_37 (by decide) ?_
            exact ih2 (i + 1) (by omega) (by omega) (by rw [← h2, show 3 - i = (3 - (i + 1)) + 1 from by omega]; exact (dfR_no (by rw [show 3 - 1 - (3 - (i + 1)) = i from by omega]; first | exact Or.inl c20 | exact Or.inr (by rw [ez, nI_clamp (by omega)]; exact c29))).symm) _ (lv_sub hl [0, 2, 3] rfl)
          · refine lv_iload_n hx hb dX3_defaultOf_32 rfl (lv_at hl 0 rfl) ?_
            exact hret 33 ls _ (by rw [← h2, show 3 - i = (3 - (i + 1)) + 1 from by omega, dfR_yes (by rw [show 3 - 1 - (3 - (i + 1)) = i from by omega]; exact c20) (by rw [show 3 - 1 - (3 - (i + 1)) = i from by omega, ez, nI_clamp (by omega)]; exact c29), show 3 - 1 - (3 - (i + 1)) = i from by omega]) dX3_defaultOf_33
  exact lp2 _ 0 (Nat.lt_succ_self _) (Nat.zero_le _) rfl _ (lv_sub hl [0, 1, 2] rfl)

set_option maxHeartbeats 4000000 in
set_option maxRecDepth 100000 in
theorem kX3_defaultUpward (l : Launch) (D : va_G) (y3 : ClassId × ClassId × ClassId) (g0 : Nat) (g1 : Nat) (g2 : Nat) (a0 : Nat) (a1 : Nat) (nk : Nat) (par : Nat → Int32) (st : Nat → Int32) (df : Nat → Int32) (j : Nat) (hj : j < nk) (hk : nk ≤ 14) (hp : parOK par nk) (hdf : ∀ q : Nat, df q = -1 ∨ ∃ z : Nat, z < 10 ∧ df q = nI z) : rdM l yX3_defaultUpward wsX3_defaultUpward 3 68 D y3 [(g0, .inr (3, [.ref g1, .ref g2])), (g1, .inl (y3.1, 420, .inl st)), (g2, .inl (y3.1, 42, .inl df)), (a0, .inr (1, [.ref a1, .int (nI nk)])), (a1, .inl (y3.1, 14, .inl par))] [.ref g0, .ref a0, .int (nI j)] (fun r => r = (duO st df par 14 (nI j))) := by
  refine rd_of (cc := cX3_defaultUpward) (maxL := 6) (by decide) rfl (Nat.le_of_ble_eq_true rfl) ?_
  intro p e s m args below meth c Q hx hb hml hown hts hP hK hret ls hl
  replace hl : lv_has ls 6 [(0, .ref g0), (1, .ref a0), (2, .int (nI j))] := hl
  refine lv_iload_n hx hb dX3_defaultUpward_0 rfl (lv_at hl 2 rfl) ?_
  refine lv_istore_n (lv' := [(3, .int (nI j)), (0, .ref g0), (1, .ref a0), (2, .int (nI j))]) hx hb dX3_defaultUpward_1 rfl hl (by decide) rfl (fun ls hl => ?_)
  refine lv_iconst (v := (nI 0)) hx hb dX3_defaultUpward_2 rfl ?_
  refine lv_istore (lv' := [(4, .int (nI 0)), (3, .int (nI j)), (0, .ref g0), (1, .ref a0), (2, .int (nI j))]) hx hb dX3_defaultUpward_3 hl (by decide) rfl (fun ls hl => ?_)
  have lp5 : ∀ (n1 : Nat) (t : Nat) (u : Int32), 14 - t < n1 → (t ≤ 14) → (u = -1 ∨ ∃ i : Nat, i < nk ∧ u = nI i) → (duO st df par (14 - t) u = duO st df par 14 (nI j)) → ∀ ls : Array Slot, lv_has ls 6 [(4, .int (nI t)), (3, .int u), (0, .ref g0), (1, .ref a0), (2, .int (nI j))] → W p l e (rmO 3 0 0 68) s m args below meth c s.heap [] 0 0 Q (F0 m 5 ls []) := by
    intro n1
    induction n1 with
    | zero => intro t u hm; exact absurd hm (Nat.not_lt_zero _)
    | succ n1 ih5 =>
      intro t u hm5 h1 h2 h3 ls hl
      refine lv_iload hx hb dX3_defaultUpward_5 (lv_at hl 0 rfl) ?_
      refine lv_bipush (v := (nI 14)) hx hb dX3_defaultUpward_7 rfl ?_
      refine ln_icmp_ge (tgt := 45) hx hb (by omega) (by omega) dX3_defaultUpward_9 (by decide) (fun c9 => ?_) (fun c9 => ?_)
      · refine lv_iconst (v := (-1)) hx hb dX3_defaultUpward_45 rfl ?_
        exact hret 46 ls _ (by rw [← h3]; first | (rw [show 14 - t = 0 from by omega]; rfl) | (rw [c14, duO_m1])) dX3_defaultUpward_46
      · refine lv_iload_n hx hb dX3_defaultUpward_12 rfl (lv_at hl 1 rfl) ?_
        refine lv_iconst (v := (-1)) hx hb dX3_defaultUpward_13 rfl ?_
        refine lv_icmp_eq (tgt := 45) hx hb dX3_defaultUpward_14 (by decide) (fun c14 => ?_) (fun c14 => ?_)
        · refine lv_iconst (v := (-1)) hx hb dX3_defaultUpward_45 rfl ?_
          exact hret 46 ls _ (by rw [← h3]; first | (rw [show 14 - t = 0 from by omega]; rfl) | (rw [c14, duO_m1])) dX3_defaultUpward_46
        · obtain ⟨i, hi, ei⟩ := h2.resolve_left c14
          refine lv_aload_n hx hb dX3_defaultUpward_17 rfl (lv_at hl 2 rfl) ?_
          refine lv_iload_n hx hb dX3_defaultUpward_18 rfl (lv_at hl 1 rfl) ?_
          refine ln_eqi (y := (nI i)) ei ?_
          refine rd_V (ci := 3) (q0 := 0) (own := RX3) (As := [.int (nI i)]) (rest := []) (bytes := cX3_defaultOf) (maxL := 4) ⟨hx, hb, hml, hown, hts⟩ (kX3_defaultOf l D y3 g0 g1 g2 st df i (by omega) (by assumption)) gX3_defaultUpward_X3_defaultOf rfl hvX3_defaultOf ⟨Nat.le_of_ble_eq_true rfl, Nat.le_of_ble_eq_true rfl⟩ hP hK [0, 1, 2] rfl rfl rfl hl.1 rfl (Nat.le_of_ble_eq_true rfl) dX3_defaultUpward_19 ⟨Nat.zero_le _, Nat.zero_le _⟩ (fun r2 hr2 => ?_)
          subst hr2
          refine lv_istore (lv' := [(5, .int (dfO st df i)), (4, .int (nI t)), (3, .int u), (0, .ref g0), (1, .ref a0), (2, .int (nI j))]) hx hb dX3_defaultUpward_22 hl (by decide) rfl (fun ls hl => ?_)
          refine lv_iload hx hb dX3_defaultUpward_24 (lv_at hl 0 rfl) ?_
          refine lv_iconst (v := (-1)) hx hb dX3_defaultUpward_26 rfl ?_
          refine lv_icmp_eq (tgt := 33) hx hb dX3_defaultUpward_27 (by decide) (fun c27 => ?_) (fun c27 => ?_)
          · refine lv_aload_n hx hb dX3_defaultUpward_33 rfl (lv_at hl 4 rfl) ?_
            refine lv_iload_n hx hb dX3_defaultUpward_34 rfl (lv_at hl 2 rfl) ?_
            refine rd_V (ci := 1) (q0 := 0) (own := RX3) (As := [.int u]) (rest := []) (bytes := cX1_parentOf) (maxL := 2) ⟨hx, hb, hml, hown, hts⟩ (kX1_parentOf l D y3 a0 a1 nk par u (by omega)) gX3_defaultUpward_X1_parentOf rfl hvX1_parentOf ⟨Nat.le_of_ble_eq_true rfl, Nat.le_of_ble_eq_true rfl⟩ hP hK [3, 4] rfl rfl rfl hl.1 rfl (Nat.le_of_ble_eq_true rfl) dX3_defaultUpward_35 ⟨Nat.zero_le _, Nat.zero_le _⟩ (fun r3 hr3 => ?_)
            subst hr3
            refine lv_istore_n (lv' := [(3, .int (parO par nk u)), (5, .int (dfO st df i)), (4, .int (nI t)), (0, .ref g0), (1, .ref a0), (2, .int (nI j))]) hx hb dX3_defaultUpward_38 rfl hl (by decide) rfl (fun ls hl => ?_)
            refine lv_iinc (v := (nI (t + 1))) (lv' := [(4, .int (nI (t + 1))), (3, .int (parO par nk u)), (5, .int (dfO st df i)), (0, .ref g0), (1, .ref a0), (2, .int (nI j))]) hx hb dX3_defaultUpward_39 hl (k := 2) rfl (nI_add _ _) (by decide) rfl (fun ls hl => ?_)
            refine lv_goto (tgt := 5) hx hb dX3_defaultUpward_42 (by decide) ?_
            exact ih5 (t + 1) (parO par nk u) (by omega) (by omega) (by rw [ei, parO_N hi (by omega)]; exact (hp i hi).imp id (fun ⟨q, hq, e⟩ => ⟨q, by omega, e⟩)) (by rw [← h3, ei, parO_N hi (by omega), show 14 - t = (14 - (t + 1)) + 1 from by omega]; exact (duO_s (by rw [← ei]; exact c14) (by omega) c27).symm) _ (lv_sub hl [0, 1, 3, 4, 5] rfl)
          · refine lv_iload hx hb dX3_defaultUpward_30 (lv_at hl 0 rfl) ?_
            exact hret 32 ls _ (by rw [← h3, ei, show 14 - t = (14 - (t + 1)) + 1 from by omega, duO_e (by rw [← ei]; exact c14) (by omega) c27]) dX3_defaultUpward_32
  exact lp5 _ 0 (nI j) (Nat.lt_succ_self _) (Nat.zero_le _) (Or.inr ⟨j, hj, rfl⟩) rfl _ (lv_sub hl [0, 1, 2, 3, 4] rfl)
end
section
/-! The family ux_: as vx_ (the kit's rows on exceptions, from which these are turned), but a return costs no cell of the room, a throw mc cells of ms slots. -/
def ux_Q (Qc : Array Value → State → Outcome → State → Prop) (XC : String → State → State → Prop) (mc ms : Nat) (free : Addr → Prop) : Array Value → State → Outcome → State → Prop := fun a st o t =>
  (Qc a st o t ∧ ∃ L, FrameEnd st o t L 0 0 ∧ ∀ q ∈ L, free q.base) ∨ ∃ q, o = .threw q ∧ vx_T XC st q t mc ms free
def ux_Met (l : Launch) (y : MethodName) (ws : List Cond) (rm : Room) (Pc : Array Value → State → Prop) (Qc : Array Value → State → Outcome → State → Prop) (XC : String → State → State → Prop) (mc ms : Nat) (free : Addr → Prop) : Prop :=
  MetFree l y (headSpec ws rm) Pc (fun _ _ _ _ _ => True) (ux_Q Qc XC mc ms free)
section UXP
variable {l : Launch} {R : Room} {p : Program} {e : Env} {below : List Frame} {s : State} {sargs : Array Value} {y : MethodName} {len W9 : Nat}
theorem ux_back {ws : List Cond} {rm : Room} {Pc : Array Value → State → Prop} {Qc : Array Value → State → Outcome → State → Prop} {XC : String → State → State → Prop} {mc ms : Nat} {free : Addr → Prop} {bytes : ByteArray} {maxL : Nat} {ret : Option FieldType}
    (hM : ux_Met l y ws rm Pc Qc XC mc ms free) (hblind : FrameBlind Pc) (hrc : rm.cells = mc) (hrs : rm.slots = ms)
    (hframes : rm.frames + 1 ≤ R.frames) (hlocals : W9 + (maxL + 11) + rm.locals ≤ R.locals)
    (hws : ∀ w ∈ ws, ∀ a' U, s.WarmedH U.vm → w.before a' U = true) (hcode : Cond.code y bytes maxL ret ∈ ws) (hinit : ∀ a' U, s.WarmedH U.vm → (Cond.initialized y.cls).before a' U = true) :
    vx_Back l R p e below s sargs y len W9 (PreOf R mc ms Pc) (PostOf Qc 0 0 free) (vx_Post XC mc ms free) := by
  intro m meth c A g ig mk a X hg hsize hdg hW hn hp
  have h1 : (headSpec ws rm).pre.before a A.U = true := atoms_intro fun w hw => hws w hw _ _ X.warmed
  have h2 : (Cond.code y bytes maxL ret).before a A.U = true := hws _ hcode _ _ X.warmed
  have h3 : (Cond.initialized y.cls).before a A.U = true := hinit _ _ X.warmed
  have h4 : A.cells + (headSpec ws rm).room.cells ≤ R.cells := by rw [show (headSpec ws rm).room.cells = mc from hrc]; exact hp.1
  have h5 : A.slots + (headSpec ws rm).room.slots ≤ R.slots := by rw [show (headSpec ws rm).room.slots = ms from hrs]; exact hp.2.1
  have hPc : Pc a (A.U.calling g mk a) := hblind _ _ _ _ hp.2.2
  obtain ⟨U, Ls, c0, s0⟩ := A
  dsimp only [Pt.U, Pt.locs, Pt.cells, Pt.slots] at h1 h2 h3 h4 h5 X hn hPc ⊢
  obtain ⟨methY, cY, hmY, hcY, -, hlY, -, -, -, -⟩ := Cond.code_spec hn h2
  obtain ⟨kY, hkY, -⟩ := className_of_methodNamed hn
  have hinitY : kY.init = .initialized := Cond.initialized_spec (findClass_of_methodNamed hn) hkY h3
  have h : At U g.method c below := by rw [hg]; exact X.here
  have hlocals9 : W9 + (maxL + 11) + (headSpec ws rm).room.locals ≤ R.locals := hlocals
  have happ : (headSpec ws rm).appliesLoose y e.platform (U.calling g mk a) = true :=
    Spec.appliesLoose_calling (g := g) h hdg hn hkY hinitY
      (X.room_calling (g := g) (R' := (headSpec ws rm).room) hsize hmY hcY hframes (by rw [hlY]; omega) h4 h5) h1
  obtain ⟨mid, hmid⟩ := h.above
  have hfr : (U.setTop g).frames = (.java g :: mid) ++ below := by rw [State.frames_setTop' g h.top, hmid]; rfl
  obtain ⟨o, s₂, hsteps, -, hend, hq⟩ := Steps.callFree hM p X.admits X.cas X.clock (acts := []) hfr happ hPc trivial
  have hq' : ux_Q Qc XC mc ms free a (U.calling g mk a) o s₂ := hq
  rw [State.frames_setTop' g h.top] at hend
  obtain ⟨g₀, hg0⟩ := Option.isSome_iff_exists.mp h.top
  obtain ⟨r, hr⟩ := State.topJava?_eq_some.mp hg0
  have hr' : (({ U with heap := s₂.heap, slotsUsed := s₂.slotsUsed } : State).setVm s₂.vm).frames = .java g₀ :: r := hr
  rcases hq' with ⟨hqc, L, hfe, hL⟩ | ⟨q, rfl, E, ce, L, hx, hce, hcv, hcl, hW₂, hsm, hL⟩
  · obtain ⟨⟨v, rfl⟩, hW₂, e2, q2, q3, q4, q5, q6⟩ := id hfe
    have e3 : s₂ = ({ (U.calling g mk a).setFrames s₂.frames with heap := s₂.heap, slotsUsed := s₂.slotsUsed } : State).setVm s₂.vm := by
      have : s₂ = ({ s₂ with vm := (U.calling g mk a).vm } : State).setVm s₂.vm := rfl
      rw [e2] at this
      exact this
    obtain ⟨c₂, i₂, len₂, hc₂, hd₂, hf₂⟩ := hend
    have hW' : U.WarmedH s₂.vm := hW₂
    have hcc : c₂ = c := by
      have h1 : s₂.code? g.method = U.code? g.method := by
        rw [State.code?_eq, State.code?_eq, hW'.alike.method?]
      exact Option.some.inj (hc₂.symm.trans (h1.trans h.code))
    subst hcc
    have hlen : len₂ = len := by rw [hdg] at hd₂; cases hd₂; rfl
    subst hlen
    have hs₂ : s₂ = (({ U with heap := s₂.heap, slotsUsed := s₂.slotsUsed } : State).setVm s₂.vm).setTop { g with pc := g.pc + len₂, stack := v.toList ++ g.stack } := by
      refine e3.trans ?_
      rw [hf₂, State.calling_eq h.top, State.setFrames_setFrames, State.setTop_of_frames _ hr', hr]
      rfl
    have hsame : U.sameButNew ({ U with heap := s₂.heap, slotsUsed := s₂.slotsUsed } : State) L 0 0 := by
      refine ⟨?_, q2, q3, q4, q5, q6⟩
      obtain ⟨t, ht, -⟩ := State.frames_cons hr
      show ({ U with heap := s₂.heap, slotsUsed := s₂.slotsUsed } : State) = { U.setFrames U.frames with heap := s₂.heap, slotsUsed := s₂.slotsUsed }
      rw [State.setFrames_self ht]
    subst hg
    refine Or.inl ⟨v, ⟨(({ U with heap := s₂.heap, slotsUsed := s₂.slotsUsed } : State).setVm s₂.vm), Ls ++ L, c0 + 0, s0 + 0⟩,
      ⟨X.admits, X.cas, X.clock, X.frames, X.room, X.hears, X.method, X.code, (X.here.setHeapUsed s₂.heap s₂.slotsUsed).setVm hW'.alike, X.tail, State.WarmedH.trans X.warmed hW', X.limits, X.bytes, X.same.trans (hsame.setVm s.vm)⟩,
      ⟨g, mk, s₂, L, rfl, rfl, hqc, rfl, hL, rfl, rfl⟩, ?_⟩
    show Steps p.tables e below _ ((({ U with heap := s₂.heap, slotsUsed := s₂.slotsUsed } : State).setVm s₂.vm).setTop { g with pc := g.pc + len₂, stack := v.toList ++ g.stack })
    rw [← hs₂]
    exact hsteps
  · obtain ⟨e2, q2, q3, q4, q5, q6⟩ := id hsm
    have e3 : s₂ = ({ (U.calling g mk a).setFrames s₂.frames with heap := s₂.heap, slotsUsed := s₂.slotsUsed } : State).setVm s₂.vm := by
      have : s₂ = ({ s₂ with vm := (U.calling g mk a).vm } : State).setVm s₂.vm := rfl
      rw [e2] at this
      exact this
    have hf₂ : s₂.frames = .throwing q :: .java g :: U.frames.tail := hend
    have hW' : U.WarmedH s₂.vm := hW₂
    have hs₂ : s₂ = ((({ U with heap := s₂.heap, slotsUsed := s₂.slotsUsed } : State).setVm s₂.vm).setTop g).pushFrame (.throwing q) := by
      refine e3.trans ?_
      rw [hf₂, State.calling_eq h.top, State.setFrames_setFrames, State.pushFrame, State.frames_setTop _ hr', State.setTop_of_frames _ hr', State.setFrames_setFrames, hr]
      rfl
    have hsame : U.sameButNew ({ U with heap := s₂.heap, slotsUsed := s₂.slotsUsed } : State) L mc ms := by
      refine ⟨?_, q2, q3, q4, q5, q6⟩
      obtain ⟨t, ht, -⟩ := State.frames_cons hr
      show ({ U with heap := s₂.heap, slotsUsed := s₂.slotsUsed } : State) = { U.setFrames U.frames with heap := s₂.heap, slotsUsed := s₂.slotsUsed }
      rw [State.setFrames_self ht]
    subst hg
    refine Or.inr ⟨q, ⟨(({ U with heap := s₂.heap, slotsUsed := s₂.slotsUsed } : State).setVm s₂.vm), Ls ++ L, c0 + mc, s0 + ms⟩,
      ⟨X.admits, X.cas, X.clock, X.frames, X.room, X.hears, X.method, X.code, (X.here.setHeapUsed s₂.heap s₂.slotsUsed).setVm hW'.alike, X.tail, State.WarmedH.trans X.warmed hW', X.limits, X.bytes, X.same.trans (hsame.setVm s.vm)⟩,
      ⟨g, mk, s₂, L, E, ce, rfl, rfl, hx, hce, hcv, hcl, rfl, hL, rfl, rfl⟩, ?_⟩
    show Steps p.tables e below _ (((({ U with heap := s₂.heap, slotsUsed := s₂.slotsUsed } : State).setVm s₂.vm).setTop g).pushFrame (.throwing q))
    rw [← hs₂]
    exact hsteps
end UXP
section UXR
variable {p : Program} {l : Launch} {e : Env} {R : Room} {s : State} {m : MethodId} {args : Array Value} {below : List Frame} {meth : Method} {c : Code} {H : Heap} {locs : List Loc} {cells slots : Nat}
def ux_Run (p : Program) (l : Launch) (e : Env) (R : Room) (s : State) (m : MethodId) (args : Array Value) (below : List Frame) (meth : Method) (c : Code) (H : Heap) (locs : List Loc) (cells slots mc ms : Nat) (g : JFrame) (rest : List Value) (Qa : State → Outcome → State → Prop) (XC : String → State → State → Prop) (free : Addr → Prop) : Prop :=
  ∀ T : State, T.heap = H → Stand p l e R s m args below meth c T locs cells slots →
    (∃ (v : Option Value) (st₀ t T' : State) (L : List Loc), st₀.heap = H ∧ Stand p l e R s m args below meth c T' (locs ++ L) cells slots ∧ (∀ q ∈ L, free q.base) ∧ T'.heap = t.heap ∧ T'.vm = t.vm ∧ Qa st₀ (.returned v) t ∧
      Goes p e below T g T' { g with pc := g.pc + 3, stack := v.toList ++ rest }) ∨
    (∃ (q : Addr) (st₀ t T' : State) (L : List Loc) (E : String) (ce : Cell), st₀.heap = H ∧ Stand p l e R s m args below meth c T' (locs ++ L) (cells + mc) (slots + ms) ∧ (∀ z ∈ L, free z.base) ∧ T'.heap = t.heap ∧ T'.vm = t.vm ∧ XC E st₀ t ∧ t.heap[q]? = some ce ∧ ce.vm = .none ∧ s.vm.findClass E = some ce.cls ∧
      Steps p.tables e below (T.setTop g) ((T'.setTop { g with stack := rest }).pushFrame (.throwing q)))
variable {y : MethodName} {bytes cc : ByteArray} {maxL nL mc ms n index : Nat} {ret : Option FieldType} {ws : List Cond} {rm : Room} {Pc : Array Value → State → Prop} {Qc : Array Value → State → Outcome → State → Prop} {XC : String → State → State → Prop} {free : Addr → Prop} {Ts : List Cond} {own C : String} {b : Addr} {As rest : List Value} {g : JFrame}
theorem ux_callBack (cb : CallB R s args own index y bytes maxL ret ws rm mc ms n) (hM : ux_Met l y ws rm Pc Qc XC mc ms free) (hbl : FrameBlind Pc) : vx_Back l R p e below s args y 3 8 (PreOf R mc ms Pc) (PostOf Qc 0 0 free) (vx_Post XC mc ms free) := by
  obtain ⟨hrc, hrs, hfr, hlo, hws, hcw, -, hini, -⟩ := cb
  exact ux_back (bytes := bytes) (maxL := maxL) (ret := ret) hM hbl hrc hrs hfr hlo hws hcw (fun a' U hW => word_at hW (Or.inl (by first | rfl | simp [Cond.onTables, Cond.keeps, Cond.steady])) hini)
theorem ux_runV (S : CallFix p m c cc nL s args Ts own) (hM : ux_Met l y ws rm Pc Qc XC mc ms free) (cw : CallW R s args own C index y bytes maxL ret ws rm mc ms n) (hp : PreV s H C b Pc As)
    (hg : g.method = m) (hn : As.length = n) (hsize : g.locals.size = nL) (hstack : g.stack = As.reverse ++ .ref b :: rest) (hW : 2 * g.monitorRoom + (rest.map fun v => v.category).sum ≤ 8) (hdg : decode cc g.pc = .ok (.invokevirtual index, 3)) (hf : cells + mc ≤ R.cells ∧ slots + ms ≤ R.slots) :
    ux_Run p l e R s m args below meth c H locs cells slots mc ms g rest (Qc (Value.ref b :: As).toArray) XC free := by
  have hK : vx_Back l R p e below s args y 3 8 (PreOf R mc ms Pc) (PostOf Qc 0 0 free) (vx_Post XC mc ms free) := ux_callBack cw.1 hM hp.1
  obtain ⟨⟨-, -, -, -, -, -, hcode, -, hy, hlen, hl⟩, hin, hse⟩ := cw
  obtain ⟨hx, hb, hml, ho, -⟩ := S
  obtain ⟨-, ⟨cellB, hcB, hoB, hclB⟩, hPc⟩ := hp
  intro T hT X
  rcases vx_callV X hx (C := C) (bytes := bytes) (maxL := maxL) (ret := ret) ho hl hin hse hcode hy hK (by rw [hT]; exact hcB) hoB hclB hg (hsize.trans hml.symm) (argsL := As) (rest := rest) (fun sig h => hn.trans (hlen sig h)) hstack hW (by rw [hb]; exact hdg)
    (fun vm₁ hW₁ => ⟨hf.1, hf.2, hPc (T.setVm vm₁) hT hW₁⟩) with ⟨v, vm₁, ⟨U', l2, c2, s2⟩, hW₁, X', ⟨g', mk, t, L, e1, e2, hq, h1, hL, h2, h3⟩, st⟩ | ⟨q, vm₁, ⟨U', l2, c2, s2⟩, hW₁, X', ⟨g', mk, t, L, E, ce, e1, e2, hq, hce, hcv, hcl, h1, hL, h2, h3⟩, st⟩
  · dsimp only [Pt.U, Pt.locs, Pt.cells, Pt.slots] at X' e1 e2 h1 h2 h3 st
    subst h1; subst h2; subst h3
    exact Or.inl ⟨v, (T.setVm vm₁).calling g' mk (Value.ref b :: As).toArray, t, U', L, hT, X', hL, e1, e2, hq, st⟩
  · dsimp only [Pt.U, Pt.locs, Pt.cells, Pt.slots] at X' e1 e2 h1 h2 h3 st hcl
    subst h1; subst h2; subst h3
    exact Or.inr ⟨q, (T.setVm vm₁).calling g' mk (Value.ref b :: As).toArray, t, U', L, E, ce, hT, X', hL, e1, e2, hq, hce, hcv, vx_cls hW₁ hcl, st⟩
theorem ux_runS (S : CallFix p m c cc nL s args Ts own) (hM : ux_Met l y ws rm Pc Qc XC mc ms free) (cw : CallB R s args own index y bytes maxL ret ws rm mc ms n ∧ (Cond.static y).before args s = true) (hp : PreS s H Pc As)
    (hg : g.method = m) (hn : As.length = n) (hsize : g.locals.size = nL) (hstack : g.stack = As.reverse ++ rest) (hW : 2 * g.monitorRoom + (rest.map fun v => v.category).sum ≤ 8) (hdg : decode cc g.pc = .ok (.invokestatic index, 3)) (hf : cells + mc ≤ R.cells ∧ slots + ms ≤ R.slots) :
    ux_Run p l e R s m args below meth c H locs cells slots mc ms g rest (Qc As.toArray) XC free := by
  have hK : vx_Back l R p e below s args y 3 8 (PreOf R mc ms Pc) (PostOf Qc 0 0 free) (vx_Post XC mc ms free) := ux_callBack cw.1 hM hp.1
  obtain ⟨⟨-, -, -, -, -, -, hcode, hini, hy, hlen, hl⟩, hstt⟩ := cw
  obtain ⟨hx, hb, hml, ho, -⟩ := S
  intro T hT X
  rcases vx_callS X hx (bytes := bytes) (maxL := maxL) (ret := ret) ho hl hstt hini hcode hy hK hg (hsize.trans hml.symm) (argsL := As) (rest := rest) (fun sig h => hn.trans (hlen sig h)) hstack hW (by rw [hb]; exact hdg)
    (fun vm₁ hW₁ => ⟨hf.1, hf.2, hp.2 (T.setVm vm₁) hT hW₁⟩) with ⟨v, vm₁, ⟨U', l2, c2, s2⟩, hW₁, X', ⟨g', mk, t, L, e1, e2, hq, h1, hL, h2, h3⟩, st⟩ | ⟨q, vm₁, ⟨U', l2, c2, s2⟩, hW₁, X', ⟨g', mk, t, L, E, ce, e1, e2, hq, hce, hcv, hcl, h1, hL, h2, h3⟩, st⟩
  · dsimp only [Pt.U, Pt.locs, Pt.cells, Pt.slots] at X' e1 e2 h1 h2 h3 st
    subst h1; subst h2; subst h3
    exact Or.inl ⟨v, (T.setVm vm₁).calling g' mk As.toArray, t, U', L, hT, X', hL, e1, e2, hq, st⟩
  · dsimp only [Pt.U, Pt.locs, Pt.cells, Pt.slots] at X' e1 e2 h1 h2 h3 st hcl
    subst h1; subst h2; subst h3
    exact Or.inr ⟨q, (T.setVm vm₁).calling g' mk As.toArray, t, U', L, E, ce, hT, X', hL, e1, e2, hq, hce, hcv, vx_cls hW₁ hcl, st⟩
end UXR
section UXW
variable {p : Program} {l : Launch} {e : Env} {R : Room} {s : State} {m : MethodId} {args : Array Value} {below : List Frame} {meth : Method} {c : Code} {H : Heap} {locs : List Loc} {cells slots : Nat} {Q : State → Prop}
variable {mc ms : Nat} {free : Addr → Prop} {A0 A1 : Nat → Prop} {H0 : Heap} {a : Array Value} {pc : Nat} {ls : Array Slot} {st0 rest : List Value}
theorem ux_calli {S SX : Type} {post : Int32 → S → Prop} {px : SX → Prop} {B : S → State → Prop} {BX : String → SX → State → Prop} {AX : Nat → Prop} (hr : ux_Run p l e R s m args below meth c H locs cells slots mc ms (F0 m pc ls st0) rest (va_Qi post B A1 a) (vx_X px BX AX) free) (hS : va_S A0 H0 H locs) (hA : ∀ q, q < H.size → A1 q → A0 q) (hf : ∀ q, free q → A0 q) (hAX : ∀ q, q < H.size → AX q → A0 q)
    (kx : ∀ (E : String) (ce : Cell) (q9 : Addr) (u : SX) (t : State) (H1 : Heap) (locs1 : List Loc), t.heap = H1 → s.vm.Alike t.vm → px u → BX E u t → H.size ≤ H1.size → (∀ q : Nat, q < H.size → ¬ AX q → H1[q]? = H[q]?) → va_S A0 H0 H1 locs1 → H1[q9]? = some ce → ce.vm = .none → s.vm.findClass E = some ce.cls → vx_W p l e R s m args below meth c H1 locs1 (cells + mc) (slots + ms) Q (F0 m pc ls rest) q9)
    (kk : ∀ (r : Int32) (u : S) (t : State) (H1 : Heap) (locs1 : List Loc), t.heap = H1 → s.vm.Alike t.vm → post r u → B u t → H.size ≤ H1.size → (∀ q : Nat, q < H.size → ¬ A1 q → H1[q]? = H[q]?) → va_S A0 H0 H1 locs1 → W p l e R s m args below meth c H1 locs1 cells slots Q (F0 m (pc + 3) ls (.int r :: rest))) : W p l e R s m args below meth c H locs cells slots Q (F0 m pc ls st0) := by
  intro T hT X
  rcases hr T hT X with ⟨v, st₀, t, T', L, h0, X', hL, e1, e2, ⟨⟨r, u, hv, hp, hb⟩, hF⟩, st⟩ | ⟨q, st₀, t, T', L, E, ce, h0, X', hL, e1, e2, ⟨u, hp, hb, hF⟩, hce, hcv, hcl, st⟩
  · cases hv
    obtain ⟨k1, k2, k3⟩ := vx_keep h0 e1 hS hA hf hL hF
    obtain ⟨t2, a1, b1⟩ := kk r u t T'.heap (locs ++ L) e1.symm (by rw [← e2]; exact X'.warmed.alike) hp hb k1 k2 k3 T' rfl X'
    exact ⟨t2, st t2 a1, b1⟩
  · obtain ⟨k1, k2, k3⟩ := vx_keep h0 e1 hS hAX hf hL hF
    obtain ⟨t2, a1, b1⟩ := kx E ce q u t T'.heap (locs ++ L) e1.symm (by rw [← e2]; exact X'.warmed.alike) hp hb k1 k2 k3 (by rw [e1]; exact hce) hcv hcl T' rfl X'
    exact ⟨t2, st.trans a1, b1⟩
theorem ux_callv {S SX : Type} {post : S → Prop} {px : SX → Prop} {B : S → State → Prop} {BX : String → SX → State → Prop} {AX : Nat → Prop} (hr : ux_Run p l e R s m args below meth c H locs cells slots mc ms (F0 m pc ls st0) rest (va_Qv post B A1 a) (vx_X px BX AX) free) (hS : va_S A0 H0 H locs) (hA : ∀ q, q < H.size → A1 q → A0 q) (hf : ∀ q, free q → A0 q) (hAX : ∀ q, q < H.size → AX q → A0 q)
    (kx : ∀ (E : String) (ce : Cell) (q9 : Addr) (u : SX) (t : State) (H1 : Heap) (locs1 : List Loc), t.heap = H1 → s.vm.Alike t.vm → px u → BX E u t → H.size ≤ H1.size → (∀ q : Nat, q < H.size → ¬ AX q → H1[q]? = H[q]?) → va_S A0 H0 H1 locs1 → H1[q9]? = some ce → ce.vm = .none → s.vm.findClass E = some ce.cls → vx_W p l e R s m args below meth c H1 locs1 (cells + mc) (slots + ms) Q (F0 m pc ls rest) q9)
    (kk : ∀ (u : S) (t : State) (H1 : Heap) (locs1 : List Loc), t.heap = H1 → s.vm.Alike t.vm → post u → B u t → H.size ≤ H1.size → (∀ q : Nat, q < H.size → ¬ A1 q → H1[q]? = H[q]?) → va_S A0 H0 H1 locs1 → W p l e R s m args below meth c H1 locs1 cells slots Q (F0 m (pc + 3) ls (rest))) : W p l e R s m args below meth c H locs cells slots Q (F0 m pc ls st0) := by
  intro T hT X
  rcases hr T hT X with ⟨v, st₀, t, T', L, h0, X', hL, e1, e2, ⟨⟨u, hv, hp, hb⟩, hF⟩, st⟩ | ⟨q, st₀, t, T', L, E, ce, h0, X', hL, e1, e2, ⟨u, hp, hb, hF⟩, hce, hcv, hcl, st⟩
  · cases hv
    obtain ⟨k1, k2, k3⟩ := vx_keep h0 e1 hS hA hf hL hF
    obtain ⟨t2, a1, b1⟩ := kk u t T'.heap (locs ++ L) e1.symm (by rw [← e2]; exact X'.warmed.alike) hp hb k1 k2 k3 T' rfl X'
    exact ⟨t2, st t2 a1, b1⟩
  · obtain ⟨k1, k2, k3⟩ := vx_keep h0 e1 hS hAX hf hL hF
    obtain ⟨t2, a1, b1⟩ := kx E ce q u t T'.heap (locs ++ L) e1.symm (by rw [← e2]; exact X'.warmed.alike) hp hb k1 k2 k3 (by rw [e1]; exact hce) hcv hcl T' rfl X'
    exact ⟨t2, st.trans a1, b1⟩
end UXW
section UXE
variable {p : Program} {l : Launch} {e : Env} {R : Room} {s : State} {m : MethodId} {args : Array Value} {below : List Frame} {meth : Method} {c : Code} {H : Heap} {locs : List Loc} {cells slots : Nat} {Q : State → Prop}
variable {mc ms : Nat} {free : Addr → Prop} {A0 A1 : Nat → Prop} {H0 : Heap} {a : Array Value} {ls : Array Slot} {st0 rest : List Value}
variable {Qc : Array Value → State → Outcome → State → Prop} {XC : String → State → State → Prop}
def ux_MQ (below : List Frame) (Qc : Array Value → State → Outcome → State → Prop) (XC : String → State → State → Prop) (a : Array Value) (s : State) (mc ms : Nat) (free : Addr → Prop) : State → Prop := fun t =>
  ∃ o, t.status = .running ∧ Ended t below o ∧ ux_Q Qc XC mc ms free a s o t
theorem ux_ret {g : JFrame} {mc ms : Nat} (k : W p l e R s m args below meth c H locs cells slots (MQ below Qc args s 0 0 free) g) : W p l e R s m args below meth c H locs cells slots (ux_MQ below Qc XC args s mc ms free) g := by
  intro T hT X
  obtain ⟨t, a1, o, b1, b2, b3, b4⟩ := k T hT X
  exact ⟨t, a1, o, b1, b2, Or.inl ⟨b3, b4⟩⟩
theorem ux_out {pc : Nat} {E : String} {ce : Cell} {q : Addr} {mc ms : Nat} (hout : ∀ x ∈ c.exceptionTable.toList, covers x pc = false) (hlocks : meth.locks = false) (hcell : H[q]? = some ce) (hv : ce.vm = .none) (hcl : s.vm.findClass E = some ce.cls)
    (hx : ∀ t : State, t.heap = H → s.vm.Alike t.vm → XC E s t) (hf : ∀ z ∈ locs, free z.base) (hc : cells ≤ mc) (hs : slots ≤ ms) :
    vx_W p l e R s m args below meth c H locs cells slots (ux_MQ below Qc XC args s mc ms free) (F0 m pc ls rest) q := by
  intro T hT X
  obtain ⟨st1, hrun, hend, hW, hsm⟩ := X.leaveThrown q (g := F0 m pc ls rest) rfl rfl rfl hout hlocks
  have hcell9 : (T.setFrames (.throwing q :: below)).heap[q]? = some ce := by
    show T.heap[q]? = some ce
    rw [hT]; exact hcell
  exact ⟨_, st1, .threw q, hrun, hend, Or.inr ⟨q, rfl, E, ce, locs, hx _ hT hW.alike, hcell9, hv, hcl, hW, hsm.mono hc hs, hf⟩⟩
theorem ux_throwS {cc : ByteArray} {pc : Nat} (hexec : p.tables.exec = Jvm.exec) (hb : c.code = cc) (hl : l.stackTraces = false) {own cls text : String} {names : List String} {ik is ic mc ms sa : Nat} {A : Nat → Prop}
    (hown : s.vm.findClass own = some m.cls) (hcls : Bundle.fit cls = true) (hnames : ∀ n ∈ names, Bundle.fit n = true)
    (hk : (Cond.classLink own ik cls).before args s = true) (hini : (Cond.initialized cls).before args s = true) (hstr : vk_R own is text sa s) (hat : ∀ w ∈ vx_atS own ic cls names, w.before args s = true)
    (hgood : ∀ w ∈ Cond.classLink own ik cls :: Cond.initialized cls :: vx_atS own ic cls names, vx_ot w = true)
    (hU : vx_Zq Bundle.tN "UNASSIGNED_STACK" Bundle.steD A s s.heap) (hN : vx_Zq Bundle.tN "SUPPRESSED_SENTINEL" Bundle.listD A s s.heap) (hS : va_S A s.heap H locs) (hsize : ls.size = c.maxLocals)
    (d0 : decode cc pc = .ok (.new ik, 3)) (d3 : decode cc (pc + 3) = .ok (.dup, 1)) (d4 : decode cc (pc + 4) = .ok (.ldc is, 2)) (d6 : decode cc (pc + 6) = .ok (.invokespecial ic, 3)) (d9 : decode cc (pc + 9) = .ok (.athrow, 1))
    (hout : ∀ x ∈ c.exceptionTable.toList, covers x (pc + 9) = false)
    (hRframes : names.length + 3 < R.frames) (hRlocals : (rest.map fun v => v.category).sum + (13 * (names.length + 1) + 43) ≤ R.locals) (hRcells : cells + 1 ≤ R.cells) (hRslots : slots + 6 ≤ R.slots) (hlocks : meth.locks = false)
    (hx : ∀ t : State, s.vm.Alike t.vm → H.size ≤ t.heap.size → (∀ q : Nat, q < H.size → t.heap[q]? = H[q]?) → XC cls s t)
    (hf : ∀ z ∈ locs, free z.base) (hc : cells + 1 ≤ mc) (hs : slots + 6 ≤ ms) :
    W p l e R s m args below meth c H locs cells slots (ux_MQ below Qc XC args s mc ms free) (F0 m pc ls rest) := by
  intro T hT X
  have htr : e.platform.stackTraces = false := (show e.platform.stackTraces = l.stackTraces by rw [X.admits.platform]).trans hl
  have Y := vx_rebase X (R' := { frames := R.frames, locals := R.locals, cells := 1, slots := 6 }) (Nat.le_refl _) (Nat.le_refl _) hRcells hRslots
  obtain ⟨s', hA⟩ : ∃ z, z = (T.setVm s.vm).setFrames (.invoking m args :: below) := ⟨_, rfl⟩
  rw [← hA] at Y
  have hvm : s'.vm = s.vm := by rw [hA]; rfl
  have hhp : s'.heap = H := by rw [hA]; exact hT
  have hW0 : s.WarmedH s'.vm := by rw [hvm]; exact State.WarmedH.refl s
  have hat' : ∀ w ∈ vx_atS own ic cls names, w.before args s' = true := fun w hw => vx_ot_at hW0 hvm.symm (hgood w (List.mem_cons_of_mem _ (List.mem_cons_of_mem _ hw))) (hat w hw)
  have hk' : (Cond.classLink own ik cls).before args s' = true := vx_ot_at hW0 hvm.symm (hgood _ List.mem_cons_self) hk
  have hini' : (Cond.initialized cls).before args s' = true := vx_ot_at hW0 hvm.symm (hgood _ (List.mem_cons_of_mem _ List.mem_cons_self)) hini
  have hU' : vx_Zq Bundle.tN "UNASSIGNED_STACK" Bundle.steD A s' s'.heap := by rw [hhp]; exact vx_Zq.moved hW0.alike (hU.kept hS.2.1)
  have hN' : vx_Zq Bundle.tN "SUPPRESSED_SENTINEL" Bundle.listD A s' s'.heap := by rw [hhp]; exact vx_Zq.moved hW0.alike (hN.kept hS.2.1)
  have h : ∀ w ∈ Bundle.ownAtoms own ic cls names, w.before args s' = true := vx_own hat' (vx_isRefq hU'.1) (vx_isRefq hN'.1) hU'.2.word hN'.2.word
  have hown' : s'.vm.findClass own = some m.cls := by rw [hvm]; exact hown
  have hins : (Cond.instantiable cls 6).before args s' = true := h _ (by simp [Bundle.ownAtoms])
  obtain ⟨vm₁, cX, kX, hfX, hkX, -, -, X₁, st1⟩ := Y.newCold hexec (own := own) (C := cls) (index := ik) (n := 6) hown' hk' hins hini'
    (g := F0 m pc ls rest) rfl (by rw [hb]; exact d0) (Nat.le_refl _) (Nat.le_refl _)
  generalize hT1 : (T.setVm vm₁).pushCell { cls := cX, slots := kX.instanceTypes.map defaultValue, vm := .none } = T1 at X₁ st1
  have hcat : (Value.ref T.heap.size).category = 1 := rfl
  have hcellA : T1.heap[T.heap.size]? = some (freshCell cX kX) := by rw [← hT1]; exact State.heap_pushCell_size _ _
  have d3' : decode c.code (pc + 3) = .ok (.dup, 1) := by rw [hb]; exact d3
  have d4' : decode c.code (pc + 4) = .ok (.ldc is, 2) := by rw [hb]; exact d4
  have hstr' : vk_R own is text sa s' := vk_R.warm hW0 hstr
  obtain ⟨U, hsteps, hrun, hend, hW, hsame, ce, hce, hO⟩ := X₁.ctorThrowS hexec htr (own := own) (cls := cls) (names := names) (ic := ic) hown' hcls hnames h (fun x hx => nomatch hx) hfX hkX hcellA (by rw [hhp, hT]; exact Nat.le_refl _) (msg := .ref sa) rfl
    (g := { method := m, pc := pc + 6, locals := ls, stack := .ref sa :: .ref T.heap.size :: .ref T.heap.size :: rest, locked := none }) rfl hsize rfl rfl (rest := rest) rfl
    (by rw [hb]; exact d6) (by rw [hb]; exact d9) hout hRframes (by simp only [List.map_cons, List.sum_cons, hcat]; omega) hlocks
  obtain ⟨f1, f2⟩ := vx_frame hsame
  rw [hhp] at f1 f2
  have hWs : s.WarmedH U.vm := State.WarmedH.trans hW0 hW
  have hcl : s.vm.findClass cls = some ce.cls := by
    have h9 := hO.cls
    rw [hvm] at h9
    exact h9
  have hall : s.sameButNew ({ U with vm := s.vm } : State) locs mc ms := by
    subst hA
    obtain ⟨e1, e2⟩ := hsame
    rw [State.setFrames_setFrames] at e1
    have h2 : (T.setVm s.vm).sameButNew ({ U with vm := s.vm } : State) [] (0 + 1) (0 + 6) := ⟨e1, e2⟩
    have h3 := X.same.trans h2
    rw [List.append_nil] at h3
    exact h3.mono hc hs
  refine ⟨U, ?_, .threw T.heap.size, hrun, hend, Or.inr ⟨T.heap.size, rfl, cls, ce, locs, hx U hWs.alike f1 (fun q hq => f2 q hq (fun z hz => nomatch hz)), hce, hO.vm, hcl, hWs, hall, hf⟩⟩
  refine st1 _ ?_
  show Steps p.tables e below (T1.setTop { method := m, pc := pc + 3, locals := ls, stack := .ref T.heap.size :: rest, locked := none }) _
  jvm_step X₁.here [X₁.here.top, hexec, d3', Value.category]
  exact X₁.ldcString hexec (own := own) (text := text) (index := is) (a := sa) hown' hstr'.1 hstr'.2
    (g := { method := m, pc := pc + 4, locals := ls, stack := .ref T.heap.size :: .ref T.heap.size :: rest, locked := none }) rfl d4' _ hsteps
end UXE
section UXB
variable {l : Launch}
theorem ux_ofW {y : MethodName} {ws ws' : List Cond} {rm : Room} {Pc : Array Value → State → Prop} {Qc : Array Value → State → Outcome → State → Prop} {XC : String → State → State → Prop} {mc ms : Nat} {free : Addr → Prop} {cc : ByteArray} {maxL : Nat} {ret : Option FieldType}
    (hy : plainName y.cls = true) (hw : ws = Cond.code y cc maxL ret :: ws')
    (body : ∀ p e s m args below meth c s₁, BodyLoose p l y (headSpec ws rm) cc maxL ret e s m args below meth c s₁ → c.maxLocals = maxL → (∀ x ∈ c.exceptionTable.toList, False) → Pc args s →
      W p l e (headSpec ws rm).room s m args below meth c s.heap [] 0 0 (ux_MQ below Qc XC args s mc ms free) (entryFrame m args maxL)) : ux_Met l y ws rm Pc Qc XC mc ms free := by
  refine MetFree.of_bodyS (code := cc) (maxLocals := maxL) (ret := ret) hy ?_ ?_
  · intro args s m h hn
    obtain ⟨meth, c, h1, h2, h3, h4, h5, h6, -, -⟩ := Cond.code_spec hn (atoms_spec (ws := ws) h _ (by rw [hw]; exact List.mem_cons_self))
    exact ⟨meth, c, h1, h2, h3, h4, h5, h6⟩
  · intro p e s m args below meth c s₁ B hml hP _
    have hh0 : s₁.heap = s.heap := by rw [B.state]; rfl
    have ht : ∀ x ∈ c.exceptionTable.toList, False := by
      obtain ⟨meth9, c9, h1, h2, -, -, -, -, h7, -⟩ := Cond.code_spec B.named (atoms_spec (ws := ws) B.pre _ (by rw [hw]; exact List.mem_cons_self))
      cases Option.some.inj (h1.symm.trans B.method)
      cases Option.some.inj (h2.symm.trans (Stand.of_body B).code)
      intro x hx
      rw [Array.isEmpty_iff.mp h7] at hx
      cases hx
    obtain ⟨t, a1, o, b1, b2, b3⟩ := body p e s m args below meth c s₁ B hml ht hP s₁ hh0 (Stand.of_body B)
    exact ⟨t, o, a1, b1, b2, b3⟩
end UXB
end
section
/-! ===== own layer: methods of KindGuesser that throw ===== -/
abbrev xIO : String := "java/lang/IndexOutOfBoundsException"
abbrev xIS : String := "java/lang/IllegalStateException"
abbrev xIA : String := "java/lang/IllegalArgumentException"
abbrev xC2 : List String := ["java/lang/RuntimeException", "java/lang/Exception"]
def xE3 : List String := [xIO, xIS, xIA]
def xY3 : List String := ["java/lang/RuntimeException", "java/lang/Exception", Bundle.tN]
def xB (cls : String) : List Cond := [Cond.castable cls cls, Cond.declares (Bundle.initS "java/lang/RuntimeException"), Cond.declares (Bundle.initS "java/lang/Exception"), Cond.declares (Bundle.initS Bundle.tN)]
def xN3 : List (String × String) := [(xIA, xIO), (xIS, xIO), (xIS, xIA)]
def xS12 : List (Nat × String) := [(43, "no such parent"), (54, "there are 14 kinds"), (80, "there were 20 patterns"), (98, "there are 12 rules"), (113, "the rule has 6 tests"), (130, "the name has 12 letters"), (138, "there are 16 bytes"), (192, "no such place"), (197, "no such kind"), (202, "no such pattern"), (207, "no such rule"), (211, "out of range")]
/-- what a throw takes as given -/
def teE (A : Nat → Prop) (U : State) (H : Heap) : Prop :=
  vx_Zq Bundle.tN "UNASSIGNED_STACK" Bundle.steD A U H ∧ vx_Zq Bundle.tN "SUPPRESSED_SENTINEL" Bundle.listD A U H ∧ (∀ E ∈ xE3, va_Nw (.castable E E) U) ∧ (∀ q ∈ xN3, va_Nc q.1 q.2 U) ∧ (∀ q ∈ xS12, ∃ sa, vk_R RX4 q.1 q.2 sa U) ∧ ∀ Y ∈ xY3, va_Nw (.declares (Bundle.initS Y)) U
theorem teE.to {A B : Nat → Prop} {s U : State} {H : Heap} (h : teE A s H) (hW : s.WarmedH U.vm) (hAB : ∀ q, B q → A q) : teE B U H :=
  ⟨(vx_Zq.moved hW.alike h.1).narrow hAB, (vx_Zq.moved hW.alike h.2.1).narrow hAB, fun E hE => va_Nw.warmC hW (h.2.2.1 E hE), fun q hq => (h.2.2.2.1 q hq).moved hW.alike, fun q hq => (h.2.2.2.2.1 q hq).imp (fun _ k => vk_R.warm hW k), fun Y hY => va_Nw.warmD hW (h.2.2.2.2.2 Y hY)⟩
theorem teE.kept {A : Nat → Prop} {U : State} {H H1 : Heap} (h : teE A U H) (hq : ∀ a : Nat, a < H.size → ¬ A a → H1[a]? = H[a]?) : teE A U H1 :=
  ⟨h.1.kept hq, h.2.1.kept hq, h.2.2⟩
def tx_Pc (D : va_G) (y : ClassId × ClassId × ClassId) (w : va_W) (av : List Value) (sz : Nat) : Array Value → State → Prop := va_Pc av (fun U => U.heap.size = sz ∧ va_P D vwCl w U.heap ∧ va_K D vwCl (ty3 y) U ∧ va_D (fun _ => True) w ∧ teE (va_A w sz) U U.heap)
theorem tx_blind {D : va_G} {y : ClassId × ClassId × ClassId} {w : va_W} {av : List Value} {sz : Nat} : FrameBlind (tx_Pc D y w av sz) := fun a U g mk q => by
  obtain ⟨q0, q1, q2, q3, q4, q5⟩ := q
  exact ⟨q0, q1, q2, va_K.moved (u := U) (U := U.calling g mk a) (Vm.Alike.refl U.vm) q3, q4, q5.to (U := U.calling g mk a) (State.WarmedH.refl U) (fun _ h => h)⟩
def tx_X (D : va_G) (w : va_W) (sz : Nat) (xp : String → Prop) : String → State → State → Prop := vx_X (S := Unit) (fun _ => True) (fun E _ t => xp E ∧ va_P D vwCl w t.heap ∧ va_D (va_A w sz) w) (va_A w sz)
/-- a method that answers r and leaves w2 u, with post r u; or throws an E with xp E and leaves w -/
def txM (l : Launch) (y : MethodName) (ws : List Cond) (fr lo mc ms : Nat) (D : va_G) (y3 : ClassId × ClassId × ClassId) (w : va_W) (av : List Value) {S : Type} (post : Int32 → S → Prop) (w2 : S → va_W) (xp : String → Prop) : Prop :=
  ∀ sz : Nat, ux_Met l y ws (rmO fr mc ms lo) (tx_Pc D y3 w av sz) (va_Qi post (fun u t => va_P D vwCl (w2 u) t.heap ∧ va_D (va_A w sz) (w2 u)) (va_A w sz)) (tx_X D w sz xp) mc ms (va_A w sz)
def tvM (l : Launch) (y : MethodName) (ws : List Cond) (fr lo mc ms : Nat) (D : va_G) (y3 : ClassId × ClassId × ClassId) (w : va_W) (av : List Value) {S : Type} (post : S → Prop) (w2 : S → va_W) (xp : String → Prop) : Prop :=
  ∀ sz : Nat, ux_Met l y ws (rmO fr mc ms lo) (tx_Pc D y3 w av sz) (va_Qv post (fun u t => va_P D vwCl (w2 u) t.heap ∧ va_D (va_A w sz) (w2 u)) (va_A w sz)) (tx_X D w sz xp) mc ms (va_A w sz)
set_option maxRecDepth 100000 in
theorem xg_IO : (∀ w ∈ Cond.classLink RX4 41 xIO :: Cond.initialized xIO :: vx_atS RX4 45 xIO xC2, vx_ot w = true) ∧ (∀ w ∈ (vx_atS RX4 45 xIO xC2).filter (fun w => !goodWord w), w ∈ xB xIO) ∧ Bundle.fit xIO = true ∧ ∀ n ∈ xC2, Bundle.fit n = true := by decide +kernel
set_option maxRecDepth 100000 in
theorem xg_IS : (∀ w ∈ Cond.classLink RX4 52 xIS :: Cond.initialized xIS :: vx_atS RX4 56 xIS xC2, vx_ot w = true) ∧ (∀ w ∈ (vx_atS RX4 56 xIS xC2).filter (fun w => !goodWord w), w ∈ xB xIS) ∧ Bundle.fit xIS = true ∧ ∀ n ∈ xC2, Bundle.fit n = true := by decide +kernel
set_option maxRecDepth 100000 in
theorem xg_IA : (∀ w ∈ Cond.classLink RX4 209 xIA :: Cond.initialized xIA :: vx_atS RX4 213 xIA xC2, vx_ot w = true) ∧ (∀ w ∈ (vx_atS RX4 213 xIA xC2).filter (fun w => !goodWord w), w ∈ xB xIA) ∧ Bundle.fit xIA = true ∧ ∀ n ∈ xC2, Bundle.fit n = true := by decide +kernel
/-- the words of a 'new X(text); athrow' -/
def xgP (ik ic : Nat) (cls : String) : Prop := (∀ w ∈ Cond.classLink RX4 ik cls :: Cond.initialized cls :: vx_atS RX4 ic cls xC2, vx_ot w = true) ∧ (∀ w ∈ (vx_atS RX4 ic cls xC2).filter (fun w => !goodWord w), w ∈ xB cls) ∧ Bundle.fit cls = true ∧ ∀ n ∈ xC2, Bundle.fit n = true
def xwP (ws : List Cond) (ik ic : Nat) (cls : String) : Prop := Cond.classLink RX4 ik cls ∈ ws ∧ Cond.initialized cls ∈ ws ∧ ∀ q ∈ (vx_atS RX4 ic cls xC2).filter goodWord, q ∈ ws
section TX
variable {p : Program} {l : Launch} {e : Env} {R : Room} {s : State} {m : MethodId} {args : Array Value} {below : List Frame} {meth : Method} {c : Code} {H : Heap} {locs : List Loc} {cells slots : Nat} {Q : State → Prop}
variable {cc : ByteArray} {pc nL : Nat} {ls : Array Slot} {rest st0 : List Value}
theorem tx_thr {ws : List Cond} {fr lo mc ms ik is ic : Nat} {D : va_G} {w : va_W} {A : Nat → Prop} {Qc : Array Value → State → Outcome → State → Prop} {XC : String → State → State → Prop} {cls text : String}
    (hl : l.stackTraces = false) (hx : p.tables.exec = Jvm.exec) (hb : c.code = cc) (hown : s.vm.findClass RX4 = some m.cls) (hts : ∀ q ∈ ws, q.before args s = true) (hlocks : meth.locks = false) (htab : ∀ x ∈ c.exceptionTable.toList, False) (hT : teE A s s.heap)
    (hXC : ∀ t : State, va_P D vwCl w t.heap → va_F A s t → XC cls s t)
    (hg : xgP ik ic cls) (hE : cls ∈ xE3) (hs : (is, text) ∈ xS12) (hw : xwP ws ik ic cls) (hP : va_P D vwCl w H) (hS : va_S A s.heap H locs) (hsz : ls.size = c.maxLocals)
    (d0 : decode cc pc = .ok (.new ik, 3)) (d3 : decode cc (pc + 3) = .ok (.dup, 1)) (d4 : decode cc (pc + 4) = .ok (.ldc is, 2)) (d6 : decode cc (pc + 6) = .ok (.invokespecial ic, 3)) (d9 : decode cc (pc + 9) = .ok (.athrow, 1))
    (hR : 5 < fr ∧ (rest.map fun v => v.category).sum + 82 ≤ lo ∧ 1 ≤ mc ∧ 6 ≤ ms) : W p l e (rmO fr mc ms lo) s m args below meth c H locs 0 0 (ux_MQ below Qc XC args s mc ms A) (F0 m pc ls rest) := by
  obtain ⟨sa, hsa⟩ := hT.2.2.2.2.1 _ hs
  refine ux_throwS (own := RX4) (cls := cls) (text := text) (names := xC2) (ik := ik) (is := is) (ic := ic) (sa := sa) (A := A) hx hb hl hown hg.2.2.1 hg.2.2.2 (hts _ hw.1) (hts _ hw.2.1) hsa
    (vx_hat (fun q hq => hts q (hw.2.2 q hq)) hg.2.1 (vx_c (va_Nw.use rfl (hT.2.2.1 cls hE)) (vx_c (va_Nw.use rfl (hT.2.2.2.2.2 _ (by simp [xY3]))) (vx_c (va_Nw.use rfl (hT.2.2.2.2.2 _ (by simp [xY3]))) (vx_c (va_Nw.use rfl (hT.2.2.2.2.2 _ (by simp [xY3]))) vx_n))))) hg.1 hT.1 hT.2.1 hS hsz d0 d3 d4 d6 d9 (fun x hx => (htab x hx).elim)
    (by show 2 + 3 < fr; omega) (by show _ + (13 * (2 + 1) + 43) ≤ lo; omega) (by show 0 + 1 ≤ mc; omega) (by show 0 + 6 ≤ ms; omega) hlocks (fun t hal hz hk => ?_) hS.2.2 (by omega) (by omega)
  exact hXC t (hP.kept (fun k q hq => hk q.1 (hP k q hq).lt)) ⟨Nat.le_trans hS.1 hz, fun q h1 h2 => by rw [hk q (Nat.lt_of_lt_of_le h1 hS.1)]; exact hS.2.1 q h1 h2⟩
end TX
theorem tx_XC {D : va_G} {w : va_W} {sz : Nat} {xp : String → Prop} {s : State} {cls : String} (hsz : s.heap.size = sz) (hxp : xp cls) (hD : va_D (va_A w sz) w) : ∀ t : State, va_P D vwCl w t.heap → va_F (va_A w sz) s t → tx_X D w sz xp cls s t := fun _ h1 h2 => ⟨(), trivial, ⟨hxp, h1, hD⟩, h2⟩
/-- the body of a method that may throw, with an int -/
theorem tx_of {l : Launch} {y : MethodName} {ws ws' : List Cond} {fr lo mc ms : Nat} {D : va_G} {y3 : ClassId × ClassId × ClassId} {w : va_W} {av : List Value} {S : Type} {post : Int32 → S → Prop} {w2 : S → va_W} {xp : String → Prop} {cc : ByteArray} {maxL : Nat}
    (hl : l.stackTraces = false) (hy : y.cls = RX4) (hw : ws = Cond.code y cc maxL (some .int) :: ws') (hn : (lg_sl av).length ≤ maxL)
    (body : ∀ (p : Program) (e : Env) (s : State) (m : MethodId) (args : Array Value) (below : List Frame) (meth : Method) (c : Code) (A : Nat → Prop) (Q : State → Prop), p.tables.exec = Jvm.exec → c.code = cc → c.maxLocals = maxL → s.vm.findClass RX4 = some m.cls → (∀ q ∈ ws, q.before args s = true) → va_P D vwCl w s.heap → va_K D vwCl (ty3 y3) s → va_D A w → (∀ q : Nat, s.heap.size ≤ q → A q) → va_S A s.heap s.heap [] → teE A s s.heap →
      (∀ (pc : Nat) (ls : Array Slot) (H : Heap) (locs : List Loc) (u : S) (v : Int32), va_P D vwCl (w2 u) H → va_D A (w2 u) → va_S A s.heap H locs → post v u → decode cc pc = .ok (.ireturn, 1) → W p l e (rmO fr mc ms lo) s m args below meth c H locs 0 0 Q (F0 m pc ls [.int v])) →
      (∀ (pc ik is ic : Nat) (cls text : String) (ls : Array Slot) (H : Heap) (locs : List Loc) (rest : List Value), xgP ik ic cls → cls ∈ xE3 → (is, text) ∈ xS12 → xwP ws ik ic cls → xp cls → va_P D vwCl w H → va_D A w → va_S A s.heap H locs → ls.size = maxL → decode cc pc = .ok (.new ik, 3) → decode cc (pc + 3) = .ok (.dup, 1) → decode cc (pc + 4) = .ok (.ldc is, 2) → decode cc (pc + 6) = .ok (.invokespecial ic, 3) → decode cc (pc + 9) = .ok (.athrow, 1) → (5 < fr ∧ (rest.map fun v => v.category).sum + 82 ≤ lo ∧ 1 ≤ mc ∧ 6 ≤ ms) → W p l e (rmO fr mc ms lo) s m args below meth c H locs 0 0 Q (F0 m pc ls rest)) →
      (∀ (pc : Nat) (ls : Array Slot) (rest : List Value) (H : Heap) (locs : List Loc) (E : String) (ce : Cell) (q9 : Addr) (cells slots : Nat), xp E → va_P D vwCl w H → va_D A w → va_S A s.heap H locs → H[q9]? = some ce → ce.vm = .none → s.vm.findClass E = some ce.cls → cells ≤ mc ∧ slots ≤ ms → vx_W p l e (rmO fr mc ms lo) s m args below meth c H locs cells slots Q (F0 m pc ls rest) q9) → ∀ ls : Array Slot, lv_has ls maxL (lv_args 0 av) →
      W p l e (rmO fr mc ms lo) s m args below meth c s.heap [] 0 0 Q (F0 m 0 ls [])) : txM l y ws fr lo mc ms D y3 w av post w2 xp := by
  intro sz
  refine ux_ofW (cc := cc) (maxL := maxL) (ret := some .int) (by rw [hy]; decide) hw ?_
  intro p e s m args below meth c s₁ B hml htab hv
  obtain ⟨rfl, hsz, hP, hK, hD0, hT⟩ := hv
  subst hsz
  rw [lg_entry_eq]
  have hown : s.vm.findClass RX4 = some m.cls := by rw [← hy]; exact findClass_of_methodNamed B.named
  exact body p e s m av.toArray below meth c (va_A w s.heap.size) _ B.exec B.bytes hml hown (atoms_spec (ws := ws) B.pre) hP hK hD0.self (fun q h => Or.inr h) va_S.rf hT
    (fun pc ls H locs u v h1 h2 h3 h6 hdg => ux_ret (W.iret B.exec B.bytes B.returns (fun t ht _ => ⟨⟨v, u, rfl, h6, by rw [ht]; exact h1, h2⟩, h3.F ht⟩) h3.2.2 hdg B.notSynchronized))
    (fun pc ik is ic cls text ls H locs rest hg hE hs hw2 hxp h1 h2 h3 hsz d0 d3 d4 d6 d9 hR => tx_thr (D := D) (w := w) hl B.exec B.bytes hown (atoms_spec (ws := ws) B.pre) B.notSynchronized htab hT (tx_XC rfl hxp hD0.self) hg hE hs hw2 h1 h3 (hsz.trans hml.symm) d0 d3 d4 d6 d9 hR)
    (fun pc ls rest H locs E ce q9 cells slots hxp h1 h2 h3 h4 h5 h6 h7 => ux_out (fun x hx => (htab x hx).elim) B.notSynchronized h4 h5 h6 (fun t ht _ => ⟨(), trivial, ⟨hxp, by rw [ht]; exact h1, h2⟩, h3.F ht⟩) h3.2.2 h7.1 h7.2) _ (lv_entry av hn)
/-- the same with a truth value -/
theorem tz_of {l : Launch} {y : MethodName} {ws ws' : List Cond} {fr lo mc ms : Nat} {D : va_G} {y3 : ClassId × ClassId × ClassId} {w : va_W} {av : List Value} {S : Type} {post : Int32 → S → Prop} {w2 : S → va_W} {xp : String → Prop} {cc : ByteArray} {maxL : Nat}
    (hl : l.stackTraces = false) (hy : y.cls = RX4) (hw : ws = Cond.code y cc maxL (some .boolean) :: ws') (hn : (lg_sl av).length ≤ maxL)
    (body : ∀ (p : Program) (e : Env) (s : State) (m : MethodId) (args : Array Value) (below : List Frame) (meth : Method) (c : Code) (A : Nat → Prop) (Q : State → Prop), p.tables.exec = Jvm.exec → c.code = cc → c.maxLocals = maxL → s.vm.findClass RX4 = some m.cls → (∀ q ∈ ws, q.before args s = true) → va_P D vwCl w s.heap → va_K D vwCl (ty3 y3) s → va_D A w → (∀ q : Nat, s.heap.size ≤ q → A q) → va_S A s.heap s.heap [] → teE A s s.heap →
      (∀ (pc : Nat) (ls : Array Slot) (H : Heap) (locs : List Loc) (u : S) (v : Int32) (b : Bool), va_P D vwCl (w2 u) H → va_D A (w2 u) → va_S A s.heap H locs → v = bI b → post (bI b) u → decode cc pc = .ok (.ireturn, 1) → W p l e (rmO fr mc ms lo) s m args below meth c H locs 0 0 Q (F0 m pc ls [.int v])) →
      (∀ (pc : Nat) (ls : Array Slot) (rest : List Value) (H : Heap) (locs : List Loc) (E : String) (ce : Cell) (q9 : Addr) (cells slots : Nat), xp E → va_P D vwCl w H → va_D A w → va_S A s.heap H locs → H[q9]? = some ce → ce.vm = .none → s.vm.findClass E = some ce.cls → cells ≤ mc ∧ slots ≤ ms → vx_W p l e (rmO fr mc ms lo) s m args below meth c H locs cells slots Q (F0 m pc ls rest) q9) → ∀ ls : Array Slot, lv_has ls maxL (lv_args 0 av) →
      W p l e (rmO fr mc ms lo) s m args below meth c s.heap [] 0 0 Q (F0 m 0 ls [])) : txM l y ws fr lo mc ms D y3 w av post w2 xp := by
  intro sz
  refine ux_ofW (cc := cc) (maxL := maxL) (ret := some .boolean) (by rw [hy]; decide) hw ?_
  intro p e s m args below meth c s₁ B hml htab hv
  obtain ⟨rfl, hsz, hP, hK, hD0, hT⟩ := hv
  subst hsz
  rw [lg_entry_eq]
  have hown : s.vm.findClass RX4 = some m.cls := by rw [← hy]; exact findClass_of_methodNamed B.named
  exact body p e s m av.toArray below meth c (va_A w s.heap.size) _ B.exec B.bytes hml hown (atoms_spec (ws := ws) B.pre) hP hK hD0.self (fun q h => Or.inr h) va_S.rf hT
    (fun pc ls H locs u v b h1 h2 h3 hv h6 hdg => ux_ret (W.zret B.exec B.bytes B.returns (bI_narrow_of hv) (fun t ht _ => ⟨⟨v, u, rfl, by rw [hv]; exact h6, by rw [ht]; exact h1, h2⟩, h3.F ht⟩) h3.2.2 hdg B.notSynchronized))
    (fun pc ls rest H locs E ce q9 cells slots hxp h1 h2 h3 h4 h5 h6 h7 => ux_out (fun x hx => (htab x hx).elim) B.notSynchronized h4 h5 h6 (fun t ht _ => ⟨(), trivial, ⟨hxp, by rw [ht]; exact h1, h2⟩, h3.F ht⟩) h3.2.2 h7.1 h7.2) _ (lv_entry av hn)
/-- the same without an answer -/
theorem tv_of {l : Launch} {y : MethodName} {ws ws' : List Cond} {fr lo mc ms : Nat} {D : va_G} {y3 : ClassId × ClassId × ClassId} {w : va_W} {av : List Value} {S : Type} {post : S → Prop} {w2 : S → va_W} {xp : String → Prop} {cc : ByteArray} {maxL : Nat}
    (hl : l.stackTraces = false) (hy : y.cls = RX4) (hw : ws = Cond.code y cc maxL none :: ws') (hn : (lg_sl av).length ≤ maxL)
    (body : ∀ (p : Program) (e : Env) (s : State) (m : MethodId) (args : Array Value) (below : List Frame) (meth : Method) (c : Code) (A : Nat → Prop) (Q : State → Prop), p.tables.exec = Jvm.exec → c.code = cc → c.maxLocals = maxL → s.vm.findClass RX4 = some m.cls → (∀ q ∈ ws, q.before args s = true) → va_P D vwCl w s.heap → va_K D vwCl (ty3 y3) s → va_D A w → (∀ q : Nat, s.heap.size ≤ q → A q) → va_S A s.heap s.heap [] → teE A s s.heap →
      (∀ (pc : Nat) (ls : Array Slot) (H : Heap) (locs : List Loc) (u : S), va_P D vwCl (w2 u) H → va_D A (w2 u) → va_S A s.heap H locs → post u → decode cc pc = .ok (.return_, 1) → W p l e (rmO fr mc ms lo) s m args below meth c H locs 0 0 Q (F0 m pc ls [])) →
      (∀ (pc ik is ic : Nat) (cls text : String) (ls : Array Slot) (H : Heap) (locs : List Loc) (rest : List Value), xgP ik ic cls → cls ∈ xE3 → (is, text) ∈ xS12 → xwP ws ik ic cls → xp cls → va_P D vwCl w H → va_D A w → va_S A s.heap H locs → ls.size = maxL → decode cc pc = .ok (.new ik, 3) → decode cc (pc + 3) = .ok (.dup, 1) → decode cc (pc + 4) = .ok (.ldc is, 2) → decode cc (pc + 6) = .ok (.invokespecial ic, 3) → decode cc (pc + 9) = .ok (.athrow, 1) → (5 < fr ∧ (rest.map fun v => v.category).sum + 82 ≤ lo ∧ 1 ≤ mc ∧ 6 ≤ ms) → W p l e (rmO fr mc ms lo) s m args below meth c H locs 0 0 Q (F0 m pc ls rest)) →
      (∀ (pc : Nat) (ls : Array Slot) (rest : List Value) (H : Heap) (locs : List Loc) (E : String) (ce : Cell) (q9 : Addr) (cells slots : Nat), xp E → va_P D vwCl w H → va_D A w → va_S A s.heap H locs → H[q9]? = some ce → ce.vm = .none → s.vm.findClass E = some ce.cls → cells ≤ mc ∧ slots ≤ ms → vx_W p l e (rmO fr mc ms lo) s m args below meth c H locs cells slots Q (F0 m pc ls rest) q9) → ∀ ls : Array Slot, lv_has ls maxL (lv_args 0 av) →
      W p l e (rmO fr mc ms lo) s m args below meth c s.heap [] 0 0 Q (F0 m 0 ls [])) : tvM l y ws fr lo mc ms D y3 w av post w2 xp := by
  intro sz
  refine ux_ofW (cc := cc) (maxL := maxL) (ret := none) (by rw [hy]; decide) hw ?_
  intro p e s m args below meth c s₁ B hml htab hv
  obtain ⟨rfl, hsz, hP, hK, hD0, hT⟩ := hv
  subst hsz
  rw [lg_entry_eq]
  have hown : s.vm.findClass RX4 = some m.cls := by rw [← hy]; exact findClass_of_methodNamed B.named
  exact body p e s m av.toArray below meth c (va_A w s.heap.size) _ B.exec B.bytes hml hown (atoms_spec (ws := ws) B.pre) hP hK hD0.self (fun q h => Or.inr h) va_S.rf hT
    (fun pc ls H locs u h1 h2 h3 h6 hdg => ux_ret (W.vret B.exec B.bytes B.returns (fun t ht _ => ⟨⟨u, rfl, h6, by rw [ht]; exact h1, h2⟩, h3.F ht⟩) h3.2.2 hdg B.notSynchronized))
    (fun pc ik is ic cls text ls H locs rest hg hE hs hw2 hxp h1 h2 h3 hsz d0 d3 d4 d6 d9 hR => tx_thr (D := D) (w := w) hl B.exec B.bytes hown (atoms_spec (ws := ws) B.pre) B.notSynchronized htab hT (tx_XC rfl hxp hD0.self) hg hE hs hw2 h1 h3 (hsz.trans hml.symm) d0 d3 d4 d6 d9 hR)
    (fun pc ls rest H locs E ce q9 cells slots hxp h1 h2 h3 h4 h5 h6 h7 => ux_out (fun x hx => (htab x hx).elim) B.notSynchronized h4 h5 h6 (fun t ht _ => ⟨(), trivial, ⟨hxp, by rw [ht]; exact h1, h2⟩, h3.F ht⟩) h3.2.2 h7.1 h7.2) _ (lv_entry av hn)
theorem va_Pm {D : va_G} {cl : List vw_C} {big w3 : va_W} {H : Heap} (hP : va_P D cl big H) (ip : List Nat) (ep : ip.map (fun i => big[i]?) = w3.map some) : va_P D cl w3 H := fun k q hq => by
  have h1 : (ip.map (fun i => big[i]?))[k]? = some (some q) := by rw [ep, List.getElem?_map, hq]; rfl
  rw [List.getElem?_map] at h1
  cases hi : ip[k]? with
  | none => rw [hi] at h1; cases h1
  | some i => rw [hi] at h1; exact hP i q (Option.some.inj h1)
section TC
variable {p : Program} {l : Launch} {e : Env} {R : Room} {s : State} {m : MethodId} {args : Array Value} {below : List Frame} {meth : Method} {c : Code} {H : Heap} {locs : List Loc} {cells slots : Nat} {Q : State → Prop}
variable {cc : ByteArray} {pc nL : Nat} {ls : Array Slot} {rest st0 : List Value}
/-! calls of methods that may throw: kx where it throws, kk where it returns -/
theorem tx_V {y : MethodName} {ws ws' : List Cond} {fr lo index maxL ci q0 mc ms : Nat} {bytes : ByteArray} {ret : Option FieldType} {D : va_G} {y3 : ClassId × ClassId × ClassId} {w w' wr : va_W} {b : Addr} {As : List Value} {X : Type} {post : Int32 → X → Prop} {w2 w3 : X → va_W} {xp : String → Prop} {Ts : List Cond} {own C : String} {T : u_T} {N : Nat} {fs : List Value} {A : Nat → Prop} {H0 : Heap}
    (S : CallFix p m c cc nL s args Ts own) (hM : txM l y ws fr lo mc ms D y3 w' (.ref b :: As) post w2 xp) (hT : GoodIn Ts (wsV own index C y ws)) (hw : ws = Cond.code y bytes maxL ret :: ws')
    (hd : y.cls = C ∧ y.cls ≠ "java/lang/invoke/MethodHandle" ∧ y.cls ≠ "java/lang/invoke/VarHandle" ∧ (parseMethodDescriptor y.desc).map (fun d => d.parameters.length) = some As.length) (hR : fr + 1 ≤ R.frames ∧ 8 + (maxL + 11) + lo ≤ R.locals)
    (hP : va_P D vwCl w H) (hK : va_K D vwCl (ty3 y3) s) (hD : va_D A w) (hS : va_S A H0 H locs) (hA : ∀ q, H0.size ≤ q → A q) (hTE : teE A s H0) (iw ir : List Nat) (ip : List Nat) (ew : iw.map (fun i => w[i]?) = w'.map some) (er : ir.map (fun i => w[i]?) = wr.map some) (hnw : va_nd iw = true) (hnr : va_nd ir = true) (hdis : ∀ i ∈ ir, i ∉ iw) (ep : ∀ u, ip.map (fun i => (wr ++ w2 u)[i]?) = (w3 u).map some) (ex : ip.map (fun i => (wr ++ w')[i]?) = w.map some) (hnp : va_nd ip = true)
    (hc : vwCl[ci]? = some (C, T, N)) (he : w'[q0]? = some (b, .inr (ci, fs)))
    (hsize : ls.size = nL) (hst : st0 = As.reverse ++ .ref b :: rest) (hW : (rest.map fun v => v.category).sum ≤ 8) (hdg : decode cc pc = .ok (.invokevirtual index, 3)) (hcl : cells + mc ≤ R.cells ∧ slots + ms ≤ R.slots)
    (kx : ∀ (E : String) (ce : Cell) (q9 : Addr) (H1 : Heap) (locs1 : List Loc), xp E → va_P D vwCl w H1 → va_D A w → va_S A H0 H1 locs1 → H1[q9]? = some ce → ce.vm = .none → s.vm.findClass E = some ce.cls → vx_W p l e R s m args below meth c H1 locs1 (cells + mc) (slots + ms) Q (F0 m pc ls rest) q9)
    (kk : ∀ (r : Int32) (u : X) (H1 : Heap) (locs1 : List Loc), post r u → va_P D vwCl (w3 u) H1 → va_D A (w3 u) → va_S A H0 H1 locs1 → W p l e R s m args below meth c H1 locs1 cells slots Q (F0 m (pc + 3) ls (.int r :: rest))) : W p l e R s m args below meth c H locs cells slots Q (F0 m pc ls st0) := by
  have hPc : va_P D vwCl w' H := va_Pm hP iw ew
  have hDc := hD.sub iw hnw ew
  have hFc := va_free (wc := w') hD hS hA iw ew
  refine ux_calli (SX := Unit) (px := fun _ => True) (BX := fun E _ t => xp E ∧ va_P D vwCl w' t.heap ∧ va_D (va_A w' H.size) w') (AX := va_A w' H.size) (ux_runV (As := As) (rest := rest) (b := b) (C := C) (n := As.length) S (hM H.size) (cwV As.length S.2.2.2.2 hT hw rfl rfl hd hR)
    ⟨tx_blind, va_recv hK hPc hc he, fun U hU hW2 => ⟨rfl, by rw [hU], by rw [hU]; exact hPc, va_K.moved hW2.alike hK, hDc.weaken (fun _ _ _ _ => trivial), by rw [hU]; exact (hTE.kept hS.2.1).to hW2 (fun q h => hFc q h)⟩⟩ rfl rfl hsize hst (lv_room hW) hdg hcl) hS (fun q _ h => hFc q h) hFc (fun q _ h => hFc q h) (fun E ce q9 u t H1 locs1 ht hvm _ hB hz hk hS1 h7 h8 h9 => ?_) (fun r u t H1 locs1 ht hvm hp hB hz hk hS1 => ?_)
  · obtain ⟨hxp, hP1, hD1⟩ := hB
    rw [ht] at hP1
    obtain ⟨hPj, hDj⟩ := va_join (wr := wr) (w1 := w') hP hD iw ir ew er hnr hdis hk hFc hP1 hD1
    exact kx E ce q9 H1 locs1 hxp (va_Pm hPj ip ex) (hDj.sub ip hnp ex) hS1 h7 h8 h9
  · obtain ⟨hP1, hD1⟩ := hB
    rw [ht] at hP1
    obtain ⟨hPj, hDj⟩ := va_join (wr := wr) (w1 := w2 u) hP hD iw ir ew er hnr hdis hk hFc hP1 hD1
    exact kk r u H1 locs1 hp (va_Pm hPj ip (ep u)) (hDj.sub ip hnp (ep u)) hS1
theorem tv_V {y : MethodName} {ws ws' : List Cond} {fr lo index maxL ci q0 mc ms : Nat} {bytes : ByteArray} {D : va_G} {y3 : ClassId × ClassId × ClassId} {w w' wr : va_W} {b : Addr} {As : List Value} {X : Type} {post : X → Prop} {w2 w3 : X → va_W} {xp : String → Prop} {Ts : List Cond} {own C : String} {T : u_T} {N : Nat} {fs : List Value} {A : Nat → Prop} {H0 : Heap}
    (S : CallFix p m c cc nL s args Ts own) (hM : tvM l y ws fr lo mc ms D y3 w' (.ref b :: As) post w2 xp) (hT : GoodIn Ts (wsV own index C y ws)) (hw : ws = Cond.code y bytes maxL none :: ws')
    (hd : y.cls = C ∧ y.cls ≠ "java/lang/invoke/MethodHandle" ∧ y.cls ≠ "java/lang/invoke/VarHandle" ∧ (parseMethodDescriptor y.desc).map (fun d => d.parameters.length) = some As.length) (hR : fr + 1 ≤ R.frames ∧ 8 + (maxL + 11) + lo ≤ R.locals)
    (hP : va_P D vwCl w H) (hK : va_K D vwCl (ty3 y3) s) (hD : va_D A w) (hS : va_S A H0 H locs) (hA : ∀ q, H0.size ≤ q → A q) (hTE : teE A s H0) (iw ir : List Nat) (ip : List Nat) (ew : iw.map (fun i => w[i]?) = w'.map some) (er : ir.map (fun i => w[i]?) = wr.map some) (hnw : va_nd iw = true) (hnr : va_nd ir = true) (hdis : ∀ i ∈ ir, i ∉ iw) (ep : ∀ u, ip.map (fun i => (wr ++ w2 u)[i]?) = (w3 u).map some) (ex : ip.map (fun i => (wr ++ w')[i]?) = w.map some) (hnp : va_nd ip = true)
    (hc : vwCl[ci]? = some (C, T, N)) (he : w'[q0]? = some (b, .inr (ci, fs)))
    (hsize : ls.size = nL) (hst : st0 = As.reverse ++ .ref b :: rest) (hW : (rest.map fun v => v.category).sum ≤ 8) (hdg : decode cc pc = .ok (.invokevirtual index, 3)) (hcl : cells + mc ≤ R.cells ∧ slots + ms ≤ R.slots)
    (kx : ∀ (E : String) (ce : Cell) (q9 : Addr) (H1 : Heap) (locs1 : List Loc), xp E → va_P D vwCl w H1 → va_D A w → va_S A H0 H1 locs1 → H1[q9]? = some ce → ce.vm = .none → s.vm.findClass E = some ce.cls → vx_W p l e R s m args below meth c H1 locs1 (cells + mc) (slots + ms) Q (F0 m pc ls rest) q9)
    (kk : ∀ (u : X) (H1 : Heap) (locs1 : List Loc), post u → va_P D vwCl (w3 u) H1 → va_D A (w3 u) → va_S A H0 H1 locs1 → W p l e R s m args below meth c H1 locs1 cells slots Q (F0 m (pc + 3) ls rest)) : W p l e R s m args below meth c H locs cells slots Q (F0 m pc ls st0) := by
  have hPc : va_P D vwCl w' H := va_Pm hP iw ew
  have hDc := hD.sub iw hnw ew
  have hFc := va_free (wc := w') hD hS hA iw ew
  refine ux_callv (SX := Unit) (px := fun _ => True) (BX := fun E _ t => xp E ∧ va_P D vwCl w' t.heap ∧ va_D (va_A w' H.size) w') (AX := va_A w' H.size) (ux_runV (As := As) (rest := rest) (b := b) (C := C) (n := As.length) S (hM H.size) (cwV As.length S.2.2.2.2 hT hw rfl rfl hd hR)
    ⟨tx_blind, va_recv hK hPc hc he, fun U hU hW2 => ⟨rfl, by rw [hU], by rw [hU]; exact hPc, va_K.moved hW2.alike hK, hDc.weaken (fun _ _ _ _ => trivial), by rw [hU]; exact (hTE.kept hS.2.1).to hW2 (fun q h => hFc q h)⟩⟩ rfl rfl hsize hst (lv_room hW) hdg hcl) hS (fun q _ h => hFc q h) hFc (fun q _ h => hFc q h) (fun E ce q9 u t H1 locs1 ht hvm _ hB hz hk hS1 h7 h8 h9 => ?_) (fun u t H1 locs1 ht hvm hp hB hz hk hS1 => ?_)
  · obtain ⟨hxp, hP1, hD1⟩ := hB
    rw [ht] at hP1
    obtain ⟨hPj, hDj⟩ := va_join (wr := wr) (w1 := w') hP hD iw ir ew er hnr hdis hk hFc hP1 hD1
    exact kx E ce q9 H1 locs1 hxp (va_Pm hPj ip ex) (hDj.sub ip hnp ex) hS1 h7 h8 h9
  · obtain ⟨hP1, hD1⟩ := hB
    rw [ht] at hP1
    obtain ⟨hPj, hDj⟩ := va_join (wr := wr) (w1 := w2 u) hP hD iw ir ew er hnr hdis hk hFc hP1 hD1
    exact kk u H1 locs1 hp (va_Pm hPj ip (ep u)) (hDj.sub ip hnp (ep u)) hS1
theorem tv_S {y : MethodName} {ws ws' : List Cond} {fr lo index maxL mc ms : Nat} {bytes : ByteArray} {D : va_G} {y3 : ClassId × ClassId × ClassId} {w w' wr : va_W} {As : List Value} {X : Type} {post : X → Prop} {w2 w3 : X → va_W} {xp : String → Prop} {Ts : List Cond} {own : String} {A : Nat → Prop} {H0 : Heap}
    (S : CallFix p m c cc nL s args Ts own) (hM : tvM l y ws fr lo mc ms D y3 w' As post w2 xp) (hT : GoodIn Ts (va_wsS own index y ws)) (hw : ws = Cond.code y bytes maxL none :: ws')
    (hd : y.cls ≠ "java/lang/invoke/MethodHandle" ∧ y.cls ≠ "java/lang/invoke/VarHandle" ∧ (parseMethodDescriptor y.desc).map (fun d => d.parameters.length) = some As.length) (hR : fr + 1 ≤ R.frames ∧ 8 + (maxL + 11) + lo ≤ R.locals)
    (hP : va_P D vwCl w H) (hK : va_K D vwCl (ty3 y3) s) (hD : va_D A w) (hS : va_S A H0 H locs) (hA : ∀ q, H0.size ≤ q → A q) (hTE : teE A s H0) (iw ir : List Nat) (ip : List Nat) (ew : iw.map (fun i => w[i]?) = w'.map some) (er : ir.map (fun i => w[i]?) = wr.map some) (hnw : va_nd iw = true) (hnr : va_nd ir = true) (hdis : ∀ i ∈ ir, i ∉ iw) (ep : ∀ u, ip.map (fun i => (wr ++ w2 u)[i]?) = (w3 u).map some) (ex : ip.map (fun i => (wr ++ w')[i]?) = w.map some) (hnp : va_nd ip = true)
    (hsize : ls.size = nL) (hst : st0 = As.reverse ++ rest) (hW : (rest.map fun v => v.category).sum ≤ 8) (hdg : decode cc pc = .ok (.invokestatic index, 3)) (hcl : cells + mc ≤ R.cells ∧ slots + ms ≤ R.slots)
    (kx : ∀ (E : String) (ce : Cell) (q9 : Addr) (H1 : Heap) (locs1 : List Loc), xp E → va_P D vwCl w H1 → va_D A w → va_S A H0 H1 locs1 → H1[q9]? = some ce → ce.vm = .none → s.vm.findClass E = some ce.cls → vx_W p l e R s m args below meth c H1 locs1 (cells + mc) (slots + ms) Q (F0 m pc ls rest) q9)
    (kk : ∀ (u : X) (H1 : Heap) (locs1 : List Loc), post u → va_P D vwCl (w3 u) H1 → va_D A (w3 u) → va_S A H0 H1 locs1 → W p l e R s m args below meth c H1 locs1 cells slots Q (F0 m (pc + 3) ls rest)) : W p l e R s m args below meth c H locs cells slots Q (F0 m pc ls st0) := by
  have hPc : va_P D vwCl w' H := va_Pm hP iw ew
  have hDc := hD.sub iw hnw ew
  have hFc := va_free (wc := w') hD hS hA iw ew
  refine ux_callv (SX := Unit) (px := fun _ => True) (BX := fun E _ t => xp E ∧ va_P D vwCl w' t.heap ∧ va_D (va_A w' H.size) w') (AX := va_A w' H.size) (ux_runS (As := As) (rest := rest) (n := As.length) S (hM H.size) (va_cwS As.length S.2.2.2.2 hT hw rfl rfl hd hR)
    ⟨tx_blind, fun U hU hW2 => ⟨rfl, by rw [hU], by rw [hU]; exact hPc, va_K.moved hW2.alike hK, hDc.weaken (fun _ _ _ _ => trivial), by rw [hU]; exact (hTE.kept hS.2.1).to hW2 (fun q h => hFc q h)⟩⟩ rfl rfl hsize hst (lv_room hW) hdg hcl) hS (fun q _ h => hFc q h) hFc (fun q _ h => hFc q h) (fun E ce q9 u t H1 locs1 ht hvm _ hB hz hk hS1 h7 h8 h9 => ?_) (fun u t H1 locs1 ht hvm hp hB hz hk hS1 => ?_)
  · obtain ⟨hxp, hP1, hD1⟩ := hB
    rw [ht] at hP1
    obtain ⟨hPj, hDj⟩ := va_join (wr := wr) (w1 := w') hP hD iw ir ew er hnr hdis hk hFc hP1 hD1
    exact kx E ce q9 H1 locs1 hxp (va_Pm hPj ip ex) (hDj.sub ip hnp ex) hS1 h7 h8 h9
  · obtain ⟨hP1, hD1⟩ := hB
    rw [ht] at hP1
    obtain ⟨hPj, hDj⟩ := va_join (wr := wr) (w1 := w2 u) hP hD iw ir ew er hnr hdis hk hFc hP1 hD1
    exact kk u H1 locs1 hp (va_Pm hPj ip (ep u)) (hDj.sub ip hnp (ep u)) hS1
end TC
end
