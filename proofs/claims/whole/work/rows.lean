section
-- ===== PART A: goes FIRST, ahead of the names: the tables' words, and 'selects' of the private methods out of them =====
/-- a private method of a class that the tables say can be made, by its rows of tables_1 -/
def lw_okq (q : MethodName × Nat) : Prop := (q.1.cls ≠ "java/lang/invoke/MethodHandle" ∧ q.1.cls ≠ "java/lang/invoke/VarHandle") ∧ Cond.instantiable q.1.cls q.2 ∈ tables_1 ∧ Cond.privateMethod q.1 ∈ tables_1 ∧ Cond.instanceMethod q.1 ∈ tables_1
theorem lw_p0 : lw_okq (⟨"ProgressBilling", "heldIfClosed", "(II)I"⟩, 15) := ⟨⟨by decide +kernel, by decide +kernel⟩, List.mem_of_getElem? (i := 11) (by decide +kernel), List.mem_of_getElem? (i := 101) (by decide +kernel), List.mem_of_getElem? (i := 102) (by decide +kernel)⟩
theorem lw_p1 : lw_okq (⟨"java/lang/Throwable", "fillInStackTrace", "(I)Ljava/lang/Throwable;"⟩, 6) := ⟨⟨by decide +kernel, by decide +kernel⟩, List.mem_of_getElem? (i := 179) (by decide +kernel), List.mem_of_getElem? (i := 177) (by decide +kernel), List.mem_of_getElem? (i := 178) (by decide +kernel)⟩
theorem lw_p2 : lw_okq (⟨"ProgressBilling", "requireRoomForLine", "()V"⟩, 15) := ⟨⟨by decide +kernel, by decide +kernel⟩, List.mem_of_getElem? (i := 11) (by decide +kernel), List.mem_of_getElem? (i := 209) (by decide +kernel), List.mem_of_getElem? (i := 210) (by decide +kernel)⟩
theorem lw_p3 : lw_okq (⟨"ProgressBilling", "requireLine", "(I)V"⟩, 15) := ⟨⟨by decide +kernel, by decide +kernel⟩, List.mem_of_getElem? (i := 11) (by decide +kernel), List.mem_of_getElem? (i := 237) (by decide +kernel), List.mem_of_getElem? (i := 238) (by decide +kernel)⟩
theorem lw_p4 : lw_okq (⟨"ProgressBilling", "requireValueFor", "(II)V"⟩, 15) := ⟨⟨by decide +kernel, by decide +kernel⟩, List.mem_of_getElem? (i := 11) (by decide +kernel), List.mem_of_getElem? (i := 276) (by decide +kernel), List.mem_of_getElem? (i := 277) (by decide +kernel)⟩
theorem lw_p5 : lw_okq (⟨"ProgressBilling", "stepWith", "(I)I"⟩, 15) := ⟨⟨by decide +kernel, by decide +kernel⟩, List.mem_of_getElem? (i := 11) (by decide +kernel), List.mem_of_getElem? (i := 303) (by decide +kernel), List.mem_of_getElem? (i := 304) (by decide +kernel)⟩
theorem lw_p6 : lw_okq (⟨"ProgressBilling", "addStep", "(II)V"⟩, 15) := ⟨⟨by decide +kernel, by decide +kernel⟩, List.mem_of_getElem? (i := 11) (by decide +kernel), List.mem_of_getElem? (i := 307) (by decide +kernel), List.mem_of_getElem? (i := 308) (by decide +kernel)⟩
theorem lw_p7 : lw_okq (⟨"ProgressBilling", "billLines", "()V"⟩, 15) := ⟨⟨by decide +kernel, by decide +kernel⟩, List.mem_of_getElem? (i := 11) (by decide +kernel), List.mem_of_getElem? (i := 330) (by decide +kernel), List.mem_of_getElem? (i := 331) (by decide +kernel)⟩
theorem lw_p8 : lw_okq (⟨"ProgressBilling", "requireApplication", "(I)V"⟩, 15) := ⟨⟨by decide +kernel, by decide +kernel⟩, List.mem_of_getElem? (i := 11) (by decide +kernel), List.mem_of_getElem? (i := 341) (by decide +kernel), List.mem_of_getElem? (i := 342) (by decide +kernel)⟩
theorem lw_p9 : lw_okq (⟨"ProgressBilling", "waiversGiven", "()I"⟩, 15) := ⟨⟨by decide +kernel, by decide +kernel⟩, List.mem_of_getElem? (i := 11) (by decide +kernel), List.mem_of_getElem? (i := 347) (by decide +kernel), List.mem_of_getElem? (i := 348) (by decide +kernel)⟩
theorem lw_p10 : lw_okq (⟨"ProgressBilling", "placeByShare", "(I)I"⟩, 15) := ⟨⟨by decide +kernel, by decide +kernel⟩, List.mem_of_getElem? (i := 11) (by decide +kernel), List.mem_of_getElem? (i := 430) (by decide +kernel), List.mem_of_getElem? (i := 431) (by decide +kernel)⟩
theorem lw_p11 : lw_okq (⟨"ProgressBilling", "isAhead", "(II)Z"⟩, 15) := ⟨⟨by decide +kernel, by decide +kernel⟩, List.mem_of_getElem? (i := 11) (by decide +kernel), List.mem_of_getElem? (i := 434) (by decide +kernel), List.mem_of_getElem? (i := 435) (by decide +kernel)⟩
theorem lw_p12 : lw_okq (⟨"ProgressBilling", "shareDivisor", "(I)I"⟩, 15) := ⟨⟨by decide +kernel, by decide +kernel⟩, List.mem_of_getElem? (i := 11) (by decide +kernel), List.mem_of_getElem? (i := 438) (by decide +kernel), List.mem_of_getElem? (i := 439) (by decide +kernel)⟩
theorem lw_p13 : lw_okq (⟨"ProgressBillingModel", "refused", "(I)Z"⟩, 14) := ⟨⟨by decide +kernel, by decide +kernel⟩, List.mem_of_getElem? (i := 445) (by decide +kernel), List.mem_of_getElem? (i := 506) (by decide +kernel), List.mem_of_getElem? (i := 507) (by decide +kernel)⟩
theorem lw_p14 : lw_okq (⟨"ProgressBillingModel", "put", "(IIIIII)V"⟩, 14) := ⟨⟨by decide +kernel, by decide +kernel⟩, List.mem_of_getElem? (i := 445) (by decide +kernel), List.mem_of_getElem? (i := 510) (by decide +kernel), List.mem_of_getElem? (i := 511) (by decide +kernel)⟩
theorem lw_p15 : lw_okq (⟨"ProgressBillingModel", "isLine", "(I)Z"⟩, 14) := ⟨⟨by decide +kernel, by decide +kernel⟩, List.mem_of_getElem? (i := 445) (by decide +kernel), List.mem_of_getElem? (i := 518) (by decide +kernel), List.mem_of_getElem? (i := 519) (by decide +kernel)⟩
def lw_privs_1 : List (MethodName × Nat) := [(⟨"ProgressBilling", "heldIfClosed", "(II)I"⟩, 15), (⟨"java/lang/Throwable", "fillInStackTrace", "(I)Ljava/lang/Throwable;"⟩, 6), (⟨"ProgressBilling", "requireRoomForLine", "()V"⟩, 15), (⟨"ProgressBilling", "requireLine", "(I)V"⟩, 15), (⟨"ProgressBilling", "requireValueFor", "(II)V"⟩, 15), (⟨"ProgressBilling", "stepWith", "(I)I"⟩, 15), (⟨"ProgressBilling", "addStep", "(II)V"⟩, 15), (⟨"ProgressBilling", "billLines", "()V"⟩, 15), (⟨"ProgressBilling", "requireApplication", "(I)V"⟩, 15), (⟨"ProgressBilling", "waiversGiven", "()I"⟩, 15), (⟨"ProgressBilling", "placeByShare", "(I)I"⟩, 15), (⟨"ProgressBilling", "isAhead", "(II)Z"⟩, 15), (⟨"ProgressBilling", "shareDivisor", "(I)I"⟩, 15), (⟨"ProgressBillingModel", "refused", "(I)Z"⟩, 14), (⟨"ProgressBillingModel", "put", "(IIIIII)V"⟩, 14), (⟨"ProgressBillingModel", "isLine", "(I)Z"⟩, 14)]
theorem lw_r1 : ∀ q ∈ lw_privs_1, lw_okq q := List.forall_mem_cons.mpr ⟨lw_p0, List.forall_mem_cons.mpr ⟨lw_p1, List.forall_mem_cons.mpr ⟨lw_p2, List.forall_mem_cons.mpr ⟨lw_p3, List.forall_mem_cons.mpr ⟨lw_p4, List.forall_mem_cons.mpr ⟨lw_p5, List.forall_mem_cons.mpr ⟨lw_p6, List.forall_mem_cons.mpr ⟨lw_p7, List.forall_mem_cons.mpr ⟨lw_p8, List.forall_mem_cons.mpr ⟨lw_p9, List.forall_mem_cons.mpr ⟨lw_p10, List.forall_mem_cons.mpr ⟨lw_p11, List.forall_mem_cons.mpr ⟨lw_p12, List.forall_mem_cons.mpr ⟨lw_p13, List.forall_mem_cons.mpr ⟨lw_p14, List.forall_mem_cons.mpr ⟨lw_p15, fun _ h => absurd h List.not_mem_nil⟩⟩⟩⟩⟩⟩⟩⟩⟩⟩⟩⟩⟩⟩⟩⟩
theorem lw_p16 : lw_okq (⟨"ProgressBillingModel", "countSteps", "()I"⟩, 14) := ⟨⟨by decide +kernel, by decide +kernel⟩, List.mem_of_getElem? (i := 445) (by decide +kernel), List.mem_of_getElem? (i := 550) (by decide +kernel), List.mem_of_getElem? (i := 551) (by decide +kernel)⟩
theorem lw_p17 : lw_okq (⟨"ProgressBillingModel", "fine", "(I)I"⟩, 14) := ⟨⟨by decide +kernel, by decide +kernel⟩, List.mem_of_getElem? (i := 445) (by decide +kernel), List.mem_of_getElem? (i := 566) (by decide +kernel), List.mem_of_getElem? (i := 567) (by decide +kernel)⟩
theorem lw_p18 : lw_okq (⟨"ProgressBillingModel", "reached", "()I"⟩, 14) := ⟨⟨by decide +kernel, by decide +kernel⟩, List.mem_of_getElem? (i := 445) (by decide +kernel), List.mem_of_getElem? (i := 574) (by decide +kernel), List.mem_of_getElem? (i := 575) (by decide +kernel)⟩
theorem lw_p19 : lw_okq (⟨"ProgressBillingModel", "sum", "([I)I"⟩, 14) := ⟨⟨by decide +kernel, by decide +kernel⟩, List.mem_of_getElem? (i := 445) (by decide +kernel), List.mem_of_getElem? (i := 578) (by decide +kernel), List.mem_of_getElem? (i := 579) (by decide +kernel)⟩
theorem lw_p20 : lw_okq (⟨"ProgressBillingModel", "rateNow", "()I"⟩, 14) := ⟨⟨by decide +kernel, by decide +kernel⟩, List.mem_of_getElem? (i := 445) (by decide +kernel), List.mem_of_getElem? (i := 586) (by decide +kernel), List.mem_of_getElem? (i := 587) (by decide +kernel)⟩
theorem lw_p21 : lw_okq (⟨"ProgressBillingModel", "amountNow", "()I"⟩, 14) := ⟨⟨by decide +kernel, by decide +kernel⟩, List.mem_of_getElem? (i := 445) (by decide +kernel), List.mem_of_getElem? (i := 594) (by decide +kernel), List.mem_of_getElem? (i := 595) (by decide +kernel)⟩
theorem lw_p22 : lw_okq (⟨"ProgressBillingModel", "holdsThen", "(I)I"⟩, 14) := ⟨⟨by decide +kernel, by decide +kernel⟩, List.mem_of_getElem? (i := 445) (by decide +kernel), List.mem_of_getElem? (i := 598) (by decide +kernel), List.mem_of_getElem? (i := 599) (by decide +kernel)⟩
theorem lw_p23 : lw_okq (⟨"ProgressBillingModel", "isApplication", "(I)Z"⟩, 14) := ⟨⟨by decide +kernel, by decide +kernel⟩, List.mem_of_getElem? (i := 445) (by decide +kernel), List.mem_of_getElem? (i := 610) (by decide +kernel), List.mem_of_getElem? (i := 611) (by decide +kernel)⟩
theorem lw_p24 : lw_okq (⟨"ProgressBillingModel", "waived", "()I"⟩, 14) := ⟨⟨by decide +kernel, by decide +kernel⟩, List.mem_of_getElem? (i := 445) (by decide +kernel), List.mem_of_getElem? (i := 614) (by decide +kernel), List.mem_of_getElem? (i := 615) (by decide +kernel)⟩
theorem lw_p25 : lw_okq (⟨"ProgressBillingModel", "told", "(I[I)I"⟩, 14) := ⟨⟨by decide +kernel, by decide +kernel⟩, List.mem_of_getElem? (i := 445) (by decide +kernel), List.mem_of_getElem? (i := 630) (by decide +kernel), List.mem_of_getElem? (i := 631) (by decide +kernel)⟩
theorem lw_p26 : lw_okq (⟨"ProgressBillingModel", "noLine", "(I)Z"⟩, 14) := ⟨⟨by decide +kernel, by decide +kernel⟩, List.mem_of_getElem? (i := 445) (by decide +kernel), List.mem_of_getElem? (i := 654) (by decide +kernel), List.mem_of_getElem? (i := 655) (by decide +kernel)⟩
theorem lw_p27 : lw_okq (⟨"ProgressBillingModel", "isAhead", "(II)Z"⟩, 14) := ⟨⟨by decide +kernel, by decide +kernel⟩, List.mem_of_getElem? (i := 445) (by decide +kernel), List.mem_of_getElem? (i := 678) (by decide +kernel), List.mem_of_getElem? (i := 679) (by decide +kernel)⟩
theorem lw_p28 : lw_okq (⟨"ProgressBillingModel", "sumPaid", "()I"⟩, 14) := ⟨⟨by decide +kernel, by decide +kernel⟩, List.mem_of_getElem? (i := 445) (by decide +kernel), List.mem_of_getElem? (i := 690) (by decide +kernel), List.mem_of_getElem? (i := 691) (by decide +kernel)⟩
def lw_privs_2 : List (MethodName × Nat) := [(⟨"ProgressBillingModel", "countSteps", "()I"⟩, 14), (⟨"ProgressBillingModel", "fine", "(I)I"⟩, 14), (⟨"ProgressBillingModel", "reached", "()I"⟩, 14), (⟨"ProgressBillingModel", "sum", "([I)I"⟩, 14), (⟨"ProgressBillingModel", "rateNow", "()I"⟩, 14), (⟨"ProgressBillingModel", "amountNow", "()I"⟩, 14), (⟨"ProgressBillingModel", "holdsThen", "(I)I"⟩, 14), (⟨"ProgressBillingModel", "isApplication", "(I)Z"⟩, 14), (⟨"ProgressBillingModel", "waived", "()I"⟩, 14), (⟨"ProgressBillingModel", "told", "(I[I)I"⟩, 14), (⟨"ProgressBillingModel", "noLine", "(I)Z"⟩, 14), (⟨"ProgressBillingModel", "isAhead", "(II)Z"⟩, 14), (⟨"ProgressBillingModel", "sumPaid", "()I"⟩, 14)]
theorem lw_r2 : ∀ q ∈ lw_privs_2, lw_okq q := List.forall_mem_cons.mpr ⟨lw_p16, List.forall_mem_cons.mpr ⟨lw_p17, List.forall_mem_cons.mpr ⟨lw_p18, List.forall_mem_cons.mpr ⟨lw_p19, List.forall_mem_cons.mpr ⟨lw_p20, List.forall_mem_cons.mpr ⟨lw_p21, List.forall_mem_cons.mpr ⟨lw_p22, List.forall_mem_cons.mpr ⟨lw_p23, List.forall_mem_cons.mpr ⟨lw_p24, List.forall_mem_cons.mpr ⟨lw_p25, List.forall_mem_cons.mpr ⟨lw_p26, List.forall_mem_cons.mpr ⟨lw_p27, List.forall_mem_cons.mpr ⟨lw_p28, fun _ h => absurd h List.not_mem_nil⟩⟩⟩⟩⟩⟩⟩⟩⟩⟩⟩⟩⟩
def lw_privs : List (MethodName × Nat) := lw_privs_1 ++ (lw_privs_2)
def lw_tbl : List Cond := k2_sels lw_privs ++ tables_1
theorem lw_privs_ok : ∀ q ∈ lw_privs, lw_okq q := by
  show ∀ q ∈ lw_privs_1 ++ (lw_privs_2), lw_okq q
  exact List.forall_mem_append.mpr ⟨lw_r1, lw_r2⟩
/-! ===== BEGIN words of one list among another's, by their places ===== -/
theorem goodIn_r {big : List Cond} (ws : List Cond) (ps : List Nat) (hp : ws = ps.filterMap (fun i => big[i]?)) (h : ws.all goodWord = true) : GoodIn big ws := by
  intro w hw
  have h1 := List.all_eq_true.mp h w hw
  rw [hp] at hw
  obtain ⟨i, -, hi⟩ := List.mem_filterMap.mp hw
  have hm : w ∈ big := by first | exact List.mem_of_getElem? hi | exact List.getElem?_mem hi
  exact ⟨hm, good_of_word h1⟩
theorem goodIn_app {big a b : List Cond} (ha : GoodIn big a) (hb : GoodIn big b) : GoodIn big (a ++ b) := fun w h => (List.mem_append.mp h).elim (ha w) (hb w)
theorem goodIn_ca {big a b : List Cond} {c : Cond} (ha : GoodIn big (c :: a)) (hb : GoodIn big b) : GoodIn big (c :: (a ++ b)) := fun w h => (List.mem_cons.mp h).elim (fun e => ha w (List.mem_cons.mpr (Or.inl e))) (fun h => (List.mem_append.mp h).elim (fun h => ha w (List.mem_cons.mpr (Or.inr h))) (hb w))
theorem goodIn_sub {big ws : List Cond} (hm : ∀ w ∈ ws, w ∈ big) (h : ws.all goodWord = true) : GoodIn big ws := fun w hw => ⟨hm w hw, good_of_word (List.all_eq_true.mp h w hw)⟩
/-! ===== END ===== -/

/-! ===== BEGIN exceptions that leave a method, and their catching by the caller (launches without stack traces) ===== -/
section VXA
/-! The laws vx_back, vx_callV, vx_callS, vx_callSW, vx_throw0, vx_throwS follow proofs of the library, with one case more: JvmDerived/Free/Laws.lean (Back.of_free), Shelf42/LK1.lean (callV, callS), Shelf/KitTraced.lean (throwNew0V, throwNewS). -/
/-- where a method has thrown q: the class by its name, the cell, what was written, the world -/
def vx_T (XC : String → State → State → Prop) (st : State) (q : Addr) (t : State) (mc ms : Nat) (free : Addr → Prop) : Prop :=
  ∃ (E : String) (ce : Cell) (L : List Loc), XC E st t ∧ t.heap[q]? = some ce ∧ ce.vm = .none ∧ st.vm.findClass E = some ce.cls ∧ st.WarmedH t.vm ∧ st.sameButNew ({ t with vm := st.vm } : State) L mc ms ∧ ∀ z ∈ L, free z.base
def vx_Q (Qc : Array Value → State → Outcome → State → Prop) (XC : String → State → State → Prop) (mc ms : Nat) (free : Addr → Prop) : Array Value → State → Outcome → State → Prop := fun a st o t =>
  (Qc a st o t ∧ ∃ L, FrameEnd st o t L mc ms ∧ ∀ q ∈ L, free q.base) ∨ ∃ q, o = .threw q ∧ vx_T XC st q t mc ms free
/-- a callee that returns or throws -/
def vx_Met (l : Launch) (y : MethodName) (ws : List Cond) (rm : Room) (Pc : Array Value → State → Prop) (Qc : Array Value → State → Outcome → State → Prop) (XC : String → State → State → Prop) (mc ms : Nat) (free : Addr → Prop) : Prop :=
  MetFree l y (headSpec ws rm) Pc (fun _ _ _ _ _ => True) (vx_Q Qc XC mc ms free)
def vx_Post (XC : String → State → State → Prop) (mc ms : Nat) (free : Addr → Prop) : Pt → Array Value → Addr → Pt → Prop := fun A a q B =>
  ∃ (g : JFrame) (mk : MethodId) (t : State) (L : List Loc) (E : String) (ce : Cell), B.U.heap = t.heap ∧ B.U.vm = t.vm ∧ XC E (A.U.calling g mk a) t ∧ t.heap[q]? = some ce ∧ ce.vm = .none ∧ A.U.vm.findClass E = some ce.cls ∧ B.locs = A.locs ++ L ∧ (∀ z ∈ L, free z.base) ∧ B.cells = A.cells + mc ∧ B.slots = A.slots + ms
def vx_Back (l : Launch) (R : Room) (p : Program) (e : Env) (below : List Frame) (s : State) (sargs : Array Value) (y : MethodName) (len W9 : Nat)
    (Pre : Pt → Array Value → Prop) (Post : Pt → Array Value → Option Value → Pt → Prop) (PostX : Pt → Array Value → Addr → Pt → Prop) : Prop :=
  ∀ (m : MethodId) (meth : Method) (c : Code) (A : Pt) (g : JFrame) (ig : Instr) (mk : MethodId) (a : Array Value),
    Stand p l e R s m sargs below meth c A.U A.locs A.cells A.slots → g.method = m → g.locals.size = c.maxLocals → decode c.code g.pc = .ok (ig, len) →
    2 * g.monitorRoom + (g.stack.map fun v => v.category).sum ≤ W9 → A.U.methodNamed? y = some mk → Pre A a →
    (∃ (v : Option Value) (B : Pt), Stand p l e R s m sargs below meth c B.U B.locs B.cells B.slots ∧ Post A a v B ∧
      Steps p.tables e below (doInvoke e (A.U.setTop g) [] mk a).1 (B.U.setTop { g with pc := g.pc + len, stack := v.toList ++ g.stack })) ∨
    (∃ (q : Addr) (B : Pt), Stand p l e R s m sargs below meth c B.U B.locs B.cells B.slots ∧ PostX A a q B ∧
      Steps p.tables e below (doInvoke e (A.U.setTop g) [] mk a).1 ((B.U.setTop g).pushFrame (.throwing q)))
section Payer
variable {l : Launch} {R : Room} {p : Program} {e : Env} {below : List Frame} {s : State} {sargs : Array Value} {y : MethodName} {len W9 : Nat}
theorem vx_back {ws : List Cond} {rm : Room} {Pc : Array Value → State → Prop} {Qc : Array Value → State → Outcome → State → Prop} {XC : String → State → State → Prop} {mc ms : Nat} {free : Addr → Prop} {bytes : ByteArray} {maxL : Nat} {ret : Option FieldType}
    (hM : vx_Met l y ws rm Pc Qc XC mc ms free) (hblind : FrameBlind Pc) (hrc : rm.cells = mc) (hrs : rm.slots = ms)
    (hframes : rm.frames + 1 ≤ R.frames) (hlocals : W9 + (maxL + 11) + rm.locals ≤ R.locals)
    (hws : ∀ w ∈ ws, ∀ a' U, s.WarmedH U.vm → w.before a' U = true) (hcode : Cond.code y bytes maxL ret ∈ ws) (hinit : ∀ a' U, s.WarmedH U.vm → (Cond.initialized y.cls).before a' U = true) :
    vx_Back l R p e below s sargs y len W9 (PreOf R mc ms Pc) (PostOf Qc mc ms free) (vx_Post XC mc ms free) := by
  intro m meth c A g ig mk a X hg hsize hdg hW hn hp
  have h1 : (headSpec ws rm).pre.before a A.U = true := atoms_intro fun w hw => hws w hw _ _ X.warmed
  have h2 : (Cond.code y bytes maxL ret).before a A.U = true := hws _ hcode _ _ X.warmed
  have h3 : (Cond.initialized y.cls).before a A.U = true := hinit _ _ X.warmed
  have h4 : A.cells + (headSpec ws rm).room.cells ≤ R.cells := by rw [show (headSpec ws rm).room.cells = mc from hrc]; exact hp.1
  have h5 : A.slots + (headSpec ws rm).room.slots ≤ R.slots := by rw [show (headSpec ws rm).room.slots = ms from hrs]; exact hp.2.1
  have hPc : Pc a (A.U.calling g mk a) := hblind _ _ _ _ hp.2.2
  obtain ⟨U, Ls, c0, s0⟩ := A
  dsimp only [Pt.U, Pt.locs, Pt.cells, Pt.slots] at h1 h2 h3 h4 h5 X hn hPc ⊢
  obtain ⟨methY, cY, hmY, hcY, -, hlY, -, -, -, -⟩ := Cond.code_spec hn h2
  obtain ⟨kY, hkY, -⟩ := className_of_methodNamed hn
  have hinitY : kY.init = .initialized := Cond.initialized_spec (findClass_of_methodNamed hn) hkY h3
  have h : At U g.method c below := by rw [hg]; exact X.here
  have hlocals9 : W9 + (maxL + 11) + (headSpec ws rm).room.locals ≤ R.locals := hlocals
  have happ : (headSpec ws rm).appliesLoose y e.platform (U.calling g mk a) = true :=
    Spec.appliesLoose_calling (g := g) h hdg hn hkY hinitY
      (X.room_calling (g := g) (R' := (headSpec ws rm).room) hsize hmY hcY hframes (by rw [hlY]; omega) h4 h5) h1
  obtain ⟨mid, hmid⟩ := h.above
  have hfr : (U.setTop g).frames = (.java g :: mid) ++ below := by rw [State.frames_setTop' g h.top, hmid]; rfl
  obtain ⟨o, s₂, hsteps, -, hend, hq⟩ := Steps.callFree hM p X.admits X.cas X.clock (acts := []) hfr happ hPc trivial
  have hq' : vx_Q Qc XC mc ms free a (U.calling g mk a) o s₂ := hq
  rw [State.frames_setTop' g h.top] at hend
  obtain ⟨g₀, hg0⟩ := Option.isSome_iff_exists.mp h.top
  obtain ⟨r, hr⟩ := State.topJava?_eq_some.mp hg0
  have hr' : (({ U with heap := s₂.heap, slotsUsed := s₂.slotsUsed } : State).setVm s₂.vm).frames = .java g₀ :: r := hr
  rcases hq' with ⟨hqc, L, hfe, hL⟩ | ⟨q, rfl, E, ce, L, hx, hce, hcv, hcl, hW₂, hsm, hL⟩
  · obtain ⟨⟨v, rfl⟩, hW₂, e2, q2, q3, q4, q5, q6⟩ := id hfe
    have e3 : s₂ = ({ (U.calling g mk a).setFrames s₂.frames with heap := s₂.heap, slotsUsed := s₂.slotsUsed } : State).setVm s₂.vm := by
      have : s₂ = ({ s₂ with vm := (U.calling g mk a).vm } : State).setVm s₂.vm := rfl
      rw [e2] at this
      exact this
    obtain ⟨c₂, i₂, len₂, hc₂, hd₂, hf₂⟩ := hend
    have hW' : U.WarmedH s₂.vm := hW₂
    have hcc : c₂ = c := by
      have h1 : s₂.code? g.method = U.code? g.method := by
        rw [State.code?_eq, State.code?_eq, hW'.alike.method?]
      exact Option.some.inj (hc₂.symm.trans (h1.trans h.code))
    subst hcc
    have hlen : len₂ = len := by rw [hdg] at hd₂; cases hd₂; rfl
    subst hlen
    have hs₂ : s₂ = (({ U with heap := s₂.heap, slotsUsed := s₂.slotsUsed } : State).setVm s₂.vm).setTop { g with pc := g.pc + len₂, stack := v.toList ++ g.stack } := by
      refine e3.trans ?_
      rw [hf₂, State.calling_eq h.top, State.setFrames_setFrames, State.setTop_of_frames _ hr', hr]
      rfl
    have hsame : U.sameButNew ({ U with heap := s₂.heap, slotsUsed := s₂.slotsUsed } : State) L mc ms := by
      refine ⟨?_, q2, q3, q4, q5, q6⟩
      obtain ⟨t, ht, -⟩ := State.frames_cons hr
      show ({ U with heap := s₂.heap, slotsUsed := s₂.slotsUsed } : State) = { U.setFrames U.frames with heap := s₂.heap, slotsUsed := s₂.slotsUsed }
      rw [State.setFrames_self ht]
    subst hg
    refine Or.inl ⟨v, ⟨(({ U with heap := s₂.heap, slotsUsed := s₂.slotsUsed } : State).setVm s₂.vm), Ls ++ L, c0 + mc, s0 + ms⟩,
      ⟨X.admits, X.cas, X.clock, X.frames, X.room, X.hears, X.method, X.code, (X.here.setHeapUsed s₂.heap s₂.slotsUsed).setVm hW'.alike, X.tail, State.WarmedH.trans X.warmed hW', X.limits, X.bytes, X.same.trans (hsame.setVm s.vm)⟩,
      ⟨g, mk, s₂, L, rfl, rfl, hqc, rfl, hL, rfl, rfl⟩, ?_⟩
    show Steps p.tables e below _ ((({ U with heap := s₂.heap, slotsUsed := s₂.slotsUsed } : State).setVm s₂.vm).setTop { g with pc := g.pc + len₂, stack := v.toList ++ g.stack })
    rw [← hs₂]
    exact hsteps
  · obtain ⟨e2, q2, q3, q4, q5, q6⟩ := id hsm
    have e3 : s₂ = ({ (U.calling g mk a).setFrames s₂.frames with heap := s₂.heap, slotsUsed := s₂.slotsUsed } : State).setVm s₂.vm := by
      have : s₂ = ({ s₂ with vm := (U.calling g mk a).vm } : State).setVm s₂.vm := rfl
      rw [e2] at this
      exact this
    have hf₂ : s₂.frames = .throwing q :: .java g :: U.frames.tail := hend
    have hW' : U.WarmedH s₂.vm := hW₂
    have hs₂ : s₂ = ((({ U with heap := s₂.heap, slotsUsed := s₂.slotsUsed } : State).setVm s₂.vm).setTop g).pushFrame (.throwing q) := by
      refine e3.trans ?_
      rw [hf₂, State.calling_eq h.top, State.setFrames_setFrames, State.pushFrame, State.frames_setTop _ hr', State.setTop_of_frames _ hr', State.setFrames_setFrames, hr]
      rfl
    have hsame : U.sameButNew ({ U with heap := s₂.heap, slotsUsed := s₂.slotsUsed } : State) L mc ms := by
      refine ⟨?_, q2, q3, q4, q5, q6⟩
      obtain ⟨t, ht, -⟩ := State.frames_cons hr
      show ({ U with heap := s₂.heap, slotsUsed := s₂.slotsUsed } : State) = { U.setFrames U.frames with heap := s₂.heap, slotsUsed := s₂.slotsUsed }
      rw [State.setFrames_self ht]
    subst hg
    refine Or.inr ⟨q, ⟨(({ U with heap := s₂.heap, slotsUsed := s₂.slotsUsed } : State).setVm s₂.vm), Ls ++ L, c0 + mc, s0 + ms⟩,
      ⟨X.admits, X.cas, X.clock, X.frames, X.room, X.hears, X.method, X.code, (X.here.setHeapUsed s₂.heap s₂.slotsUsed).setVm hW'.alike, X.tail, State.WarmedH.trans X.warmed hW', X.limits, X.bytes, X.same.trans (hsame.setVm s.vm)⟩,
      ⟨g, mk, s₂, L, E, ce, rfl, rfl, hx, hce, hcv, hcl, rfl, hL, rfl, rfl⟩, ?_⟩
    show Steps p.tables e below _ (((({ U with heap := s₂.heap, slotsUsed := s₂.slotsUsed } : State).setVm s₂.vm).setTop g).pushFrame (.throwing q))
    rw [← hs₂]
    exact hsteps
end Payer
section Calls
variable {p : Program} {l : Launch} {e : Env} {R : Room} {s : State} {m : MethodId} {args : Array Value} {below : List Frame} {meth : Method} {c : Code} {T : State} {locs : List Loc} {cells slots : Nat}
theorem vx_callV (X : Stand p l e R s m args below meth c T locs cells slots) (hexec : p.tables.exec = Jvm.exec) {own C : String} {index : Nat} {y : MethodName} {bytes : ByteArray} {maxL : Nat} {ret : Option FieldType}
    (hown : s.vm.findClass own = some m.cls) (hlink : (Cond.methodLink own index y).before args s = true) (hinst : (Cond.instanceMethod y).before args s = true) (hsel : (Cond.selects C y y).before args s = true)
    (hcode : (Cond.code y bytes maxL ret).before args s = true) (hy : y.cls ≠ "java/lang/invoke/MethodHandle" ∧ y.cls ≠ "java/lang/invoke/VarHandle")
    {W9 : Nat} {Pre : Pt → Array Value → Prop} {Post : Pt → Array Value → Option Value → Pt → Prop} {PostX : Pt → Array Value → Addr → Pt → Prop} (hK : vx_Back l R p e below s args y 3 W9 Pre Post PostX)
    {b : Addr} {cellB : Cell} (hcell : T.heap[b]? = some cellB) (hobj : cellB.vm.isStatics = false) (hcls : s.vm.findClass C = some cellB.cls)
    {g : JFrame} (hg : g.method = m) (hsize : g.locals.size = c.maxLocals) {argsL rest : List Value} (hlen : ∀ sig, parseMethodDescriptor y.desc = some sig → argsL.length = sig.parameters.length)
    (hstack : g.stack = argsL.reverse ++ .ref b :: rest) (hW : 2 * g.monitorRoom + (rest.map fun v => v.category).sum ≤ W9) (hdg : decode c.code g.pc = .ok (.invokevirtual index, 3))
    (hpre : ∀ vm₁, s.WarmedH vm₁ → Pre ⟨T.setVm vm₁, locs, cells, slots⟩ (Value.ref b :: argsL).toArray) :
    (∃ (v : Option Value) (vm₁ : Vm) (B : Pt), s.WarmedH vm₁ ∧ Stand p l e R s m args below meth c B.U B.locs B.cells B.slots ∧ Post ⟨T.setVm vm₁, locs, cells, slots⟩ (Value.ref b :: argsL).toArray v B ∧
      ∀ target, Steps p.tables e below (B.U.setTop { g with pc := g.pc + 3, stack := v.toList ++ rest }) target → Steps p.tables e below (T.setTop g) target) ∨
    (∃ (q : Addr) (vm₁ : Vm) (B : Pt), s.WarmedH vm₁ ∧ Stand p l e R s m args below meth c B.U B.locs B.cells B.slots ∧ PostX ⟨T.setVm vm₁, locs, cells, slots⟩ (Value.ref b :: argsL).toArray q B ∧
      Steps p.tables e below (T.setTop g) ((B.U.setTop { g with stack := rest }).pushFrame (.throwing q))) := by
  obtain ⟨mk, methM, hnamed, hmethM, hstM, habM⟩ := Cond.instanceMethod_spec hinst
  obtain ⟨methM', cM, hmethM', -, -, -, -, -, -, hsigM⟩ := Cond.code_spec hnamed hcode
  cases hmethM.symm.trans hmethM'
  obtain ⟨c2, r2, m2, q1, q2, q3, q4, kP, hkP, hkPi⟩ := Cond.selects_spec hsel
  cases hcls.symm.trans q1
  cases (State.methodFound?_of_named hnamed hy).symm.trans q2
  cases hnamed.symm.trans q3
  have hselP : selectMethod e.platform s.vm cellB.cls mk = .method mk := by rw [Launch.admits_selectMethod X.admits]; exact q4
  obtain ⟨vm₁, X₁, hstep₁⟩ := X.invokevirtual hexec hown hlink hnamed hmethM hstM hkP hkPi hy (a := b) (cell := cellB) hcell
    (fun z h => by rw [h] at hobj; cases hobj) hselP hmethM habM hkP hkPi (g := g) hg (argsL := argsL) (rest := rest) (hlen _ hsigM) hstack hdg
  rcases hK m meth c ⟨T.setVm vm₁, locs, cells, slots⟩ { g with stack := rest } (.invokevirtual index) mk (Value.ref b :: argsL).toArray X₁ hg hsize hdg hW (X₁.named hnamed) (hpre vm₁ X₁.warmed) with ⟨v, B, X', hpost, hsteps⟩ | ⟨q, B, X', hpost, hsteps⟩
  · exact Or.inl ⟨v, vm₁, B, X₁.warmed, X', hpost, fun target h => hstep₁ _ fun acts => by rw [doInvoke_state]; exact hsteps.trans h⟩
  · exact Or.inr ⟨q, vm₁, B, X₁.warmed, X', hpost, hstep₁ _ fun acts => by rw [doInvoke_state]; exact hsteps⟩
theorem vx_callS (X : Stand p l e R s m args below meth c T locs cells slots) (hexec : p.tables.exec = Jvm.exec) {own : String} {index : Nat} {y : MethodName} {bytes : ByteArray} {maxL : Nat} {ret : Option FieldType}
    (hown : s.vm.findClass own = some m.cls) (hlink : (Cond.methodLink own index y).before args s = true) (hstat : (Cond.static y).before args s = true) (hinit : (Cond.initialized y.cls).before args s = true)
    (hcode : (Cond.code y bytes maxL ret).before args s = true) (hy : y.cls ≠ "java/lang/invoke/MethodHandle" ∧ y.cls ≠ "java/lang/invoke/VarHandle")
    {W9 : Nat} {Pre : Pt → Array Value → Prop} {Post : Pt → Array Value → Option Value → Pt → Prop} {PostX : Pt → Array Value → Addr → Pt → Prop} (hK : vx_Back l R p e below s args y 3 W9 Pre Post PostX)
    {g : JFrame} (hg : g.method = m) (hsize : g.locals.size = c.maxLocals) {argsL rest : List Value} (hlen : ∀ sig, parseMethodDescriptor y.desc = some sig → argsL.length = sig.parameters.length)
    (hstack : g.stack = argsL.reverse ++ rest) (hW : 2 * g.monitorRoom + (rest.map fun v => v.category).sum ≤ W9) (hdg : decode c.code g.pc = .ok (.invokestatic index, 3))
    (hpre : ∀ vm₁, s.WarmedH vm₁ → Pre ⟨T.setVm vm₁, locs, cells, slots⟩ argsL.toArray) :
    (∃ (v : Option Value) (vm₁ : Vm) (B : Pt), s.WarmedH vm₁ ∧ Stand p l e R s m args below meth c B.U B.locs B.cells B.slots ∧ Post ⟨T.setVm vm₁, locs, cells, slots⟩ argsL.toArray v B ∧
      ∀ target, Steps p.tables e below (B.U.setTop { g with pc := g.pc + 3, stack := v.toList ++ rest }) target → Steps p.tables e below (T.setTop g) target) ∨
    (∃ (q : Addr) (vm₁ : Vm) (B : Pt), s.WarmedH vm₁ ∧ Stand p l e R s m args below meth c B.U B.locs B.cells B.slots ∧ PostX ⟨T.setVm vm₁, locs, cells, slots⟩ argsL.toArray q B ∧
      Steps p.tables e below (T.setTop g) ((B.U.setTop { g with stack := rest }).pushFrame (.throwing q))) := by
  obtain ⟨mk, hnamed⟩ := Cond.code_named hcode
  obtain ⟨methM, cM, hmethM, -, -, -, -, -, -, hsigM⟩ := Cond.code_spec hnamed hcode
  have hstatic : methM.isStatic = true := Cond.static_spec hnamed hmethM hstat
  obtain ⟨kP, hkP, -⟩ := className_of_methodNamed hnamed
  have hinitP : kP.init = .initialized := Cond.initialized_spec (findClass_of_methodNamed hnamed) hkP hinit
  obtain ⟨vm₁, X₁, hstep₁⟩ := X.invokestatic hexec hown hlink hnamed hmethM hstatic hkP hinitP hy (g := g) hg (argsL := argsL) (rest := rest) (hlen _ hsigM) hstack hdg
  rcases hK m meth c ⟨T.setVm vm₁, locs, cells, slots⟩ { g with stack := rest } (.invokestatic index) mk argsL.toArray X₁ hg hsize hdg hW (X₁.named hnamed) (hpre vm₁ X₁.warmed) with ⟨v, B, X', hpost, hsteps⟩ | ⟨q, B, X', hpost, hsteps⟩
  · exact Or.inl ⟨v, vm₁, B, X₁.warmed, X', hpost, fun target h => hstep₁ _ fun acts => by rw [doInvoke_state]; exact hsteps.trans h⟩
  · exact Or.inr ⟨q, vm₁, B, X₁.warmed, X', hpost, hstep₁ _ fun acts => by rw [doInvoke_state]; exact hsteps⟩
end Calls
theorem vx_cls {s : State} {T : State} {vm₁ : Vm} {E : String} {k : ClassId} (hW : s.WarmedH vm₁) (h : (T.setVm vm₁).vm.findClass E = some k) : s.vm.findClass E = some k := by
  have h1 : vm₁.findClass E = some k := h
  rw [hW.alike.findClass] at h1
  exact h1
/-- the method's frame g, with q thrown over it -/
def vx_W (p : Program) (l : Launch) (e : Env) (R : Room) (s : State) (m : MethodId) (args : Array Value) (below : List Frame) (meth : Method) (c : Code) (H : Heap) (locs : List Loc) (cells slots : Nat) (Q : State → Prop) (g : JFrame) (q : Addr) : Prop :=
  ∀ T : State, T.heap = H → Stand p l e R s m args below meth c T locs cells slots → ∃ t, Steps p.tables e below ((T.setTop g).pushFrame (.throwing q)) t ∧ Q t
def vx_Run (p : Program) (l : Launch) (e : Env) (R : Room) (s : State) (m : MethodId) (args : Array Value) (below : List Frame) (meth : Method) (c : Code) (H : Heap) (locs : List Loc) (cells slots mc ms : Nat) (g : JFrame) (rest : List Value) (Qa : State → Outcome → State → Prop) (XC : String → State → State → Prop) (free : Addr → Prop) : Prop :=
  ∀ T : State, T.heap = H → Stand p l e R s m args below meth c T locs cells slots →
    (∃ (v : Option Value) (st₀ t T' : State) (L : List Loc), st₀.heap = H ∧ Stand p l e R s m args below meth c T' (locs ++ L) (cells + mc) (slots + ms) ∧ (∀ q ∈ L, free q.base) ∧ T'.heap = t.heap ∧ T'.vm = t.vm ∧ Qa st₀ (.returned v) t ∧
      Goes p e below T g T' { g with pc := g.pc + 3, stack := v.toList ++ rest }) ∨
    (∃ (q : Addr) (st₀ t T' : State) (L : List Loc) (E : String) (ce : Cell), st₀.heap = H ∧ Stand p l e R s m args below meth c T' (locs ++ L) (cells + mc) (slots + ms) ∧ (∀ z ∈ L, free z.base) ∧ T'.heap = t.heap ∧ T'.vm = t.vm ∧ XC E st₀ t ∧ t.heap[q]? = some ce ∧ ce.vm = .none ∧ s.vm.findClass E = some ce.cls ∧
      Steps p.tables e below (T.setTop g) ((T'.setTop { g with stack := rest }).pushFrame (.throwing q)))
def vx_X {S : Type} (px : S → Prop) (B : String → S → State → Prop) (A : Nat → Prop) : String → State → State → Prop := fun E st t => ∃ u : S, px u ∧ B E u t ∧ va_F A st t
section Runs
variable {p : Program} {l : Launch} {e : Env} {R : Room} {s : State} {m : MethodId} {args : Array Value} {below : List Frame} {meth : Method} {c : Code} {H : Heap} {locs : List Loc} {cells slots : Nat}
variable {y : MethodName} {bytes cc : ByteArray} {maxL nL mc ms n index : Nat} {ret : Option FieldType} {ws : List Cond} {rm : Room} {Pc : Array Value → State → Prop} {Qc : Array Value → State → Outcome → State → Prop} {XC : String → State → State → Prop} {free : Addr → Prop} {Ts : List Cond} {own C : String} {b : Addr} {As rest : List Value} {g : JFrame}
theorem vx_callBack (cb : CallB R s args own index y bytes maxL ret ws rm mc ms n) (hM : vx_Met l y ws rm Pc Qc XC mc ms free) (hbl : FrameBlind Pc) : vx_Back l R p e below s args y 3 8 (PreOf R mc ms Pc) (PostOf Qc mc ms free) (vx_Post XC mc ms free) := by
  obtain ⟨hrc, hrs, hfr, hlo, hws, hcw, -, hini, -⟩ := cb
  exact vx_back (bytes := bytes) (maxL := maxL) (ret := ret) hM hbl hrc hrs hfr hlo hws hcw (fun a' U hW => word_at hW (Or.inl (by first | rfl | simp [Cond.onTables, Cond.keeps, Cond.steady])) hini)
theorem vx_runV (S : CallFix p m c cc nL s args Ts own) (hM : vx_Met l y ws rm Pc Qc XC mc ms free) (cw : CallW R s args own C index y bytes maxL ret ws rm mc ms n) (hp : PreV s H C b Pc As)
    (hg : g.method = m) (hn : As.length = n) (hsize : g.locals.size = nL) (hstack : g.stack = As.reverse ++ .ref b :: rest) (hW : 2 * g.monitorRoom + (rest.map fun v => v.category).sum ≤ 8) (hdg : decode cc g.pc = .ok (.invokevirtual index, 3)) (hf : cells + mc ≤ R.cells ∧ slots + ms ≤ R.slots) :
    vx_Run p l e R s m args below meth c H locs cells slots mc ms g rest (Qc (Value.ref b :: As).toArray) XC free := by
  have hK : vx_Back l R p e below s args y 3 8 (PreOf R mc ms Pc) (PostOf Qc mc ms free) (vx_Post XC mc ms free) := vx_callBack cw.1 hM hp.1
  obtain ⟨⟨-, -, -, -, -, -, hcode, -, hy, hlen, hl⟩, hin, hse⟩ := cw
  obtain ⟨hx, hb, hml, ho, -⟩ := S
  obtain ⟨-, ⟨cellB, hcB, hoB, hclB⟩, hPc⟩ := hp
  intro T hT X
  rcases vx_callV X hx (C := C) (bytes := bytes) (maxL := maxL) (ret := ret) ho hl hin hse hcode hy hK (by rw [hT]; exact hcB) hoB hclB hg (hsize.trans hml.symm) (argsL := As) (rest := rest) (fun sig h => hn.trans (hlen sig h)) hstack hW (by rw [hb]; exact hdg)
    (fun vm₁ hW₁ => ⟨hf.1, hf.2, hPc (T.setVm vm₁) hT hW₁⟩) with ⟨v, vm₁, ⟨U', l2, c2, s2⟩, hW₁, X', ⟨g', mk, t, L, e1, e2, hq, h1, hL, h2, h3⟩, st⟩ | ⟨q, vm₁, ⟨U', l2, c2, s2⟩, hW₁, X', ⟨g', mk, t, L, E, ce, e1, e2, hq, hce, hcv, hcl, h1, hL, h2, h3⟩, st⟩
  · dsimp only [Pt.U, Pt.locs, Pt.cells, Pt.slots] at X' e1 e2 h1 h2 h3 st
    subst h1; subst h2; subst h3
    exact Or.inl ⟨v, (T.setVm vm₁).calling g' mk (Value.ref b :: As).toArray, t, U', L, hT, X', hL, e1, e2, hq, st⟩
  · dsimp only [Pt.U, Pt.locs, Pt.cells, Pt.slots] at X' e1 e2 h1 h2 h3 st hcl
    subst h1; subst h2; subst h3
    exact Or.inr ⟨q, (T.setVm vm₁).calling g' mk (Value.ref b :: As).toArray, t, U', L, E, ce, hT, X', hL, e1, e2, hq, hce, hcv, vx_cls hW₁ hcl, st⟩
theorem vx_runS (S : CallFix p m c cc nL s args Ts own) (hM : vx_Met l y ws rm Pc Qc XC mc ms free) (cw : CallB R s args own index y bytes maxL ret ws rm mc ms n ∧ (Cond.static y).before args s = true) (hp : PreS s H Pc As)
    (hg : g.method = m) (hn : As.length = n) (hsize : g.locals.size = nL) (hstack : g.stack = As.reverse ++ rest) (hW : 2 * g.monitorRoom + (rest.map fun v => v.category).sum ≤ 8) (hdg : decode cc g.pc = .ok (.invokestatic index, 3)) (hf : cells + mc ≤ R.cells ∧ slots + ms ≤ R.slots) :
    vx_Run p l e R s m args below meth c H locs cells slots mc ms g rest (Qc As.toArray) XC free := by
  have hK : vx_Back l R p e below s args y 3 8 (PreOf R mc ms Pc) (PostOf Qc mc ms free) (vx_Post XC mc ms free) := vx_callBack cw.1 hM hp.1
  obtain ⟨⟨-, -, -, -, -, -, hcode, hini, hy, hlen, hl⟩, hstt⟩ := cw
  obtain ⟨hx, hb, hml, ho, -⟩ := S
  intro T hT X
  rcases vx_callS X hx (bytes := bytes) (maxL := maxL) (ret := ret) ho hl hstt hini hcode hy hK hg (hsize.trans hml.symm) (argsL := As) (rest := rest) (fun sig h => hn.trans (hlen sig h)) hstack hW (by rw [hb]; exact hdg)
    (fun vm₁ hW₁ => ⟨hf.1, hf.2, hp.2 (T.setVm vm₁) hT hW₁⟩) with ⟨v, vm₁, ⟨U', l2, c2, s2⟩, hW₁, X', ⟨g', mk, t, L, e1, e2, hq, h1, hL, h2, h3⟩, st⟩ | ⟨q, vm₁, ⟨U', l2, c2, s2⟩, hW₁, X', ⟨g', mk, t, L, E, ce, e1, e2, hq, hce, hcv, hcl, h1, hL, h2, h3⟩, st⟩
  · dsimp only [Pt.U, Pt.locs, Pt.cells, Pt.slots] at X' e1 e2 h1 h2 h3 st
    subst h1; subst h2; subst h3
    exact Or.inl ⟨v, (T.setVm vm₁).calling g' mk As.toArray, t, U', L, hT, X', hL, e1, e2, hq, st⟩
  · dsimp only [Pt.U, Pt.locs, Pt.cells, Pt.slots] at X' e1 e2 h1 h2 h3 st hcl
    subst h1; subst h2; subst h3
    exact Or.inr ⟨q, (T.setVm vm₁).calling g' mk As.toArray, t, U', L, E, ce, hT, X', hL, e1, e2, hq, hce, hcv, vx_cls hW₁ hcl, st⟩
end Runs
section Rows
variable {p : Program} {l : Launch} {e : Env} {R : Room} {s : State} {m : MethodId} {args : Array Value} {below : List Frame} {meth : Method} {c : Code} {H : Heap} {locs : List Loc} {cells slots : Nat} {Q : State → Prop}
variable {mc ms : Nat} {free : Addr → Prop} {A0 A1 : Nat → Prop} {H0 : Heap} {a : Array Value} {pc : Nat} {ls : Array Slot} {st0 rest : List Value}
theorem vx_keep {st₀ t T' : State} {L : List Loc} (h0 : st₀.heap = H) (e1 : T'.heap = t.heap) (hS : va_S A0 H0 H locs) (hA : ∀ q, q < H.size → A1 q → A0 q) (hf : ∀ q, free q → A0 q) (hL : ∀ q ∈ L, free q.base) (hF : va_F A1 st₀ t) :
    H.size ≤ T'.heap.size ∧ (∀ q : Nat, q < H.size → ¬ A1 q → T'.heap[q]? = H[q]?) ∧ va_S A0 H0 T'.heap (locs ++ L) := by
  obtain ⟨hz, hk⟩ := hF
  rw [h0] at hz hk
  exact ⟨by rw [e1]; exact hz, fun q h1 h2 => by rw [e1]; exact hk q h1 h2,
    ⟨Nat.le_trans hS.1 (by rw [e1]; exact hz), fun q h1 h2 => by rw [e1, hk q (Nat.lt_of_lt_of_le h1 hS.1) (fun z => h2 (hA q (Nat.lt_of_lt_of_le h1 hS.1) z))]; exact hS.2.1 q h1 h2, fun q hq => by
      rcases List.mem_append.mp hq with h | h
      · exact hS.2.2 q h
      · exact hf _ (hL q h)⟩⟩
theorem vx_calli {S SX : Type} {post : Int32 → S → Prop} {px : SX → Prop} {B : S → State → Prop} {BX : String → SX → State → Prop} {AX : Nat → Prop} (hr : vx_Run p l e R s m args below meth c H locs cells slots mc ms (F0 m pc ls st0) rest (va_Qi post B A1 a) (vx_X px BX AX) free) (hS : va_S A0 H0 H locs) (hA : ∀ q, q < H.size → A1 q → A0 q) (hf : ∀ q, free q → A0 q) (hAX : ∀ q, q < H.size → AX q → A0 q)
    (kx : ∀ (E : String) (ce : Cell) (q9 : Addr) (u : SX) (t : State) (H1 : Heap) (locs1 : List Loc), t.heap = H1 → s.vm.Alike t.vm → px u → BX E u t → H.size ≤ H1.size → (∀ q : Nat, q < H.size → ¬ AX q → H1[q]? = H[q]?) → va_S A0 H0 H1 locs1 → H1[q9]? = some ce → ce.vm = .none → s.vm.findClass E = some ce.cls → vx_W p l e R s m args below meth c H1 locs1 (cells + mc) (slots + ms) Q (F0 m pc ls rest) q9)
    (kk : ∀ (r : Int32) (u : S) (t : State) (H1 : Heap) (locs1 : List Loc), t.heap = H1 → s.vm.Alike t.vm → post r u → B u t → H.size ≤ H1.size → (∀ q : Nat, q < H.size → ¬ A1 q → H1[q]? = H[q]?) → va_S A0 H0 H1 locs1 → W p l e R s m args below meth c H1 locs1 (cells + mc) (slots + ms) Q (F0 m (pc + 3) ls (.int r :: rest))) : W p l e R s m args below meth c H locs cells slots Q (F0 m pc ls st0) := by
  intro T hT X
  rcases hr T hT X with ⟨v, st₀, t, T', L, h0, X', hL, e1, e2, ⟨⟨r, u, hv, hp, hb⟩, hF⟩, st⟩ | ⟨q, st₀, t, T', L, E, ce, h0, X', hL, e1, e2, ⟨u, hp, hb, hF⟩, hce, hcv, hcl, st⟩
  · cases hv
    obtain ⟨k1, k2, k3⟩ := vx_keep h0 e1 hS hA hf hL hF
    obtain ⟨t2, a1, b1⟩ := kk r u t T'.heap (locs ++ L) e1.symm (by rw [← e2]; exact X'.warmed.alike) hp hb k1 k2 k3 T' rfl X'
    exact ⟨t2, st t2 a1, b1⟩
  · obtain ⟨k1, k2, k3⟩ := vx_keep h0 e1 hS hAX hf hL hF
    obtain ⟨t2, a1, b1⟩ := kx E ce q u t T'.heap (locs ++ L) e1.symm (by rw [← e2]; exact X'.warmed.alike) hp hb k1 k2 k3 (by rw [e1]; exact hce) hcv hcl T' rfl X'
    exact ⟨t2, st.trans a1, b1⟩
theorem vx_calll {S SX : Type} {post : Int64 → S → Prop} {px : SX → Prop} {B : S → State → Prop} {BX : String → SX → State → Prop} {AX : Nat → Prop} (hr : vx_Run p l e R s m args below meth c H locs cells slots mc ms (F0 m pc ls st0) rest (va_Ql post B A1 a) (vx_X px BX AX) free) (hS : va_S A0 H0 H locs) (hA : ∀ q, q < H.size → A1 q → A0 q) (hf : ∀ q, free q → A0 q) (hAX : ∀ q, q < H.size → AX q → A0 q)
    (kx : ∀ (E : String) (ce : Cell) (q9 : Addr) (u : SX) (t : State) (H1 : Heap) (locs1 : List Loc), t.heap = H1 → s.vm.Alike t.vm → px u → BX E u t → H.size ≤ H1.size → (∀ q : Nat, q < H.size → ¬ AX q → H1[q]? = H[q]?) → va_S A0 H0 H1 locs1 → H1[q9]? = some ce → ce.vm = .none → s.vm.findClass E = some ce.cls → vx_W p l e R s m args below meth c H1 locs1 (cells + mc) (slots + ms) Q (F0 m pc ls rest) q9)
    (kk : ∀ (r : Int64) (u : S) (t : State) (H1 : Heap) (locs1 : List Loc), t.heap = H1 → s.vm.Alike t.vm → post r u → B u t → H.size ≤ H1.size → (∀ q : Nat, q < H.size → ¬ A1 q → H1[q]? = H[q]?) → va_S A0 H0 H1 locs1 → W p l e R s m args below meth c H1 locs1 (cells + mc) (slots + ms) Q (F0 m (pc + 3) ls (.long r :: rest))) : W p l e R s m args below meth c H locs cells slots Q (F0 m pc ls st0) := by
  intro T hT X
  rcases hr T hT X with ⟨v, st₀, t, T', L, h0, X', hL, e1, e2, ⟨⟨r, u, hv, hp, hb⟩, hF⟩, st⟩ | ⟨q, st₀, t, T', L, E, ce, h0, X', hL, e1, e2, ⟨u, hp, hb, hF⟩, hce, hcv, hcl, st⟩
  · cases hv
    obtain ⟨k1, k2, k3⟩ := vx_keep h0 e1 hS hA hf hL hF
    obtain ⟨t2, a1, b1⟩ := kk r u t T'.heap (locs ++ L) e1.symm (by rw [← e2]; exact X'.warmed.alike) hp hb k1 k2 k3 T' rfl X'
    exact ⟨t2, st t2 a1, b1⟩
  · obtain ⟨k1, k2, k3⟩ := vx_keep h0 e1 hS hAX hf hL hF
    obtain ⟨t2, a1, b1⟩ := kx E ce q u t T'.heap (locs ++ L) e1.symm (by rw [← e2]; exact X'.warmed.alike) hp hb k1 k2 k3 (by rw [e1]; exact hce) hcv hcl T' rfl X'
    exact ⟨t2, st.trans a1, b1⟩
theorem vx_callf {S SX : Type} {post : UInt32 → S → Prop} {px : SX → Prop} {B : S → State → Prop} {BX : String → SX → State → Prop} {AX : Nat → Prop} (hr : vx_Run p l e R s m args below meth c H locs cells slots mc ms (F0 m pc ls st0) rest (va_Qf post B A1 a) (vx_X px BX AX) free) (hS : va_S A0 H0 H locs) (hA : ∀ q, q < H.size → A1 q → A0 q) (hf : ∀ q, free q → A0 q) (hAX : ∀ q, q < H.size → AX q → A0 q)
    (kx : ∀ (E : String) (ce : Cell) (q9 : Addr) (u : SX) (t : State) (H1 : Heap) (locs1 : List Loc), t.heap = H1 → s.vm.Alike t.vm → px u → BX E u t → H.size ≤ H1.size → (∀ q : Nat, q < H.size → ¬ AX q → H1[q]? = H[q]?) → va_S A0 H0 H1 locs1 → H1[q9]? = some ce → ce.vm = .none → s.vm.findClass E = some ce.cls → vx_W p l e R s m args below meth c H1 locs1 (cells + mc) (slots + ms) Q (F0 m pc ls rest) q9)
    (kk : ∀ (r : UInt32) (u : S) (t : State) (H1 : Heap) (locs1 : List Loc), t.heap = H1 → s.vm.Alike t.vm → post r u → B u t → H.size ≤ H1.size → (∀ q : Nat, q < H.size → ¬ A1 q → H1[q]? = H[q]?) → va_S A0 H0 H1 locs1 → W p l e R s m args below meth c H1 locs1 (cells + mc) (slots + ms) Q (F0 m (pc + 3) ls (.float r :: rest))) : W p l e R s m args below meth c H locs cells slots Q (F0 m pc ls st0) := by
  intro T hT X
  rcases hr T hT X with ⟨v, st₀, t, T', L, h0, X', hL, e1, e2, ⟨⟨r, u, hv, hp, hb⟩, hF⟩, st⟩ | ⟨q, st₀, t, T', L, E, ce, h0, X', hL, e1, e2, ⟨u, hp, hb, hF⟩, hce, hcv, hcl, st⟩
  · cases hv
    obtain ⟨k1, k2, k3⟩ := vx_keep h0 e1 hS hA hf hL hF
    obtain ⟨t2, a1, b1⟩ := kk r u t T'.heap (locs ++ L) e1.symm (by rw [← e2]; exact X'.warmed.alike) hp hb k1 k2 k3 T' rfl X'
    exact ⟨t2, st t2 a1, b1⟩
  · obtain ⟨k1, k2, k3⟩ := vx_keep h0 e1 hS hAX hf hL hF
    obtain ⟨t2, a1, b1⟩ := kx E ce q u t T'.heap (locs ++ L) e1.symm (by rw [← e2]; exact X'.warmed.alike) hp hb k1 k2 k3 (by rw [e1]; exact hce) hcv hcl T' rfl X'
    exact ⟨t2, st.trans a1, b1⟩
theorem vx_calld {S SX : Type} {post : UInt64 → S → Prop} {px : SX → Prop} {B : S → State → Prop} {BX : String → SX → State → Prop} {AX : Nat → Prop} (hr : vx_Run p l e R s m args below meth c H locs cells slots mc ms (F0 m pc ls st0) rest (va_Qd post B A1 a) (vx_X px BX AX) free) (hS : va_S A0 H0 H locs) (hA : ∀ q, q < H.size → A1 q → A0 q) (hf : ∀ q, free q → A0 q) (hAX : ∀ q, q < H.size → AX q → A0 q)
    (kx : ∀ (E : String) (ce : Cell) (q9 : Addr) (u : SX) (t : State) (H1 : Heap) (locs1 : List Loc), t.heap = H1 → s.vm.Alike t.vm → px u → BX E u t → H.size ≤ H1.size → (∀ q : Nat, q < H.size → ¬ AX q → H1[q]? = H[q]?) → va_S A0 H0 H1 locs1 → H1[q9]? = some ce → ce.vm = .none → s.vm.findClass E = some ce.cls → vx_W p l e R s m args below meth c H1 locs1 (cells + mc) (slots + ms) Q (F0 m pc ls rest) q9)
    (kk : ∀ (r : UInt64) (u : S) (t : State) (H1 : Heap) (locs1 : List Loc), t.heap = H1 → s.vm.Alike t.vm → post r u → B u t → H.size ≤ H1.size → (∀ q : Nat, q < H.size → ¬ A1 q → H1[q]? = H[q]?) → va_S A0 H0 H1 locs1 → W p l e R s m args below meth c H1 locs1 (cells + mc) (slots + ms) Q (F0 m (pc + 3) ls (.double r :: rest))) : W p l e R s m args below meth c H locs cells slots Q (F0 m pc ls st0) := by
  intro T hT X
  rcases hr T hT X with ⟨v, st₀, t, T', L, h0, X', hL, e1, e2, ⟨⟨r, u, hv, hp, hb⟩, hF⟩, st⟩ | ⟨q, st₀, t, T', L, E, ce, h0, X', hL, e1, e2, ⟨u, hp, hb, hF⟩, hce, hcv, hcl, st⟩
  · cases hv
    obtain ⟨k1, k2, k3⟩ := vx_keep h0 e1 hS hA hf hL hF
    obtain ⟨t2, a1, b1⟩ := kk r u t T'.heap (locs ++ L) e1.symm (by rw [← e2]; exact X'.warmed.alike) hp hb k1 k2 k3 T' rfl X'
    exact ⟨t2, st t2 a1, b1⟩
  · obtain ⟨k1, k2, k3⟩ := vx_keep h0 e1 hS hAX hf hL hF
    obtain ⟨t2, a1, b1⟩ := kx E ce q u t T'.heap (locs ++ L) e1.symm (by rw [← e2]; exact X'.warmed.alike) hp hb k1 k2 k3 (by rw [e1]; exact hce) hcv hcl T' rfl X'
    exact ⟨t2, st.trans a1, b1⟩
theorem vx_callv {S SX : Type} {post : S → Prop} {px : SX → Prop} {B : S → State → Prop} {BX : String → SX → State → Prop} {AX : Nat → Prop} (hr : vx_Run p l e R s m args below meth c H locs cells slots mc ms (F0 m pc ls st0) rest (va_Qv post B A1 a) (vx_X px BX AX) free) (hS : va_S A0 H0 H locs) (hA : ∀ q, q < H.size → A1 q → A0 q) (hf : ∀ q, free q → A0 q) (hAX : ∀ q, q < H.size → AX q → A0 q)
    (kx : ∀ (E : String) (ce : Cell) (q9 : Addr) (u : SX) (t : State) (H1 : Heap) (locs1 : List Loc), t.heap = H1 → s.vm.Alike t.vm → px u → BX E u t → H.size ≤ H1.size → (∀ q : Nat, q < H.size → ¬ AX q → H1[q]? = H[q]?) → va_S A0 H0 H1 locs1 → H1[q9]? = some ce → ce.vm = .none → s.vm.findClass E = some ce.cls → vx_W p l e R s m args below meth c H1 locs1 (cells + mc) (slots + ms) Q (F0 m pc ls rest) q9)
    (kk : ∀ (u : S) (t : State) (H1 : Heap) (locs1 : List Loc), t.heap = H1 → s.vm.Alike t.vm → post u → B u t → H.size ≤ H1.size → (∀ q : Nat, q < H.size → ¬ A1 q → H1[q]? = H[q]?) → va_S A0 H0 H1 locs1 → W p l e R s m args below meth c H1 locs1 (cells + mc) (slots + ms) Q (F0 m (pc + 3) ls (rest))) : W p l e R s m args below meth c H locs cells slots Q (F0 m pc ls st0) := by
  intro T hT X
  rcases hr T hT X with ⟨v, st₀, t, T', L, h0, X', hL, e1, e2, ⟨⟨u, hv, hp, hb⟩, hF⟩, st⟩ | ⟨q, st₀, t, T', L, E, ce, h0, X', hL, e1, e2, ⟨u, hp, hb, hF⟩, hce, hcv, hcl, st⟩
  · cases hv
    obtain ⟨k1, k2, k3⟩ := vx_keep h0 e1 hS hA hf hL hF
    obtain ⟨t2, a1, b1⟩ := kk u t T'.heap (locs ++ L) e1.symm (by rw [← e2]; exact X'.warmed.alike) hp hb k1 k2 k3 T' rfl X'
    exact ⟨t2, st t2 a1, b1⟩
  · obtain ⟨k1, k2, k3⟩ := vx_keep h0 e1 hS hAX hf hL hF
    obtain ⟨t2, a1, b1⟩ := kx E ce q u t T'.heap (locs ++ L) e1.symm (by rw [← e2]; exact X'.warmed.alike) hp hb k1 k2 k3 (by rw [e1]; exact hce) hcv hcl T' rfl X'
    exact ⟨t2, st.trans a1, b1⟩
/-- caught by the row x of this method's table; the rows ahead don't take it -/
theorem vx_catch {own name : String} {E : String} {ce : Cell} {q : Addr} (hown : s.vm.findClass own = some m.cls) (pre : List ExceptionTableEntry) (x : ExceptionTableEntry) (suf : List ExceptionTableEntry) (hsplit : c.exceptionTable.toList = pre ++ x :: suf)
    (hpass : ∀ z ∈ pre, covers z pc = false ∨ (z.catchType ≠ 0 ∧ ∃ nm : String, (Cond.classLink own z.catchType nm).before args s = true ∧ va_Nc E nm s)) (hx : covers x pc = true) (h0 : x.catchType ≠ 0)
    (hlink : (Cond.classLink own x.catchType name).before args s = true) (hcast : (Cond.castable E name).before args s = true) (hcell : H[q]? = some ce) (hv : ce.vm = .none) (hcl : s.vm.findClass E = some ce.cls)
    (kk : W p l e R s m args below meth c H locs cells slots Q (F0 m x.handlerPc ls [.ref q])) : vx_W p l e R s m args below meth c H locs cells slots Q (F0 m pc ls rest) q := by
  intro T hT X
  have hpl : e.platform.magicAccessors = ({} : Platform).magicAccessors := by rw [X.admits.platform]
  obtain ⟨c3, c4, hc3, hc4, hasg⟩ := Cond.castable_spec hcast
  cases Option.some.inj (hc3.symm.trans hcl)
  obtain ⟨c5, hc5, hcl5⟩ := Cond.classLink_spec hown hlink e.platform hpl
  cases Option.some.inj (hc4.symm.trans hc5)
  obtain ⟨vm', X', st⟩ := X.thenCaughtThrough q (g := F0 m pc ls rest) rfl (Steps.refl _) (by rw [hT]; exact hcell) (by rw [hv]; rfl) (by obtain ⟨k9, h9, -⟩ := Vm.findClass_spec hcl; exact ⟨k9, h9⟩) pre x suf hsplit
    (fun z hz => by
      rcases hpass z hz with h | ⟨hz0, nm, hl1, hn1⟩
      · exact Or.inl h
      · obtain ⟨c6, hc6, hcl6⟩ := Cond.classLink_spec hown hl1 e.platform hpl
        obtain ⟨a8, b8, h1, h2, h3⟩ := hn1
        cases Option.some.inj (h1.symm.trans hcl)
        cases Option.some.inj (h2.symm.trans hc6)
        exact Or.inr ⟨hz0, _, hcl6, h3⟩) hx (Or.inr ⟨h0, c4, hcl5, hasg⟩)
  obtain ⟨t, a1, b1⟩ := kk (T.setVm vm') hT X'
  exact ⟨t, st.trans a1, b1⟩
end Rows
section Ends
variable {p : Program} {l : Launch} {e : Env} {R : Room} {s : State} {m : MethodId} {args : Array Value} {below : List Frame} {meth : Method} {c : Code} {H : Heap} {locs : List Loc} {cells slots : Nat} {Q : State → Prop}
variable {mc ms : Nat} {free : Addr → Prop} {A0 A1 : Nat → Prop} {H0 : Heap} {a : Array Value} {ls : Array Slot} {st0 rest : List Value}
variable {Qc : Array Value → State → Outcome → State → Prop} {XC : String → State → State → Prop}
/-- what a body that may throw owes at its end -/
def vx_MQ (below : List Frame) (Qc : Array Value → State → Outcome → State → Prop) (XC : String → State → State → Prop) (a : Array Value) (s : State) (mc ms : Nat) (free : Addr → Prop) : State → Prop := fun t =>
  ∃ o, t.status = .running ∧ Ended t below o ∧ vx_Q Qc XC mc ms free a s o t
theorem vx_ret {g : JFrame} {mc ms : Nat} (k : W p l e R s m args below meth c H locs cells slots (MQ below Qc args s mc ms free) g) : W p l e R s m args below meth c H locs cells slots (vx_MQ below Qc XC args s mc ms free) g := by
  intro T hT X
  obtain ⟨t, a1, o, b1, b2, b3, b4⟩ := k T hT X
  exact ⟨t, a1, o, b1, b2, Or.inl ⟨b3, b4⟩⟩
/-- not caught here: it goes on to the caller -/
theorem vx_widen {g : JFrame} {q : Addr} {k n : Nat} (h1 : cells ≤ k) (h2 : slots ≤ n) (kk : vx_W p l e R s m args below meth c H locs k n Q g q) : vx_W p l e R s m args below meth c H locs cells slots Q g q := fun T hT X => kk T hT (stand_widen X h1 h2)
theorem vx_out {pc : Nat} {E : String} {ce : Cell} {q : Addr} {mc ms : Nat} (hout : ∀ x ∈ c.exceptionTable.toList, covers x pc = false) (hlocks : meth.locks = false) (hcell : H[q]? = some ce) (hv : ce.vm = .none) (hcl : s.vm.findClass E = some ce.cls)
    (hx : ∀ t : State, t.heap = H → s.vm.Alike t.vm → XC E s t) (hf : ∀ z ∈ locs, free z.base) (hc : cells ≤ mc) (hs : slots ≤ ms) :
    vx_W p l e R s m args below meth c H locs cells slots (vx_MQ below Qc XC args s mc ms free) (F0 m pc ls rest) q := by
  intro T hT X
  obtain ⟨st1, hrun, hend, hW, hsm⟩ := X.leaveThrown q (g := F0 m pc ls rest) rfl rfl rfl hout hlocks
  have hcell9 : (T.setFrames (.throwing q :: below)).heap[q]? = some ce := by
    show T.heap[q]? = some ce
    rw [hT]; exact hcell
  exact ⟨_, st1, .threw q, hrun, hend, Or.inr ⟨q, rfl, E, ce, locs, hx _ hT hW.alike, hcell9, hv, hcl, hW, hsm.mono hc hs, hf⟩⟩
theorem vx_frame {U : State} {k n : Nat} (h : s.sameButNew ({ U with vm := s.vm } : State) locs k n) : s.heap.size ≤ U.heap.size ∧ ∀ q : Nat, q < s.heap.size → (∀ z ∈ locs, z.base ≠ q) → U.heap[q]? = s.heap[q]? := by
  obtain ⟨-, h2, -, -, -, h6⟩ := h
  refine ⟨h2, fun q hq hz => ?_⟩
  obtain ⟨c9, e1, e2, e3, e4⟩ := h6 q _ (Array.getElem?_eq_getElem hq)
  have hs : c9.slots = (s.heap[q]).slots := Array.ext_getElem? fun i => e4 i fun hm => hz _ hm rfl
  have h9 : c9 = s.heap[q] := by
    rw [hs] at e2
    exact e2
  have e5 : U.heap[q]? = some c9 := e1
  rw [e5, h9, Array.getElem?_eq_getElem hq]
/-- the words of a throw but the four that speak of the heap -/
def vx_no (w : Cond) : Bool := decide (w ≠ .isRef (.static Bundle.tN "UNASSIGNED_STACK" Bundle.steD)) && decide (w ≠ .isRef (.static Bundle.tN "SUPPRESSED_SENTINEL" Bundle.listD)) && decide (w ≠ .laysStatic Bundle.tN "UNASSIGNED_STACK" Bundle.steD) && decide (w ≠ .laysStatic Bundle.tN "SUPPRESSED_SENTINEL" Bundle.listD)
def vx_at0 (own : String) (ic : Nat) (X : String) (names : List String) : List Cond := (Bundle.ownAtoms0 own ic X names).filter vx_no
def vx_atS (own : String) (ic : Nat) (X : String) (names : List String) : List Cond := (Bundle.ownAtoms own ic X names).filter vx_no
/-- a word that the tables alone decide, or a good one -/
def vx_ot (w : Cond) : Bool := w.onTables || goodWord w
theorem vx_ot_at {args a' : Array Value} {s U : State} {w : Cond} (hW : s.WarmedH U.vm) (hvm : s.vm = U.vm) (hg : vx_ot w = true) (h : w.before args s = true) : w.before a' U = true := by
  simp only [vx_ot, Bool.or_eq_true] at hg
  rcases hg with hg | hg
  · exact va_tabs hg hvm h
  · exact word_at hW (good_of_word hg) h
/-- a list's words: the good ones out of the method's own list, the others by premises of their own -/
theorem vx_hat {args : Array Value} {s : State} {L B : List Cond} (h1 : ∀ w ∈ L.filter goodWord, w.before args s = true) (h2 : ∀ w ∈ L.filter (fun w => !goodWord w), w ∈ B) (h3 : ∀ w ∈ B, w.before args s = true) : ∀ w ∈ L, w.before args s = true := by
  intro w hw
  by_cases g : goodWord w = true
  · exact h1 w (List.mem_filter.mpr ⟨hw, g⟩)
  · refine h3 w (h2 w (List.mem_filter.mpr ⟨hw, ?_⟩))
    show (!goodWord w) = true
    cases hgw : goodWord w
    · rfl
    · exact absurd hgw g
theorem vx_c {args : Array Value} {s : State} {w : Cond} {B : List Cond} (h : w.before args s = true) (t : ∀ w ∈ B, w.before args s = true) : ∀ w' ∈ w :: B, w'.before args s = true := fun w' h' => (List.mem_cons.mp h').elim (fun e => by rw [e]; exact h) (t w')
theorem vx_n {args : Array Value} {s : State} : ∀ w ∈ ([] : List Cond), w.before args s = true := fun _ h => nomatch h
theorem vx_own {args : Array Value} {s : State} {L : List Cond} (h1 : ∀ w ∈ L.filter vx_no, w.before args s = true)
    (hU : (Cond.isRef (.static Bundle.tN "UNASSIGNED_STACK" Bundle.steD)).before args s = true) (hN : (Cond.isRef (.static Bundle.tN "SUPPRESSED_SENTINEL" Bundle.listD)).before args s = true)
    (lU : (Cond.laysStatic Bundle.tN "UNASSIGNED_STACK" Bundle.steD).before args s = true) (lN : (Cond.laysStatic Bundle.tN "SUPPRESSED_SENTINEL" Bundle.listD).before args s = true) : ∀ w ∈ L, w.before args s = true := by
  intro w hw
  by_cases e1 : w = .isRef (.static Bundle.tN "UNASSIGNED_STACK" Bundle.steD)
  · rw [e1]; exact hU
  · by_cases e2 : w = .isRef (.static Bundle.tN "SUPPRESSED_SENTINEL" Bundle.listD)
    · rw [e2]; exact hN
    · by_cases e3 : w = .laysStatic Bundle.tN "UNASSIGNED_STACK" Bundle.steD
      · rw [e3]; exact lU
      · by_cases e4 : w = .laysStatic Bundle.tN "SUPPRESSED_SENTINEL" Bundle.listD
        · rw [e4]; exact lN
        · exact h1 w (List.mem_filter.mpr ⟨hw, by unfold vx_no; rw [decide_eq_true e1, decide_eq_true e2, decide_eq_true e3, decide_eq_true e4]; rfl⟩)
/-- where a static field lies, its class's statics cell in H -/
def vx_L (C n d : String) (A : Nat → Prop) (U : State) (H : Heap) : Prop := ∃ (c : ClassId) (k : Class) (i : Nat) (f : Field) (a : Nat) (cell : Cell), U.vm.findClass C = some c ∧ U.fieldFound? C n d = some (c, k, i, f) ∧ f.isStatic = true ∧ k.statics = some a ∧ H[a]? = some cell ∧ cell.vm.isStatics = true ∧ cell.cls = c ∧ f.slot < cell.slots.size ∧ k.staticTypes[f.slot]? = some f.type ∧ ¬ A a
theorem vx_L.moved {C n d : String} {A : Nat → Prop} {u U : State} {H : Heap} (hvm : u.vm.Alike U.vm) (h : vx_L C n d A u H) : vx_L C n d A U H := by
  obtain ⟨c, k, i, f, a, cell, h1, h2, h3, h4, h5, h6, h7, h8, h9, h10⟩ := h
  obtain ⟨k', hi', he⟩ := State.fieldFound?_setVm hvm h2
  exact ⟨c, k', i, f, a, cell, by rw [hvm.findClass]; exact h1, hi', h3, by rw [he]; exact h4, h5, h6, h7, h8, by rw [he]; exact h9, h10⟩
theorem vx_L.kept {C n d : String} {A : Nat → Prop} {U : State} {H H1 : Heap} (h : vx_L C n d A U H) (hq : ∀ a : Nat, a < H.size → ¬ A a → H1[a]? = H[a]?) : vx_L C n d A U H1 := by
  obtain ⟨c, k, i, f, a, cell, h1, h2, h3, h4, h5, h6, h7, h8, h9, h10⟩ := h
  exact ⟨c, k, i, f, a, cell, h1, h2, h3, h4, by rw [hq a (Array.getElem?_eq_some_iff.mp h5).1 h10]; exact h5, h6, h7, h8, h9, h10⟩
theorem vx_L.narrow {C n d : String} {A B : Nat → Prop} {U : State} {H : Heap} (h : vx_L C n d A U H) (hAB : ∀ q, B q → A q) : vx_L C n d B U H := by
  obtain ⟨c, k, i, f, a, cell, h1, h2, h3, h4, h5, h6, h7, h8, h9, h10⟩ := h
  exact ⟨c, k, i, f, a, cell, h1, h2, h3, h4, h5, h6, h7, h8, h9, fun z => h10 (hAB _ z)⟩
theorem vx_L.word {C n d : String} {A : Nat → Prop} {s : State} {args : Array Value} (h : vx_L C n d A s s.heap) : (Cond.laysStatic C n d).before args s = true := by
  obtain ⟨c, k, i, f, a, cell, h1, h2, h3, h4, h5, h6, h7, h8, h9, -⟩ := h
  show (Cond.laysStatic C n d).holds args s none s [] = true
  exact Cond.laysStatic_of h1 h2 h3 h4 h5 h6 h7 h8 h9
/-- .. and what it holds: null or some reference -/
def vx_Zq (C n d : String) (A : Nat → Prop) (U : State) (H : Heap) : Prop := va_Zq C n d A U H ∧ vx_L C n d A U H
theorem vx_Zq.moved {C n d : String} {A : Nat → Prop} {u U : State} {H : Heap} (hvm : u.vm.Alike U.vm) (h : vx_Zq C n d A u H) : vx_Zq C n d A U H := ⟨va_Zq.moved hvm h.1, vx_L.moved hvm h.2⟩
theorem vx_Zq.kept {C n d : String} {A : Nat → Prop} {U : State} {H H1 : Heap} (h : vx_Zq C n d A U H) (hq : ∀ a : Nat, a < H.size → ¬ A a → H1[a]? = H[a]?) : vx_Zq C n d A U H1 := ⟨va_Zq.kept h.1 hq, vx_L.kept h.2 hq⟩
theorem vx_Zq.narrow {C n d : String} {A B : Nat → Prop} {U : State} {H : Heap} (h : vx_Zq C n d A U H) (hAB : ∀ q, B q → A q) : vx_Zq C n d B U H := ⟨va_Zq.narrow h.1 hAB, vx_L.narrow h.2 hAB⟩
theorem vx_Zqof {args : Array Value} {s : State} {C n d : String} {A : Nat → Prop} (hl : (Cond.laysStatic C n d).before args s = true) (hini : (Cond.initialized C).before args s = true) (h : (Cond.isRef (.static C n d)).before args s = true) (hA : ∀ a : Nat, a < s.heap.size → ¬ A a) : vx_Zq C n d A s s.heap := by
  refine ⟨va_Zqof hl hini h hA, ?_⟩
  obtain ⟨c, k, i, f, a, cell, h1, h2, h3, h4, h5, h6, h7, h8, h9⟩ := Cond.laysStatic_spec hl
  exact ⟨c, k, i, f, a, cell, h1, h2, h3, h4, h5, h6, h7, h8, h9, hA a (Array.getElem?_eq_some_iff.mp h5).1⟩
theorem vx_isRef {C n d : String} {v : Value} {A : Nat → Prop} {s : State} {args : Array Value} (h : va_Z C n d v A s s.heap) (hv : v.isRef = true) : (Cond.isRef (.static C n d)).before args s = true := by
  obtain ⟨cf, kf, fi, f, a, cell, h1, h2, h3, h4, h5, h6, h7, -⟩ := h
  have he : (Term.static C n d).eval args s none [] s = some v := by
    simp [Term.eval, State.fieldNamed?, h1, h2, h4, h5, h6, h7]
  simp only [Cond.before, Cond.holds, Cond.value, he]
  cases v <;> simp_all [Value.isRef]
theorem vx_isRefq {C n d : String} {A : Nat → Prop} {s : State} {args : Array Value} (h : va_Zq C n d A s s.heap) : (Cond.isRef (.static C n d)).before args s = true := by
  rcases h with h | ⟨t, h⟩
  · exact vx_isRef h rfl
  · exact vx_isRef h rfl
/-- the same frame, seen from here: as if the method were called anew in this heap -/
theorem vx_rebase {T : State} (X : Stand p l e R s m args below meth c T locs cells slots) {R' : Room} (hf : R'.frames ≤ R.frames) (hl : R'.locals ≤ R.locals) (hc : cells + R'.cells ≤ R.cells) (hs : slots + R'.slots ≤ R.slots) :
    Stand p l e R' ((T.setVm s.vm).setFrames (.invoking m args :: below)) m args below meth c T [] 0 0 := by
  have htop : (T.setVm s.vm).topJava?.isSome := X.here.top
  have hF : ((T.setVm s.vm).setFrames (.invoking m args :: below)).frames = .invoking m args :: below := State.frames_setFrames _ (State.cur_lt_of_top htop)
  obtain ⟨g₀, hg0⟩ := Option.isSome_iff_exists.mp htop
  obtain ⟨r, hr⟩ := State.topJava?_eq_some.mp hg0
  have hl9 : e.platform.stackLimits (T.setVm s.vm).me = e.platform.stackLimits s.me := X.limits
  have hb9 : (T.setVm s.vm).me.stackBytes = s.me.stackBytes := X.bytes
  refine ⟨X.admits, X.cas, X.clock, hF, ?_, X.hears, X.method, X.code, X.here, X.tail, X.warmed, ?_, ?_, ?_⟩
  · have h := X.room
    have hU : ((T.setVm s.vm).setFrames (.invoking m args :: below)).localsInUse = s.localsInUse := by
      rw [State.localsInUse_invoking hF (meth := meth) (c := c) X.method X.code, State.localsInUse_invoking X.frames X.method X.code]
    simp only [State.hasRoom, Bool.and_eq_true, decide_eq_true_eq] at h ⊢
    obtain ⟨⟨⟨⟨h1, h2, h3, h4, h5, h6⟩, h7⟩, h8⟩, h9⟩ := h
    rw [X.frames, List.length_cons] at h2 h3
    have q1 := X.heapSize
    have q2 := X.used
    simp only [hF, hU, List.length_cons, State.stackLimits_setFrames, State.stackBytes_setFrames, hl9, hb9]
    refine ⟨⟨⟨⟨by omega, by omega, by omega, by omega, by omega, h6⟩, ?_⟩, ?_⟩, X.book⟩
    · show T.heap.size + R'.cells ≤ e.platform.maxCells
      omega
    · show T.slotsUsed + R'.slots ≤ e.platform.maxSlots
      omega
  · rw [State.stackLimits_setFrames]; rfl
  · rw [State.stackBytes_setFrames]; rfl
  · refine ⟨?_, Nat.le_refl _, Nat.le_refl _, ?_, ?_, fun a c9 h9 => ⟨c9, h9, rfl, rfl, fun _ _ => rfl⟩⟩
    · obtain ⟨t, ht, -⟩ := State.frames_cons hr
      show T.setVm s.vm = { ((T.setVm s.vm).setFrames (.invoking m args :: below)).setFrames (T.setVm s.vm).frames with heap := T.heap, slotsUsed := T.slotsUsed }
      rw [State.setFrames_setFrames, State.setFrames_self ht]
      rfl
    · show T.slotsUsed = T.slotsUsed + ((T.heap.toList.drop T.heap.size).map (·.slots.size)).sum
      rw [List.drop_eq_nil_of_le (Nat.le_of_eq Array.length_toList)]
      rfl
    · show ((T.heap.toList.drop T.heap.size).map (·.slots.size)).sum ≤ 0
      rw [List.drop_eq_nil_of_le (Nat.le_of_eq Array.length_toList)]
      exact Nat.le_refl _
/-- 'throw new E()': new; dup; invokespecial; athrow -/
theorem vx_throw0 {cc : ByteArray} {pc : Nat} (hexec : p.tables.exec = Jvm.exec) (hb : c.code = cc) (hl : l.stackTraces = false) {own cls : String} {names : List String} {ik ic mc ms : Nat} {A : Nat → Prop}
    (hown : s.vm.findClass own = some m.cls) (hcls : Bundle.fit cls = true) (hnames : ∀ n ∈ names, Bundle.fit n = true)
    (hk : (Cond.classLink own ik cls).before args s = true) (hini : (Cond.initialized cls).before args s = true) (hat : ∀ w ∈ vx_at0 own ic cls names, w.before args s = true)
    (hgood : ∀ w ∈ Cond.classLink own ik cls :: Cond.initialized cls :: vx_at0 own ic cls names, vx_ot w = true)
    (hU : vx_Zq Bundle.tN "UNASSIGNED_STACK" Bundle.steD A s s.heap) (hN : vx_Zq Bundle.tN "SUPPRESSED_SENTINEL" Bundle.listD A s s.heap) (hS : va_S A s.heap H locs) (hsize : ls.size = c.maxLocals)
    (d0 : decode cc pc = .ok (.new ik, 3)) (d3 : decode cc (pc + 3) = .ok (.dup, 1)) (d4 : decode cc (pc + 4) = .ok (.invokespecial ic, 3)) (d7 : decode cc (pc + 7) = .ok (.athrow, 1))
    (hout : ∀ x ∈ c.exceptionTable.toList, covers x (pc + 7) = false)
    (hRframes : names.length + 3 < R.frames) (hRlocals : (rest.map fun v => v.category).sum + (13 * (names.length + 1) + 42) ≤ R.locals) (hRcells : cells + 1 ≤ R.cells) (hRslots : slots + 6 ≤ R.slots) (hlocks : meth.locks = false)
    (hx : ∀ t : State, s.vm.Alike t.vm → H.size ≤ t.heap.size → (∀ q : Nat, q < H.size → t.heap[q]? = H[q]?) → XC cls s t)
    (hf : ∀ z ∈ locs, free z.base) (hc : cells + 1 ≤ mc) (hs : slots + 6 ≤ ms) :
    W p l e R s m args below meth c H locs cells slots (vx_MQ below Qc XC args s mc ms free) (F0 m pc ls rest) := by
  intro T hT X
  have htr : e.platform.stackTraces = false := (show e.platform.stackTraces = l.stackTraces by rw [X.admits.platform]).trans hl
  have Y := vx_rebase X (R' := { frames := R.frames, locals := R.locals, cells := 1, slots := 6 }) (Nat.le_refl _) (Nat.le_refl _) hRcells hRslots
  obtain ⟨s', hA⟩ : ∃ z, z = (T.setVm s.vm).setFrames (.invoking m args :: below) := ⟨_, rfl⟩
  rw [← hA] at Y
  have hvm : s'.vm = s.vm := by rw [hA]; rfl
  have hhp : s'.heap = H := by rw [hA]; exact hT
  have hW0 : s.WarmedH s'.vm := by rw [hvm]; exact State.WarmedH.refl s
  have hat' : ∀ w ∈ vx_at0 own ic cls names, w.before args s' = true := fun w hw => vx_ot_at hW0 hvm.symm (hgood w (List.mem_cons_of_mem _ (List.mem_cons_of_mem _ hw))) (hat w hw)
  have hk' : (Cond.classLink own ik cls).before args s' = true := vx_ot_at hW0 hvm.symm (hgood _ List.mem_cons_self) hk
  have hini' : (Cond.initialized cls).before args s' = true := vx_ot_at hW0 hvm.symm (hgood _ (List.mem_cons_of_mem _ List.mem_cons_self)) hini
  have hU' : vx_Zq Bundle.tN "UNASSIGNED_STACK" Bundle.steD A s' s'.heap := by rw [hhp]; exact vx_Zq.moved hW0.alike (hU.kept hS.2.1)
  have hN' : vx_Zq Bundle.tN "SUPPRESSED_SENTINEL" Bundle.listD A s' s'.heap := by rw [hhp]; exact vx_Zq.moved hW0.alike (hN.kept hS.2.1)
  have h : ∀ w ∈ Bundle.ownAtoms0 own ic cls names, w.before args s' = true := vx_own hat' (vx_isRefq hU'.1) (vx_isRefq hN'.1) hU'.2.word hN'.2.word
  have hown' : s'.vm.findClass own = some m.cls := by rw [hvm]; exact hown
  have hins : (Cond.instantiable cls 6).before args s' = true := h _ (by simp [Bundle.ownAtoms0])
  obtain ⟨vm₁, cX, kX, hfX, hkX, -, -, X₁, st1⟩ := Y.newCold hexec (own := own) (C := cls) (index := ik) (n := 6) hown' hk' hins hini'
    (g := F0 m pc ls rest) rfl (by rw [hb]; exact d0) (Nat.le_refl _) (Nat.le_refl _)
  generalize hT1 : (T.setVm vm₁).pushCell { cls := cX, slots := kX.instanceTypes.map defaultValue, vm := .none } = T1 at X₁ st1
  have hcat : (Value.ref T.heap.size).category = 1 := rfl
  have hcellA : T1.heap[T.heap.size]? = some (freshCell cX kX) := by rw [← hT1]; exact State.heap_pushCell_size _ _
  have d3' : decode c.code (pc + 3) = .ok (.dup, 1) := by rw [hb]; exact d3
  obtain ⟨U, hsteps, hrun, hend, hW, hsame, ce, hce, hO⟩ := X₁.ctorThrow0 hexec htr (own := own) (cls := cls) (names := names) (ic := ic) hown' hcls hnames h (fun x hx => nomatch hx) hfX hkX hcellA (by rw [hhp, hT]; exact Nat.le_refl _)
    (g := { method := m, pc := pc + 4, locals := ls, stack := .ref T.heap.size :: .ref T.heap.size :: rest, locked := none }) rfl hsize rfl rfl (rest := rest) rfl
    (by rw [hb]; exact d4) (by rw [hb]; exact d7) hout hRframes (by simp only [List.map_cons, List.sum_cons, hcat]; omega) hlocks
  obtain ⟨f1, f2⟩ := vx_frame hsame
  rw [hhp] at f1 f2
  have hWs : s.WarmedH U.vm := State.WarmedH.trans hW0 hW
  have hcl : s.vm.findClass cls = some ce.cls := by
    have h9 := hO.cls
    rw [hvm] at h9
    exact h9
  have hall : s.sameButNew ({ U with vm := s.vm } : State) locs mc ms := by
    subst hA
    obtain ⟨e1, e2⟩ := hsame
    rw [State.setFrames_setFrames] at e1
    have h2 : (T.setVm s.vm).sameButNew ({ U with vm := s.vm } : State) [] (0 + 1) (0 + 6) := ⟨e1, e2⟩
    have h3 := X.same.trans h2
    rw [List.append_nil] at h3
    exact h3.mono hc hs
  refine ⟨U, ?_, .threw T.heap.size, hrun, hend, Or.inr ⟨T.heap.size, rfl, cls, ce, locs, hx U hWs.alike f1 (fun q hq => f2 q hq (fun z hz => nomatch hz)), hce, hO.vm, hcl, hWs, hall, hf⟩⟩
  refine st1 _ ?_
  show Steps p.tables e below (T1.setTop { method := m, pc := pc + 3, locals := ls, stack := .ref T.heap.size :: rest, locked := none }) _
  jvm_step X₁.here [X₁.here.top, hexec, d3', Value.category]
  exact hsteps
/-- 'throw new E("text")': new; dup; ldc; invokespecial; athrow -/
theorem vx_throwS {cc : ByteArray} {pc : Nat} (hexec : p.tables.exec = Jvm.exec) (hb : c.code = cc) (hl : l.stackTraces = false) {own cls text : String} {names : List String} {ik is ic mc ms sa : Nat} {A : Nat → Prop}
    (hown : s.vm.findClass own = some m.cls) (hcls : Bundle.fit cls = true) (hnames : ∀ n ∈ names, Bundle.fit n = true)
    (hk : (Cond.classLink own ik cls).before args s = true) (hini : (Cond.initialized cls).before args s = true) (hstr : vk_R own is text sa s) (hat : ∀ w ∈ vx_atS own ic cls names, w.before args s = true)
    (hgood : ∀ w ∈ Cond.classLink own ik cls :: Cond.initialized cls :: vx_atS own ic cls names, vx_ot w = true)
    (hU : vx_Zq Bundle.tN "UNASSIGNED_STACK" Bundle.steD A s s.heap) (hN : vx_Zq Bundle.tN "SUPPRESSED_SENTINEL" Bundle.listD A s s.heap) (hS : va_S A s.heap H locs) (hsize : ls.size = c.maxLocals)
    (d0 : decode cc pc = .ok (.new ik, 3)) (d3 : decode cc (pc + 3) = .ok (.dup, 1)) (d4 : decode cc (pc + 4) = .ok (.ldc is, 2)) (d6 : decode cc (pc + 6) = .ok (.invokespecial ic, 3)) (d9 : decode cc (pc + 9) = .ok (.athrow, 1))
    (hout : ∀ x ∈ c.exceptionTable.toList, covers x (pc + 9) = false)
    (hRframes : names.length + 3 < R.frames) (hRlocals : (rest.map fun v => v.category).sum + (13 * (names.length + 1) + 43) ≤ R.locals) (hRcells : cells + 1 ≤ R.cells) (hRslots : slots + 6 ≤ R.slots) (hlocks : meth.locks = false)
    (hx : ∀ t : State, s.vm.Alike t.vm → H.size ≤ t.heap.size → (∀ q : Nat, q < H.size → t.heap[q]? = H[q]?) → XC cls s t)
    (hf : ∀ z ∈ locs, free z.base) (hc : cells + 1 ≤ mc) (hs : slots + 6 ≤ ms) :
    W p l e R s m args below meth c H locs cells slots (vx_MQ below Qc XC args s mc ms free) (F0 m pc ls rest) := by
  intro T hT X
  have htr : e.platform.stackTraces = false := (show e.platform.stackTraces = l.stackTraces by rw [X.admits.platform]).trans hl
  have Y := vx_rebase X (R' := { frames := R.frames, locals := R.locals, cells := 1, slots := 6 }) (Nat.le_refl _) (Nat.le_refl _) hRcells hRslots
  obtain ⟨s', hA⟩ : ∃ z, z = (T.setVm s.vm).setFrames (.invoking m args :: below) := ⟨_, rfl⟩
  rw [← hA] at Y
  have hvm : s'.vm = s.vm := by rw [hA]; rfl
  have hhp : s'.heap = H := by rw [hA]; exact hT
  have hW0 : s.WarmedH s'.vm := by rw [hvm]; exact State.WarmedH.refl s
  have hat' : ∀ w ∈ vx_atS own ic cls names, w.before args s' = true := fun w hw => vx_ot_at hW0 hvm.symm (hgood w (List.mem_cons_of_mem _ (List.mem_cons_of_mem _ hw))) (hat w hw)
  have hk' : (Cond.classLink own ik cls).before args s' = true := vx_ot_at hW0 hvm.symm (hgood _ List.mem_cons_self) hk
  have hini' : (Cond.initialized cls).before args s' = true := vx_ot_at hW0 hvm.symm (hgood _ (List.mem_cons_of_mem _ List.mem_cons_self)) hini
  have hU' : vx_Zq Bundle.tN "UNASSIGNED_STACK" Bundle.steD A s' s'.heap := by rw [hhp]; exact vx_Zq.moved hW0.alike (hU.kept hS.2.1)
  have hN' : vx_Zq Bundle.tN "SUPPRESSED_SENTINEL" Bundle.listD A s' s'.heap := by rw [hhp]; exact vx_Zq.moved hW0.alike (hN.kept hS.2.1)
  have h : ∀ w ∈ Bundle.ownAtoms own ic cls names, w.before args s' = true := vx_own hat' (vx_isRefq hU'.1) (vx_isRefq hN'.1) hU'.2.word hN'.2.word
  have hown' : s'.vm.findClass own = some m.cls := by rw [hvm]; exact hown
  have hins : (Cond.instantiable cls 6).before args s' = true := h _ (by simp [Bundle.ownAtoms])
  obtain ⟨vm₁, cX, kX, hfX, hkX, -, -, X₁, st1⟩ := Y.newCold hexec (own := own) (C := cls) (index := ik) (n := 6) hown' hk' hins hini'
    (g := F0 m pc ls rest) rfl (by rw [hb]; exact d0) (Nat.le_refl _) (Nat.le_refl _)
  generalize hT1 : (T.setVm vm₁).pushCell { cls := cX, slots := kX.instanceTypes.map defaultValue, vm := .none } = T1 at X₁ st1
  have hcat : (Value.ref T.heap.size).category = 1 := rfl
  have hcellA : T1.heap[T.heap.size]? = some (freshCell cX kX) := by rw [← hT1]; exact State.heap_pushCell_size _ _
  have d3' : decode c.code (pc + 3) = .ok (.dup, 1) := by rw [hb]; exact d3
  have d4' : decode c.code (pc + 4) = .ok (.ldc is, 2) := by rw [hb]; exact d4
  have hstr' : vk_R own is text sa s' := vk_R.warm hW0 hstr
  obtain ⟨U, hsteps, hrun, hend, hW, hsame, ce, hce, hO⟩ := X₁.ctorThrowS hexec htr (own := own) (cls := cls) (names := names) (ic := ic) hown' hcls hnames h (fun x hx => nomatch hx) hfX hkX hcellA (by rw [hhp, hT]; exact Nat.le_refl _) (msg := .ref sa) rfl
    (g := { method := m, pc := pc + 6, locals := ls, stack := .ref sa :: .ref T.heap.size :: .ref T.heap.size :: rest, locked := none }) rfl hsize rfl rfl (rest := rest) rfl
    (by rw [hb]; exact d6) (by rw [hb]; exact d9) hout hRframes (by simp only [List.map_cons, List.sum_cons, hcat]; omega) hlocks
  obtain ⟨f1, f2⟩ := vx_frame hsame
  rw [hhp] at f1 f2
  have hWs : s.WarmedH U.vm := State.WarmedH.trans hW0 hW
  have hcl : s.vm.findClass cls = some ce.cls := by
    have h9 := hO.cls
    rw [hvm] at h9
    exact h9
  have hall : s.sameButNew ({ U with vm := s.vm } : State) locs mc ms := by
    subst hA
    obtain ⟨e1, e2⟩ := hsame
    rw [State.setFrames_setFrames] at e1
    have h2 : (T.setVm s.vm).sameButNew ({ U with vm := s.vm } : State) [] (0 + 1) (0 + 6) := ⟨e1, e2⟩
    have h3 := X.same.trans h2
    rw [List.append_nil] at h3
    exact h3.mono hc hs
  refine ⟨U, ?_, .threw T.heap.size, hrun, hend, Or.inr ⟨T.heap.size, rfl, cls, ce, locs, hx U hWs.alike f1 (fun q hq => f2 q hq (fun z hz => nomatch hz)), hce, hO.vm, hcl, hWs, hall, hf⟩⟩
  refine st1 _ ?_
  show Steps p.tables e below (T1.setTop { method := m, pc := pc + 3, locals := ls, stack := .ref T.heap.size :: rest, locked := none }) _
  jvm_step X₁.here [X₁.here.top, hexec, d3', Value.category]
  exact X₁.ldcString hexec (own := own) (text := text) (index := is) (a := sa) hown' hstr'.1 hstr'.2
    (g := { method := m, pc := pc + 4, locals := ls, stack := .ref T.heap.size :: .ref T.heap.size :: rest, locked := none }) rfl d4' _ hsteps
/-- 'throw new E("text")', the text by a wide index -/
theorem vx_throwSW {cc : ByteArray} {pc : Nat} (hexec : p.tables.exec = Jvm.exec) (hb : c.code = cc) (hl : l.stackTraces = false) {own cls text : String} {names : List String} {ik is ic mc ms sa : Nat} {A : Nat → Prop}
    (hown : s.vm.findClass own = some m.cls) (hcls : Bundle.fit cls = true) (hnames : ∀ n ∈ names, Bundle.fit n = true)
    (hk : (Cond.classLink own ik cls).before args s = true) (hini : (Cond.initialized cls).before args s = true) (hstr : vk_R own is text sa s) (hat : ∀ w ∈ vx_atS own ic cls names, w.before args s = true)
    (hgood : ∀ w ∈ Cond.classLink own ik cls :: Cond.initialized cls :: vx_atS own ic cls names, vx_ot w = true)
    (hU : vx_Zq Bundle.tN "UNASSIGNED_STACK" Bundle.steD A s s.heap) (hN : vx_Zq Bundle.tN "SUPPRESSED_SENTINEL" Bundle.listD A s s.heap) (hS : va_S A s.heap H locs) (hsize : ls.size = c.maxLocals)
    (d0 : decode cc pc = .ok (.new ik, 3)) (d3 : decode cc (pc + 3) = .ok (.dup, 1)) (d4 : decode cc (pc + 4) = .ok (.ldc_w is, 3)) (d7 : decode cc (pc + 7) = .ok (.invokespecial ic, 3)) (d10 : decode cc (pc + 10) = .ok (.athrow, 1))
    (hout : ∀ x ∈ c.exceptionTable.toList, covers x (pc + 10) = false)
    (hRframes : names.length + 3 < R.frames) (hRlocals : (rest.map fun v => v.category).sum + (13 * (names.length + 1) + 43) ≤ R.locals) (hRcells : cells + 1 ≤ R.cells) (hRslots : slots + 6 ≤ R.slots) (hlocks : meth.locks = false)
    (hx : ∀ t : State, s.vm.Alike t.vm → H.size ≤ t.heap.size → (∀ q : Nat, q < H.size → t.heap[q]? = H[q]?) → XC cls s t)
    (hf : ∀ z ∈ locs, free z.base) (hc : cells + 1 ≤ mc) (hs : slots + 6 ≤ ms) :
    W p l e R s m args below meth c H locs cells slots (vx_MQ below Qc XC args s mc ms free) (F0 m pc ls rest) := by
  intro T hT X
  have htr : e.platform.stackTraces = false := (show e.platform.stackTraces = l.stackTraces by rw [X.admits.platform]).trans hl
  have Y := vx_rebase X (R' := { frames := R.frames, locals := R.locals, cells := 1, slots := 6 }) (Nat.le_refl _) (Nat.le_refl _) hRcells hRslots
  obtain ⟨s', hA⟩ : ∃ z, z = (T.setVm s.vm).setFrames (.invoking m args :: below) := ⟨_, rfl⟩
  rw [← hA] at Y
  have hvm : s'.vm = s.vm := by rw [hA]; rfl
  have hhp : s'.heap = H := by rw [hA]; exact hT
  have hW0 : s.WarmedH s'.vm := by rw [hvm]; exact State.WarmedH.refl s
  have hat' : ∀ w ∈ vx_atS own ic cls names, w.before args s' = true := fun w hw => vx_ot_at hW0 hvm.symm (hgood w (List.mem_cons_of_mem _ (List.mem_cons_of_mem _ hw))) (hat w hw)
  have hk' : (Cond.classLink own ik cls).before args s' = true := vx_ot_at hW0 hvm.symm (hgood _ List.mem_cons_self) hk
  have hini' : (Cond.initialized cls).before args s' = true := vx_ot_at hW0 hvm.symm (hgood _ (List.mem_cons_of_mem _ List.mem_cons_self)) hini
  have hU' : vx_Zq Bundle.tN "UNASSIGNED_STACK" Bundle.steD A s' s'.heap := by rw [hhp]; exact vx_Zq.moved hW0.alike (hU.kept hS.2.1)
  have hN' : vx_Zq Bundle.tN "SUPPRESSED_SENTINEL" Bundle.listD A s' s'.heap := by rw [hhp]; exact vx_Zq.moved hW0.alike (hN.kept hS.2.1)
  have h : ∀ w ∈ Bundle.ownAtoms own ic cls names, w.before args s' = true := vx_own hat' (vx_isRefq hU'.1) (vx_isRefq hN'.1) hU'.2.word hN'.2.word
  have hown' : s'.vm.findClass own = some m.cls := by rw [hvm]; exact hown
  have hins : (Cond.instantiable cls 6).before args s' = true := h _ (by simp [Bundle.ownAtoms])
  obtain ⟨vm₁, cX, kX, hfX, hkX, -, -, X₁, st1⟩ := Y.newCold hexec (own := own) (C := cls) (index := ik) (n := 6) hown' hk' hins hini'
    (g := F0 m pc ls rest) rfl (by rw [hb]; exact d0) (Nat.le_refl _) (Nat.le_refl _)
  generalize hT1 : (T.setVm vm₁).pushCell { cls := cX, slots := kX.instanceTypes.map defaultValue, vm := .none } = T1 at X₁ st1
  have hcat : (Value.ref T.heap.size).category = 1 := rfl
  have hcellA : T1.heap[T.heap.size]? = some (freshCell cX kX) := by rw [← hT1]; exact State.heap_pushCell_size _ _
  have d3' : decode c.code (pc + 3) = .ok (.dup, 1) := by rw [hb]; exact d3
  have d4' : decode c.code (pc + 4) = .ok (.ldc_w is, 3) := by rw [hb]; exact d4
  have hstr' : vk_R own is text sa s' := vk_R.warm hW0 hstr
  obtain ⟨U, hsteps, hrun, hend, hW, hsame, ce, hce, hO⟩ := X₁.ctorThrowS hexec htr (own := own) (cls := cls) (names := names) (ic := ic) hown' hcls hnames h (fun x hx => nomatch hx) hfX hkX hcellA (by rw [hhp, hT]; exact Nat.le_refl _) (msg := .ref sa) rfl
    (g := { method := m, pc := pc + 7, locals := ls, stack := .ref sa :: .ref T.heap.size :: .ref T.heap.size :: rest, locked := none }) rfl hsize rfl rfl (rest := rest) rfl
    (by rw [hb]; exact d7) (by rw [hb]; exact d10) hout hRframes (by simp only [List.map_cons, List.sum_cons, hcat]; omega) hlocks
  obtain ⟨f1, f2⟩ := vx_frame hsame
  rw [hhp] at f1 f2
  have hWs : s.WarmedH U.vm := State.WarmedH.trans hW0 hW
  have hcl : s.vm.findClass cls = some ce.cls := by
    have h9 := hO.cls
    rw [hvm] at h9
    exact h9
  have hall : s.sameButNew ({ U with vm := s.vm } : State) locs mc ms := by
    subst hA
    obtain ⟨e1, e2⟩ := hsame
    rw [State.setFrames_setFrames] at e1
    have h2 : (T.setVm s.vm).sameButNew ({ U with vm := s.vm } : State) [] (0 + 1) (0 + 6) := ⟨e1, e2⟩
    have h3 := X.same.trans h2
    rw [List.append_nil] at h3
    exact h3.mono hc hs
  refine ⟨U, ?_, .threw T.heap.size, hrun, hend, Or.inr ⟨T.heap.size, rfl, cls, ce, locs, hx U hWs.alike f1 (fun q hq => f2 q hq (fun z hz => nomatch hz)), hce, hO.vm, hcl, hWs, hall, hf⟩⟩
  refine st1 _ ?_
  show Steps p.tables e below (T1.setTop { method := m, pc := pc + 3, locals := ls, stack := .ref T.heap.size :: rest, locked := none }) _
  jvm_step X₁.here [X₁.here.top, hexec, d3', Value.category]
  exact X₁.ldcStringW hexec (own := own) (text := text) (index := is) (a := sa) hown' hstr'.1 hstr'.2
    (g := { method := m, pc := pc + 4, locals := ls, stack := .ref T.heap.size :: .ref T.heap.size :: rest, locked := none }) rfl d4' _ hsteps
end Ends
section Bodies
variable {l : Launch}
theorem vx_ofW {y : MethodName} {ws ws' : List Cond} {rm : Room} {Pc : Array Value → State → Prop} {Qc : Array Value → State → Outcome → State → Prop} {XC : String → State → State → Prop} {mc ms : Nat} {free : Addr → Prop} {cc : ByteArray} {maxL : Nat} {ret : Option FieldType}
    (hy : plainName y.cls = true) (hw : ws = Cond.code y cc maxL ret :: ws')
    (body : ∀ p e s m args below meth c s₁, BodyLoose p l y (headSpec ws rm) cc maxL ret e s m args below meth c s₁ → c.maxLocals = maxL → (∀ x ∈ c.exceptionTable.toList, False) → Pc args s →
      W p l e (headSpec ws rm).room s m args below meth c s.heap [] 0 0 (vx_MQ below Qc XC args s mc ms free) (entryFrame m args maxL)) : vx_Met l y ws rm Pc Qc XC mc ms free := by
  refine MetFree.of_bodyS (code := cc) (maxLocals := maxL) (ret := ret) hy ?_ ?_
  · intro args s m h hn
    obtain ⟨meth, c, h1, h2, h3, h4, h5, h6, -, -⟩ := Cond.code_spec hn (atoms_spec (ws := ws) h _ (by rw [hw]; exact List.mem_cons_self))
    exact ⟨meth, c, h1, h2, h3, h4, h5, h6⟩
  · intro p e s m args below meth c s₁ B hml hP _
    have hh0 : s₁.heap = s.heap := by rw [B.state]; rfl
    have ht : ∀ x ∈ c.exceptionTable.toList, False := by
      obtain ⟨meth9, c9, h1, h2, -, -, -, -, h7, -⟩ := Cond.code_spec B.named (atoms_spec (ws := ws) B.pre _ (by rw [hw]; exact List.mem_cons_self))
      cases Option.some.inj (h1.symm.trans B.method)
      cases Option.some.inj (h2.symm.trans (Stand.of_body B).code)
      intro x hx
      rw [Array.isEmpty_iff.mp h7] at hx
      cases hx
    obtain ⟨t, a1, o, b1, b2, b3⟩ := body p e s m args below meth c s₁ B hml ht hP s₁ hh0 (Stand.of_body B)
    exact ⟨t, o, a1, b1, b2, b3⟩
/-- the table of a body with handlers -/
theorem vx_table {p : Program} {x y : MethodName} {S : Spec} {cc bytes : ByteArray} {maxL maxL' : Nat} {ret ret' : Option FieldType} {e : Env} {s s₁ : State} {m : MethodId} {args : Array Value} {below : List Frame} {meth : Method} {c : Code} {hh : List (Nat × Nat × Nat × Nat)}
    (B : BodyLoose p l y S cc maxL ret e s m args below meth c s₁) (h : (Cond.codeWith y bytes maxL' ret' hh).before args s = true) : c.exceptionTable.toList = tableOf hh := by
  obtain ⟨m9, meth9, c9, hn9, h1, h2, -, -, h6, -⟩ := Cond.codeWith_spec h
  cases Option.some.inj (hn9.symm.trans B.named)
  cases Option.some.inj (h1.symm.trans B.method)
  cases Option.some.inj (h2.symm.trans (Stand.of_body B).code)
  rw [← h6, table_eq]
end Bodies
end VXA
/-! ===== END ===== -/
/-! ===== BEGIN a static call of a method with an exception table ===== -/
section VXS
variable {p : Program} {l : Launch} {e : Env} {R : Room} {s : State} {m : MethodId} {args : Array Value} {below : List Frame} {meth : Method} {c : Code} {T : State} {H : Heap} {locs : List Loc} {cells slots : Nat}
abbrev vx_CSW (R : Room) (s : State) (args : Array Value) (own : String) (index : Nat) (y : MethodName) (bytes : ByteArray) (maxL : Nat) (ret : Option FieldType) (hh : List (Nat × Nat × Nat × Nat)) (ws : List Cond) (rm : Room) (mc ms n : Nat) : Prop :=
  (rm.cells = mc ∧ rm.slots = ms ∧ rm.frames + 1 ≤ R.frames ∧ 8 + (maxL + 11) + rm.locals ≤ R.locals ∧ (∀ w ∈ ws, ∀ (a' : Array Value) (U : State), s.WarmedH U.vm → w.before a' U = true) ∧ Cond.codeWith y bytes maxL ret hh ∈ ws) ∧
  (Cond.codeWith y bytes maxL ret hh).before args s = true ∧ (Cond.initialized y.cls).before args s = true ∧ (y.cls ≠ "java/lang/invoke/MethodHandle" ∧ y.cls ≠ "java/lang/invoke/VarHandle") ∧
  (∀ sig, parseMethodDescriptor y.desc = some sig → n = sig.parameters.length) ∧ (Cond.methodLink own index y).before args s = true ∧ (Cond.static y).before args s = true
theorem vx_cwSW {own : String} {index maxL mc ms : Nat} {y : MethodName} {bytes : ByteArray} {ret : Option FieldType} {hh : List (Nat × Nat × Nat × Nat)} {Ts ws ws' : List Cond} {rm : Room} (n : Nat) (ht : ∀ w ∈ Ts, w.before args s = true) (hT : GoodIn Ts (va_wsS own index y ws)) (hw : ws = Cond.codeWith y bytes maxL ret hh :: ws') (hrc : rm.cells = mc) (hrs : rm.slots = ms)
    (hd : y.cls ≠ "java/lang/invoke/MethodHandle" ∧ y.cls ≠ "java/lang/invoke/VarHandle" ∧ (parseMethodDescriptor y.desc).map (fun d => d.parameters.length) = some n) (hR : rm.frames + 1 ≤ R.frames ∧ 8 + (maxL + 11) + rm.locals ≤ R.locals) :
    vx_CSW R s args own index y bytes maxL ret hh ws rm mc ms n := by
  have ok : ∀ w ∈ va_wsS own index y ws, w.before args s = true := fun w h => ht w (hT w h).1
  have hG : GoodIn Ts ws := fun w h => hT w (by unfold va_wsS; exact List.mem_append_right _ h)
  have hc : Cond.codeWith y bytes maxL ret hh ∈ ws := by rw [hw]; exact List.mem_cons_self
  refine ⟨⟨hrc, hrs, hR.1, hR.2, pay_in ht hG, hc⟩, ht _ (hG _ hc).1, ok _ (by simp [va_wsS]), ⟨hd.1, hd.2.1⟩, fun sig h => ?_, ok _ (by simp [va_wsS]), ok _ (by simp [va_wsS])⟩
  have h2 := hd.2.2
  rw [h] at h2
  exact (Option.some.inj h2).symm
theorem vx_callSW (X : Stand p l e R s m args below meth c T locs cells slots) (hexec : p.tables.exec = Jvm.exec) {own : String} {index : Nat} {y : MethodName} {bytes : ByteArray} {maxL : Nat} {ret : Option FieldType} {hh : List (Nat × Nat × Nat × Nat)}
    (hown : s.vm.findClass own = some m.cls) (hlink : (Cond.methodLink own index y).before args s = true) (hstat : (Cond.static y).before args s = true) (hinit : (Cond.initialized y.cls).before args s = true)
    (hcode : (Cond.codeWith y bytes maxL ret hh).before args s = true) (hy : y.cls ≠ "java/lang/invoke/MethodHandle" ∧ y.cls ≠ "java/lang/invoke/VarHandle")
    {W9 : Nat} {Pre : Pt → Array Value → Prop} {Post : Pt → Array Value → Option Value → Pt → Prop} (hK : Back l R p e below s args y 3 W9 Pre Post)
    {g : JFrame} (hg : g.method = m) (hsize : g.locals.size = c.maxLocals) {argsL rest : List Value} (hlen : ∀ sig, parseMethodDescriptor y.desc = some sig → argsL.length = sig.parameters.length)
    (hstack : g.stack = argsL.reverse ++ rest) (hW : 2 * g.monitorRoom + (rest.map fun v => v.category).sum ≤ W9) (hdg : decode c.code g.pc = .ok (.invokestatic index, 3))
    (hpre : ∀ vm₁, s.WarmedH vm₁ → Pre ⟨T.setVm vm₁, locs, cells, slots⟩ argsL.toArray) :
    ∃ (v : Option Value) (vm₁ : Vm) (B : Pt), s.WarmedH vm₁ ∧ Stand p l e R s m args below meth c B.U B.locs B.cells B.slots ∧ Post ⟨T.setVm vm₁, locs, cells, slots⟩ argsL.toArray v B ∧
      ∀ target, Steps p.tables e below (B.U.setTop { g with pc := g.pc + 3, stack := v.toList ++ rest }) target → Steps p.tables e below (T.setTop g) target := by
  obtain ⟨mk, methM, cM, hnamed, hmethM, -, -, -, -, -, -, hsigM⟩ := Cond.codeWith_spec hcode
  have hstatic : methM.isStatic = true := Cond.static_spec hnamed hmethM hstat
  obtain ⟨kP, hkP, -⟩ := className_of_methodNamed hnamed
  have hinitP : kP.init = .initialized := Cond.initialized_spec (findClass_of_methodNamed hnamed) hkP hinit
  obtain ⟨vm₁, X₁, hstep₁⟩ := X.invokestatic hexec hown hlink hnamed hmethM hstatic hkP hinitP hy (g := g) hg (argsL := argsL) (rest := rest) (hlen _ hsigM) hstack hdg
  obtain ⟨v, B, X', hpost, hsteps⟩ := hK m meth c ⟨T.setVm vm₁, locs, cells, slots⟩ { g with stack := rest } (.invokestatic index) mk argsL.toArray X₁ hg hsize hdg hW (X₁.named hnamed) (hpre vm₁ X₁.warmed)
  exact ⟨v, vm₁, B, X₁.warmed, X', hpost, fun target h => hstep₁ _ fun acts => by rw [doInvoke_state]; exact hsteps.trans h⟩
theorem vx_runSW {y : MethodName} {bytes cc : ByteArray} {maxL nL mc ms n index : Nat} {ret : Option FieldType} {hh : List (Nat × Nat × Nat × Nat)} {ws : List Cond} {rm : Room} {Pc : Array Value → State → Prop} {Qc : Array Value → State → Outcome → State → Prop} {free : Addr → Prop} {Ts : List Cond} {own : String} {As rest : List Value} {g : JFrame}
    (S : CallFix p m c cc nL s args Ts own) (hM : Met l y ws rm Pc Qc mc ms free) (cw : vx_CSW R s args own index y bytes maxL ret hh ws rm mc ms n) (hp : PreS s H Pc As)
    (hg : g.method = m) (hn : As.length = n) (hsize : g.locals.size = nL) (hstack : g.stack = As.reverse ++ rest) (hW : 2 * g.monitorRoom + (rest.map fun v => v.category).sum ≤ 8) (hdg : decode cc g.pc = .ok (.invokestatic index, 3)) (hf : cells + mc ≤ R.cells ∧ slots + ms ≤ R.slots) :
    va_Run p l e R s m args below meth c H locs cells slots mc ms g rest (Qc As.toArray) (free) := by
  obtain ⟨⟨hrc, hrs, hfr, hlo, hws, hcw⟩, hcode, hini, hy, hlen, hl, hstt⟩ := cw
  have hK : Back l R p e below s args y 3 8 (PreOf R mc ms Pc) (PostOf Qc mc ms free) := va_backW (hh := hh) (bytes := bytes) (maxL := maxL) (ret := ret) hM hp.1 hrc hrs hfr hlo hws hcw (fun a' U hW => word_at hW (Or.inl (by first | rfl | simp [Cond.onTables, Cond.keeps, Cond.steady])) hini)
  obtain ⟨hx, hb, hml, ho, -⟩ := S
  intro T hT X
  obtain ⟨v, vm₁, ⟨U', l2, c2, s2⟩, hW₁, X', ⟨g', mk, t, L, e1, e2, hq, h1, hL, h2, h3⟩, st⟩ := vx_callSW X hx (hh := hh) (bytes := bytes) (maxL := maxL) (ret := ret) ho hl hstt hini hcode hy hK hg (hsize.trans hml.symm) (argsL := As) (rest := rest) (fun sig h => hn.trans (hlen sig h)) hstack hW (by rw [hb]; exact hdg)
    (fun vm₁ hW₁ => ⟨hf.1, hf.2, hp.2 (T.setVm vm₁) hT hW₁⟩)
  dsimp only [Pt.U, Pt.locs, Pt.cells, Pt.slots] at X' e1 e2 h1 h2 h3 st
  subst h1; subst h2; subst h3
  exact ⟨v, (T.setVm vm₁).calling g' mk As.toArray, t, U', L, hT, X', hL, e1, e2, hq, st⟩
/-- not caught here, past rows that name other classes: it goes on to the caller -/
theorem vx_outP {p : Program} {l : Launch} {e : Env} {R : Room} {s : State} {m : MethodId} {args : Array Value} {below : List Frame} {meth : Method} {c : Code} {H : Heap} {locs : List Loc} {cells slots : Nat} {free : Addr → Prop} {ls : Array Slot} {rest : List Value} {Qc : Array Value → State → Outcome → State → Prop} {XC : String → State → State → Prop}
    {pc : Nat} {own E : String} {ce : Cell} {q : Addr} {mc ms : Nat} (hown : s.vm.findClass own = some m.cls) (hlocks : meth.locks = false)
    (hpass : ∀ z ∈ c.exceptionTable.toList, covers z pc = false ∨ (z.catchType ≠ 0 ∧ ∃ nm : String, (Cond.classLink own z.catchType nm).before args s = true ∧ va_Nc E nm s)) (hcell : H[q]? = some ce) (hv : ce.vm = .none) (hcl : s.vm.findClass E = some ce.cls)
    (hx : ∀ t : State, t.heap = H → s.vm.Alike t.vm → XC E s t) (hf : ∀ z ∈ locs, free z.base) (hc : cells ≤ mc) (hs : slots ≤ ms) :
    vx_W p l e R s m args below meth c H locs cells slots (vx_MQ below Qc XC args s mc ms free) (F0 m pc ls rest) q := by
  intro T hT X
  have hpl : e.platform.magicAccessors = ({} : Platform).magicAccessors := by rw [X.admits.platform]
  obtain ⟨vm', hW', X', st⟩ := X.outThrough hlocks q (g := F0 m pc ls rest) rfl rfl rfl (cell := ce) (by rw [hT]; exact hcell) (by rw [hv]; rfl)
    (by obtain ⟨k9, h9, -⟩ := Vm.findClass_spec hcl; exact ⟨k9, h9⟩) (fun z hz => by
      rcases hpass z hz with h | ⟨hz0, nm, hl1, hn1⟩
      · exact Or.inl h
      · obtain ⟨c6, hc6, hcl6⟩ := Cond.classLink_spec hown hl1 e.platform hpl
        obtain ⟨a8, b8, h1, h2, h3⟩ := hn1
        cases Option.some.inj (h1.symm.trans hcl)
        cases Option.some.inj (h2.symm.trans hc6)
        exact Or.inr ⟨hz0, _, hcl6, h3⟩)
  obtain ⟨g₀, hfr⟩ := X'.frames_eq
  have hcell9 : ((T.setVm vm').setFrames (.throwing q :: below)).heap[q]? = some ce := by
    show T.heap[q]? = some ce
    rw [hT]; exact hcell
  have hend : Ended ((T.setVm vm').setFrames (.throwing q :: below)) below (.threw q) := State.frames_setFrames _ (State.cur_lt_of_frames hfr)
  refine ⟨(T.setVm vm').setFrames (.throwing q :: below), ?_, .threw q, X'.here.running, hend, Or.inr ⟨q, rfl, E, ce, locs, hx _ hT (X'.ends _).1.alike, hcell9, hv, hcl, (X'.ends _).1, (X'.ends _).2.mono hc hs, hf⟩⟩
  rw [X.pushThrowing_eq]
  exact st
/-- a thing of a world lies in the heap -/
theorem vx_lt {D : va_G} {cl : List vw_C} {ws : va_W} {H1 : Heap} (h : va_P D cl ws H1) {k : Nat} {q : Nat × va_E} (hk : ws[k]? = some q) : q.1 < H1.size := (h k q hk).lt
end VXS
/-! ===== END ===== -/
/-! ===== BEGIN methods with a table of their own: called by a name, returning or throwing ===== -/
section VXH
/-! vx_backW, vx_callVX, vx_callSX, vx_callVW, vx_runVW, vx_runVX, vx_runSX, vx_ofWH follow the same proofs as their sisters above (Free/Laws.lean, Shelf42/LK1.lean); vx_outP calls Shelf42/NT130.lean (outThrough). -/
section
variable {l : Launch} {R : Room} {p : Program} {e : Env} {below : List Frame} {s : State} {sargs : Array Value} {y : MethodName} {len W9 : Nat}
theorem vx_backW {ws : List Cond} {rm : Room} {Pc : Array Value → State → Prop} {Qc : Array Value → State → Outcome → State → Prop} {XC : String → State → State → Prop} {mc ms : Nat} {free : Addr → Prop} {bytes : ByteArray} {maxL : Nat} {ret : Option FieldType} {hh : List (Nat × Nat × Nat × Nat)}
    (hM : vx_Met l y ws rm Pc Qc XC mc ms free) (hblind : FrameBlind Pc) (hrc : rm.cells = mc) (hrs : rm.slots = ms)
    (hframes : rm.frames + 1 ≤ R.frames) (hlocals : W9 + (maxL + 11) + rm.locals ≤ R.locals)
    (hws : ∀ w ∈ ws, ∀ a' U, s.WarmedH U.vm → w.before a' U = true) (hcode : Cond.codeWith y bytes maxL ret hh ∈ ws) (hinit : ∀ a' U, s.WarmedH U.vm → (Cond.initialized y.cls).before a' U = true) :
    vx_Back l R p e below s sargs y len W9 (PreOf R mc ms Pc) (PostOf Qc mc ms free) (vx_Post XC mc ms free) := by
  intro m meth c A g ig mk a X hg hsize hdg hW hn hp
  have h1 : (headSpec ws rm).pre.before a A.U = true := atoms_intro fun w hw => hws w hw _ _ X.warmed
  have h2 : (Cond.codeWith y bytes maxL ret hh).before a A.U = true := hws _ hcode _ _ X.warmed
  have h3 : (Cond.initialized y.cls).before a A.U = true := hinit _ _ X.warmed
  have h4 : A.cells + (headSpec ws rm).room.cells ≤ R.cells := by rw [show (headSpec ws rm).room.cells = mc from hrc]; exact hp.1
  have h5 : A.slots + (headSpec ws rm).room.slots ≤ R.slots := by rw [show (headSpec ws rm).room.slots = ms from hrs]; exact hp.2.1
  have hPc : Pc a (A.U.calling g mk a) := hblind _ _ _ _ hp.2.2
  obtain ⟨U, Ls, c0, s0⟩ := A
  dsimp only [Pt.U, Pt.locs, Pt.cells, Pt.slots] at h1 h2 h3 h4 h5 X hn hPc ⊢
  obtain ⟨m9, methY, cY, hn9, hmY, hcY, -, hlY, -⟩ := Cond.codeWith_spec h2
  cases Option.some.inj (hn9.symm.trans hn)
  obtain ⟨kY, hkY, -⟩ := className_of_methodNamed hn
  have hinitY : kY.init = .initialized := Cond.initialized_spec (findClass_of_methodNamed hn) hkY h3
  have h : At U g.method c below := by rw [hg]; exact X.here
  have hlocals9 : W9 + (maxL + 11) + (headSpec ws rm).room.locals ≤ R.locals := hlocals
  have happ : (headSpec ws rm).appliesLoose y e.platform (U.calling g mk a) = true :=
    Spec.appliesLoose_calling (g := g) h hdg hn hkY hinitY
      (X.room_calling (g := g) (R' := (headSpec ws rm).room) hsize hmY hcY hframes (by rw [hlY]; omega) h4 h5) h1
  obtain ⟨mid, hmid⟩ := h.above
  have hfr : (U.setTop g).frames = (.java g :: mid) ++ below := by rw [State.frames_setTop' g h.top, hmid]; rfl
  obtain ⟨o, s₂, hsteps, -, hend, hq⟩ := Steps.callFree hM p X.admits X.cas X.clock (acts := []) hfr happ hPc trivial
  have hq' : vx_Q Qc XC mc ms free a (U.calling g mk a) o s₂ := hq
  rw [State.frames_setTop' g h.top] at hend
  obtain ⟨g₀, hg0⟩ := Option.isSome_iff_exists.mp h.top
  obtain ⟨r, hr⟩ := State.topJava?_eq_some.mp hg0
  have hr' : (({ U with heap := s₂.heap, slotsUsed := s₂.slotsUsed } : State).setVm s₂.vm).frames = .java g₀ :: r := hr
  rcases hq' with ⟨hqc, L, hfe, hL⟩ | ⟨q, rfl, E, ce, L, hx, hce, hcv, hcl, hW₂, hsm, hL⟩
  · obtain ⟨⟨v, rfl⟩, hW₂, e2, q2, q3, q4, q5, q6⟩ := id hfe
    have e3 : s₂ = ({ (U.calling g mk a).setFrames s₂.frames with heap := s₂.heap, slotsUsed := s₂.slotsUsed } : State).setVm s₂.vm := by
      have : s₂ = ({ s₂ with vm := (U.calling g mk a).vm } : State).setVm s₂.vm := rfl
      rw [e2] at this
      exact this
    obtain ⟨c₂, i₂, len₂, hc₂, hd₂, hf₂⟩ := hend
    have hW' : U.WarmedH s₂.vm := hW₂
    have hcc : c₂ = c := by
      have h1 : s₂.code? g.method = U.code? g.method := by
        rw [State.code?_eq, State.code?_eq, hW'.alike.method?]
      exact Option.some.inj (hc₂.symm.trans (h1.trans h.code))
    subst hcc
    have hlen : len₂ = len := by rw [hdg] at hd₂; cases hd₂; rfl
    subst hlen
    have hs₂ : s₂ = (({ U with heap := s₂.heap, slotsUsed := s₂.slotsUsed } : State).setVm s₂.vm).setTop { g with pc := g.pc + len₂, stack := v.toList ++ g.stack } := by
      refine e3.trans ?_
      rw [hf₂, State.calling_eq h.top, State.setFrames_setFrames, State.setTop_of_frames _ hr', hr]
      rfl
    have hsame : U.sameButNew ({ U with heap := s₂.heap, slotsUsed := s₂.slotsUsed } : State) L mc ms := by
      refine ⟨?_, q2, q3, q4, q5, q6⟩
      obtain ⟨t, ht, -⟩ := State.frames_cons hr
      show ({ U with heap := s₂.heap, slotsUsed := s₂.slotsUsed } : State) = { U.setFrames U.frames with heap := s₂.heap, slotsUsed := s₂.slotsUsed }
      rw [State.setFrames_self ht]
    subst hg
    refine Or.inl ⟨v, ⟨(({ U with heap := s₂.heap, slotsUsed := s₂.slotsUsed } : State).setVm s₂.vm), Ls ++ L, c0 + mc, s0 + ms⟩,
      ⟨X.admits, X.cas, X.clock, X.frames, X.room, X.hears, X.method, X.code, (X.here.setHeapUsed s₂.heap s₂.slotsUsed).setVm hW'.alike, X.tail, State.WarmedH.trans X.warmed hW', X.limits, X.bytes, X.same.trans (hsame.setVm s.vm)⟩,
      ⟨g, mk, s₂, L, rfl, rfl, hqc, rfl, hL, rfl, rfl⟩, ?_⟩
    show Steps p.tables e below _ ((({ U with heap := s₂.heap, slotsUsed := s₂.slotsUsed } : State).setVm s₂.vm).setTop { g with pc := g.pc + len₂, stack := v.toList ++ g.stack })
    rw [← hs₂]
    exact hsteps
  · obtain ⟨e2, q2, q3, q4, q5, q6⟩ := id hsm
    have e3 : s₂ = ({ (U.calling g mk a).setFrames s₂.frames with heap := s₂.heap, slotsUsed := s₂.slotsUsed } : State).setVm s₂.vm := by
      have : s₂ = ({ s₂ with vm := (U.calling g mk a).vm } : State).setVm s₂.vm := rfl
      rw [e2] at this
      exact this
    have hf₂ : s₂.frames = .throwing q :: .java g :: U.frames.tail := hend
    have hW' : U.WarmedH s₂.vm := hW₂
    have hs₂ : s₂ = ((({ U with heap := s₂.heap, slotsUsed := s₂.slotsUsed } : State).setVm s₂.vm).setTop g).pushFrame (.throwing q) := by
      refine e3.trans ?_
      rw [hf₂, State.calling_eq h.top, State.setFrames_setFrames, State.pushFrame, State.frames_setTop _ hr', State.setTop_of_frames _ hr', State.setFrames_setFrames, hr]
      rfl
    have hsame : U.sameButNew ({ U with heap := s₂.heap, slotsUsed := s₂.slotsUsed } : State) L mc ms := by
      refine ⟨?_, q2, q3, q4, q5, q6⟩
      obtain ⟨t, ht, -⟩ := State.frames_cons hr
      show ({ U with heap := s₂.heap, slotsUsed := s₂.slotsUsed } : State) = { U.setFrames U.frames with heap := s₂.heap, slotsUsed := s₂.slotsUsed }
      rw [State.setFrames_self ht]
    subst hg
    refine Or.inr ⟨q, ⟨(({ U with heap := s₂.heap, slotsUsed := s₂.slotsUsed } : State).setVm s₂.vm), Ls ++ L, c0 + mc, s0 + ms⟩,
      ⟨X.admits, X.cas, X.clock, X.frames, X.room, X.hears, X.method, X.code, (X.here.setHeapUsed s₂.heap s₂.slotsUsed).setVm hW'.alike, X.tail, State.WarmedH.trans X.warmed hW', X.limits, X.bytes, X.same.trans (hsame.setVm s.vm)⟩,
      ⟨g, mk, s₂, L, E, ce, rfl, rfl, hx, hce, hcv, hcl, rfl, hL, rfl, rfl⟩, ?_⟩
    show Steps p.tables e below _ (((({ U with heap := s₂.heap, slotsUsed := s₂.slotsUsed } : State).setVm s₂.vm).setTop g).pushFrame (.throwing q))
    rw [← hs₂]
    exact hsteps
end
variable {p : Program} {l : Launch} {e : Env} {R : Room} {s : State} {m : MethodId} {args : Array Value} {below : List Frame} {meth : Method} {c : Code} {T : State} {H : Heap} {locs : List Loc} {cells slots : Nat}
theorem vx_callVX (X : Stand p l e R s m args below meth c T locs cells slots) (hexec : p.tables.exec = Jvm.exec) {own C : String} {index : Nat} {y : MethodName} {bytes : ByteArray} {maxL : Nat} {ret : Option FieldType} {hh : List (Nat × Nat × Nat × Nat)}
    (hown : s.vm.findClass own = some m.cls) (hlink : (Cond.methodLink own index y).before args s = true) (hinst : (Cond.instanceMethod y).before args s = true) (hsel : (Cond.selects C y y).before args s = true)
    (hcode : (Cond.codeWith y bytes maxL ret hh).before args s = true) (hy : y.cls ≠ "java/lang/invoke/MethodHandle" ∧ y.cls ≠ "java/lang/invoke/VarHandle")
    {W9 : Nat} {Pre : Pt → Array Value → Prop} {Post : Pt → Array Value → Option Value → Pt → Prop} {PostX : Pt → Array Value → Addr → Pt → Prop} (hK : vx_Back l R p e below s args y 3 W9 Pre Post PostX)
    {b : Addr} {cellB : Cell} (hcell : T.heap[b]? = some cellB) (hobj : cellB.vm.isStatics = false) (hcls : s.vm.findClass C = some cellB.cls)
    {g : JFrame} (hg : g.method = m) (hsize : g.locals.size = c.maxLocals) {argsL rest : List Value} (hlen : ∀ sig, parseMethodDescriptor y.desc = some sig → argsL.length = sig.parameters.length)
    (hstack : g.stack = argsL.reverse ++ .ref b :: rest) (hW : 2 * g.monitorRoom + (rest.map fun v => v.category).sum ≤ W9) (hdg : decode c.code g.pc = .ok (.invokevirtual index, 3))
    (hpre : ∀ vm₁, s.WarmedH vm₁ → Pre ⟨T.setVm vm₁, locs, cells, slots⟩ (Value.ref b :: argsL).toArray) :
    (∃ (v : Option Value) (vm₁ : Vm) (B : Pt), s.WarmedH vm₁ ∧ Stand p l e R s m args below meth c B.U B.locs B.cells B.slots ∧ Post ⟨T.setVm vm₁, locs, cells, slots⟩ (Value.ref b :: argsL).toArray v B ∧
      ∀ target, Steps p.tables e below (B.U.setTop { g with pc := g.pc + 3, stack := v.toList ++ rest }) target → Steps p.tables e below (T.setTop g) target) ∨
    (∃ (q : Addr) (vm₁ : Vm) (B : Pt), s.WarmedH vm₁ ∧ Stand p l e R s m args below meth c B.U B.locs B.cells B.slots ∧ PostX ⟨T.setVm vm₁, locs, cells, slots⟩ (Value.ref b :: argsL).toArray q B ∧
      Steps p.tables e below (T.setTop g) ((B.U.setTop { g with stack := rest }).pushFrame (.throwing q))) := by
  obtain ⟨mk, methM, hnamed, hmethM, hstM, habM⟩ := Cond.instanceMethod_spec hinst
  obtain ⟨m8, methM', cM, hn8, hmethM', -, -, -, -, -, -, hsigM⟩ := Cond.codeWith_spec hcode
  cases Option.some.inj (hn8.symm.trans hnamed)
  cases hmethM.symm.trans hmethM'
  obtain ⟨c2, r2, m2, q1, q2, q3, q4, kP, hkP, hkPi⟩ := Cond.selects_spec hsel
  cases hcls.symm.trans q1
  cases (State.methodFound?_of_named hnamed hy).symm.trans q2
  cases hnamed.symm.trans q3
  have hselP : selectMethod e.platform s.vm cellB.cls mk = .method mk := by rw [Launch.admits_selectMethod X.admits]; exact q4
  obtain ⟨vm₁, X₁, hstep₁⟩ := X.invokevirtual hexec hown hlink hnamed hmethM hstM hkP hkPi hy (a := b) (cell := cellB) hcell
    (fun z h => by rw [h] at hobj; cases hobj) hselP hmethM habM hkP hkPi (g := g) hg (argsL := argsL) (rest := rest) (hlen _ hsigM) hstack hdg
  rcases hK m meth c ⟨T.setVm vm₁, locs, cells, slots⟩ { g with stack := rest } (.invokevirtual index) mk (Value.ref b :: argsL).toArray X₁ hg hsize hdg hW (X₁.named hnamed) (hpre vm₁ X₁.warmed) with ⟨v, B, X', hpost, hsteps⟩ | ⟨q, B, X', hpost, hsteps⟩
  · exact Or.inl ⟨v, vm₁, B, X₁.warmed, X', hpost, fun target h => hstep₁ _ fun acts => by rw [doInvoke_state]; exact hsteps.trans h⟩
  · exact Or.inr ⟨q, vm₁, B, X₁.warmed, X', hpost, hstep₁ _ fun acts => by rw [doInvoke_state]; exact hsteps⟩
theorem vx_callSX (X : Stand p l e R s m args below meth c T locs cells slots) (hexec : p.tables.exec = Jvm.exec) {own : String} {index : Nat} {y : MethodName} {bytes : ByteArray} {maxL : Nat} {ret : Option FieldType} {hh : List (Nat × Nat × Nat × Nat)}
    (hown : s.vm.findClass own = some m.cls) (hlink : (Cond.methodLink own index y).before args s = true) (hstat : (Cond.static y).before args s = true) (hinit : (Cond.initialized y.cls).before args s = true)
    (hcode : (Cond.codeWith y bytes maxL ret hh).before args s = true) (hy : y.cls ≠ "java/lang/invoke/MethodHandle" ∧ y.cls ≠ "java/lang/invoke/VarHandle")
    {W9 : Nat} {Pre : Pt → Array Value → Prop} {Post : Pt → Array Value → Option Value → Pt → Prop} {PostX : Pt → Array Value → Addr → Pt → Prop} (hK : vx_Back l R p e below s args y 3 W9 Pre Post PostX)
    {g : JFrame} (hg : g.method = m) (hsize : g.locals.size = c.maxLocals) {argsL rest : List Value} (hlen : ∀ sig, parseMethodDescriptor y.desc = some sig → argsL.length = sig.parameters.length)
    (hstack : g.stack = argsL.reverse ++ rest) (hW : 2 * g.monitorRoom + (rest.map fun v => v.category).sum ≤ W9) (hdg : decode c.code g.pc = .ok (.invokestatic index, 3))
    (hpre : ∀ vm₁, s.WarmedH vm₁ → Pre ⟨T.setVm vm₁, locs, cells, slots⟩ argsL.toArray) :
    (∃ (v : Option Value) (vm₁ : Vm) (B : Pt), s.WarmedH vm₁ ∧ Stand p l e R s m args below meth c B.U B.locs B.cells B.slots ∧ Post ⟨T.setVm vm₁, locs, cells, slots⟩ argsL.toArray v B ∧
      ∀ target, Steps p.tables e below (B.U.setTop { g with pc := g.pc + 3, stack := v.toList ++ rest }) target → Steps p.tables e below (T.setTop g) target) ∨
    (∃ (q : Addr) (vm₁ : Vm) (B : Pt), s.WarmedH vm₁ ∧ Stand p l e R s m args below meth c B.U B.locs B.cells B.slots ∧ PostX ⟨T.setVm vm₁, locs, cells, slots⟩ argsL.toArray q B ∧
      Steps p.tables e below (T.setTop g) ((B.U.setTop { g with stack := rest }).pushFrame (.throwing q))) := by
  obtain ⟨mk, methM, cM, hnamed, hmethM, -, -, -, -, -, -, hsigM⟩ := Cond.codeWith_spec hcode
  have hstatic : methM.isStatic = true := Cond.static_spec hnamed hmethM hstat
  obtain ⟨kP, hkP, -⟩ := className_of_methodNamed hnamed
  have hinitP : kP.init = .initialized := Cond.initialized_spec (findClass_of_methodNamed hnamed) hkP hinit
  obtain ⟨vm₁, X₁, hstep₁⟩ := X.invokestatic hexec hown hlink hnamed hmethM hstatic hkP hinitP hy (g := g) hg (argsL := argsL) (rest := rest) (hlen _ hsigM) hstack hdg
  rcases hK m meth c ⟨T.setVm vm₁, locs, cells, slots⟩ { g with stack := rest } (.invokestatic index) mk argsL.toArray X₁ hg hsize hdg hW (X₁.named hnamed) (hpre vm₁ X₁.warmed) with ⟨v, B, X', hpost, hsteps⟩ | ⟨q, B, X', hpost, hsteps⟩
  · exact Or.inl ⟨v, vm₁, B, X₁.warmed, X', hpost, fun target h => hstep₁ _ fun acts => by rw [doInvoke_state]; exact hsteps.trans h⟩
  · exact Or.inr ⟨q, vm₁, B, X₁.warmed, X', hpost, hstep₁ _ fun acts => by rw [doInvoke_state]; exact hsteps⟩
theorem vx_callVW (X : Stand p l e R s m args below meth c T locs cells slots) (hexec : p.tables.exec = Jvm.exec) {own C : String} {index : Nat} {y : MethodName} {bytes : ByteArray} {maxL : Nat} {ret : Option FieldType} {hh : List (Nat × Nat × Nat × Nat)}
    (hown : s.vm.findClass own = some m.cls) (hlink : (Cond.methodLink own index y).before args s = true) (hinst : (Cond.instanceMethod y).before args s = true) (hsel : (Cond.selects C y y).before args s = true)
    (hcode : (Cond.codeWith y bytes maxL ret hh).before args s = true) (hy : y.cls ≠ "java/lang/invoke/MethodHandle" ∧ y.cls ≠ "java/lang/invoke/VarHandle")
    {W9 : Nat} {Pre : Pt → Array Value → Prop} {Post : Pt → Array Value → Option Value → Pt → Prop} (hK : Back l R p e below s args y 3 W9 Pre Post)
    {b : Addr} {cellB : Cell} (hcell : T.heap[b]? = some cellB) (hobj : cellB.vm.isStatics = false) (hcls : s.vm.findClass C = some cellB.cls)
    {g : JFrame} (hg : g.method = m) (hsize : g.locals.size = c.maxLocals) {argsL rest : List Value} (hlen : ∀ sig, parseMethodDescriptor y.desc = some sig → argsL.length = sig.parameters.length)
    (hstack : g.stack = argsL.reverse ++ .ref b :: rest) (hW : 2 * g.monitorRoom + (rest.map fun v => v.category).sum ≤ W9) (hdg : decode c.code g.pc = .ok (.invokevirtual index, 3))
    (hpre : ∀ vm₁, s.WarmedH vm₁ → Pre ⟨T.setVm vm₁, locs, cells, slots⟩ (Value.ref b :: argsL).toArray) :
    ∃ (v : Option Value) (vm₁ : Vm) (B : Pt), s.WarmedH vm₁ ∧ Stand p l e R s m args below meth c B.U B.locs B.cells B.slots ∧ Post ⟨T.setVm vm₁, locs, cells, slots⟩ (Value.ref b :: argsL).toArray v B ∧
      ∀ target, Steps p.tables e below (B.U.setTop { g with pc := g.pc + 3, stack := v.toList ++ rest }) target → Steps p.tables e below (T.setTop g) target := by
  obtain ⟨mk, methM, hnamed, hmethM, hstM, habM⟩ := Cond.instanceMethod_spec hinst
  obtain ⟨m8, methM', cM, hn8, hmethM', -, -, -, -, -, -, hsigM⟩ := Cond.codeWith_spec hcode
  cases Option.some.inj (hn8.symm.trans hnamed)
  cases hmethM.symm.trans hmethM'
  obtain ⟨c2, r2, m2, q1, q2, q3, q4, kP, hkP, hkPi⟩ := Cond.selects_spec hsel
  cases hcls.symm.trans q1
  cases (State.methodFound?_of_named hnamed hy).symm.trans q2
  cases hnamed.symm.trans q3
  have hselP : selectMethod e.platform s.vm cellB.cls mk = .method mk := by rw [Launch.admits_selectMethod X.admits]; exact q4
  obtain ⟨vm₁, X₁, hstep₁⟩ := X.invokevirtual hexec hown hlink hnamed hmethM hstM hkP hkPi hy (a := b) (cell := cellB) hcell
    (fun z h => by rw [h] at hobj; cases hobj) hselP hmethM habM hkP hkPi (g := g) hg (argsL := argsL) (rest := rest) (hlen _ hsigM) hstack hdg
  obtain ⟨v, B, X', hpost, hsteps⟩ := hK m meth c ⟨T.setVm vm₁, locs, cells, slots⟩ { g with stack := rest } (.invokevirtual index) mk (Value.ref b :: argsL).toArray X₁ hg hsize hdg hW (X₁.named hnamed) (hpre vm₁ X₁.warmed)
  exact ⟨v, vm₁, B, X₁.warmed, X', hpost, fun target h => hstep₁ _ fun acts => by rw [doInvoke_state]; exact hsteps.trans h⟩
abbrev vx_CVW (R : Room) (s : State) (args : Array Value) (own C : String) (index : Nat) (y : MethodName) (bytes : ByteArray) (maxL : Nat) (ret : Option FieldType) (hh : List (Nat × Nat × Nat × Nat)) (ws : List Cond) (rm : Room) (mc ms n : Nat) : Prop :=
  (rm.cells = mc ∧ rm.slots = ms ∧ rm.frames + 1 ≤ R.frames ∧ 8 + (maxL + 11) + rm.locals ≤ R.locals ∧ (∀ w ∈ ws, ∀ (a' : Array Value) (U : State), s.WarmedH U.vm → w.before a' U = true) ∧ Cond.codeWith y bytes maxL ret hh ∈ ws) ∧
  (Cond.codeWith y bytes maxL ret hh).before args s = true ∧ (Cond.initialized y.cls).before args s = true ∧ (y.cls ≠ "java/lang/invoke/MethodHandle" ∧ y.cls ≠ "java/lang/invoke/VarHandle") ∧
  (∀ sig, parseMethodDescriptor y.desc = some sig → n = sig.parameters.length) ∧ (Cond.methodLink own index y).before args s = true ∧ (Cond.instanceMethod y).before args s = true ∧ (Cond.selects C y y).before args s = true
theorem vx_cwVW {own C : String} {index maxL mc ms : Nat} {y : MethodName} {bytes : ByteArray} {ret : Option FieldType} {hh : List (Nat × Nat × Nat × Nat)} {Ts ws ws' : List Cond} {rm : Room} (n : Nat) (ht : ∀ w ∈ Ts, w.before args s = true) (hT : GoodIn Ts (wsV own index C y ws)) (hw : ws = Cond.codeWith y bytes maxL ret hh :: ws') (hrc : rm.cells = mc) (hrs : rm.slots = ms)
    (hd : y.cls = C ∧ y.cls ≠ "java/lang/invoke/MethodHandle" ∧ y.cls ≠ "java/lang/invoke/VarHandle" ∧ (parseMethodDescriptor y.desc).map (fun d => d.parameters.length) = some n) (hR : rm.frames + 1 ≤ R.frames ∧ 8 + (maxL + 11) + rm.locals ≤ R.locals) :
    vx_CVW R s args own C index y bytes maxL ret hh ws rm mc ms n := by
  obtain ⟨hC, hd⟩ := hd
  subst hC
  have ok : ∀ w ∈ wsV own index y.cls y ws, w.before args s = true := fun w h => ht w (hT w h).1
  have hG : GoodIn Ts ws := fun w h => hT w (by unfold wsV; exact List.mem_append_right _ h)
  have hc : Cond.codeWith y bytes maxL ret hh ∈ ws := by rw [hw]; exact List.mem_cons_self
  refine ⟨⟨hrc, hrs, hR.1, hR.2, pay_in ht hG, hc⟩, ht _ (hG _ hc).1, ok _ (by simp [wsV]), ⟨hd.1, hd.2.1⟩, fun sig h => ?_, ok _ (by simp [wsV]), ok _ (by simp [wsV]), ok _ (by simp [wsV])⟩
  have h2 := hd.2.2
  rw [h] at h2
  exact (Option.some.inj h2).symm
theorem vx_runVW {y : MethodName} {bytes cc : ByteArray} {maxL nL mc ms n index : Nat} {ret : Option FieldType} {hh : List (Nat × Nat × Nat × Nat)} {ws : List Cond} {rm : Room} {Pc : Array Value → State → Prop} {Qc : Array Value → State → Outcome → State → Prop} {free : Addr → Prop} {Ts : List Cond} {own C : String} {b : Addr} {As rest : List Value} {g : JFrame}
    (S : CallFix p m c cc nL s args Ts own) (hM : Met l y ws rm Pc Qc mc ms free) (cw : vx_CVW R s args own C index y bytes maxL ret hh ws rm mc ms n) (hp : PreV s H C b Pc As)
    (hg : g.method = m) (hn : As.length = n) (hsize : g.locals.size = nL) (hstack : g.stack = As.reverse ++ .ref b :: rest) (hW : 2 * g.monitorRoom + (rest.map fun v => v.category).sum ≤ 8) (hdg : decode cc g.pc = .ok (.invokevirtual index, 3)) (hf : cells + mc ≤ R.cells ∧ slots + ms ≤ R.slots) :
    va_Run p l e R s m args below meth c H locs cells slots mc ms g rest (Qc (Value.ref b :: As).toArray) free := by
  obtain ⟨⟨hrc, hrs, hfr, hlo, hws, hcw⟩, hcode, hini, hy, hlen, hl, hin, hse⟩ := cw
  have hK : Back l R p e below s args y 3 8 (PreOf R mc ms Pc) (PostOf Qc mc ms free) := va_backW (hh := hh) (bytes := bytes) (maxL := maxL) (ret := ret) hM hp.1 hrc hrs hfr hlo hws hcw (fun a' U hW => word_at hW (Or.inl (by first | rfl | simp [Cond.onTables, Cond.keeps, Cond.steady])) hini)
  obtain ⟨hx, hb, hml, ho, -⟩ := S
  obtain ⟨-, ⟨cellB, hcB, hoB, hclB⟩, hPc⟩ := hp
  intro T hT X
  obtain ⟨v, vm₁, ⟨U', l2, c2, s2⟩, hW₁, X', ⟨g', mk, t, L, e1, e2, hq, h1, hL, h2, h3⟩, st⟩ := vx_callVW X hx (C := C) (hh := hh) (bytes := bytes) (maxL := maxL) (ret := ret) ho hl hin hse hcode hy hK (by rw [hT]; exact hcB) hoB hclB hg (hsize.trans hml.symm) (argsL := As) (rest := rest) (fun sig h => hn.trans (hlen sig h)) hstack hW (by rw [hb]; exact hdg)
    (fun vm₁ hW₁ => ⟨hf.1, hf.2, hPc (T.setVm vm₁) hT hW₁⟩)
  dsimp only [Pt.U, Pt.locs, Pt.cells, Pt.slots] at X' e1 e2 h1 h2 h3 st
  subst h1; subst h2; subst h3
  exact ⟨v, (T.setVm vm₁).calling g' mk (Value.ref b :: As).toArray, t, U', L, hT, X', hL, e1, e2, hq, st⟩
section
variable {y : MethodName} {bytes cc : ByteArray} {maxL nL mc ms n index : Nat} {ret : Option FieldType} {ws : List Cond} {rm : Room} {Pc : Array Value → State → Prop} {Qc : Array Value → State → Outcome → State → Prop} {XC : String → State → State → Prop} {free : Addr → Prop} {Ts : List Cond} {own C : String} {b : Addr} {As rest : List Value} {g : JFrame}
theorem vx_runVX {hh : List (Nat × Nat × Nat × Nat)} (S : CallFix p m c cc nL s args Ts own) (hM : vx_Met l y ws rm Pc Qc XC mc ms free) (cw : vx_CVW R s args own C index y bytes maxL ret hh ws rm mc ms n) (hp : PreV s H C b Pc As)
    (hg : g.method = m) (hn : As.length = n) (hsize : g.locals.size = nL) (hstack : g.stack = As.reverse ++ .ref b :: rest) (hW : 2 * g.monitorRoom + (rest.map fun v => v.category).sum ≤ 8) (hdg : decode cc g.pc = .ok (.invokevirtual index, 3)) (hf : cells + mc ≤ R.cells ∧ slots + ms ≤ R.slots) :
    vx_Run p l e R s m args below meth c H locs cells slots mc ms g rest (Qc (Value.ref b :: As).toArray) XC free := by
  obtain ⟨⟨hrc, hrs, hfr, hlo, hws, hcw⟩, hcode, hini, hy, hlen, hl, hin, hse⟩ := cw
  have hK : vx_Back l R p e below s args y 3 8 (PreOf R mc ms Pc) (PostOf Qc mc ms free) (vx_Post XC mc ms free) := vx_backW (hh := hh) (bytes := bytes) (maxL := maxL) (ret := ret) hM hp.1 hrc hrs hfr hlo hws hcw (fun a' U hW => word_at hW (Or.inl (by first | rfl | simp [Cond.onTables, Cond.keeps, Cond.steady])) hini)
  obtain ⟨hx, hb, hml, ho, -⟩ := S
  obtain ⟨-, ⟨cellB, hcB, hoB, hclB⟩, hPc⟩ := hp
  intro T hT X
  rcases vx_callVX X hx (C := C) (hh := hh) (bytes := bytes) (maxL := maxL) (ret := ret) ho hl hin hse hcode hy hK (by rw [hT]; exact hcB) hoB hclB hg (hsize.trans hml.symm) (argsL := As) (rest := rest) (fun sig h => hn.trans (hlen sig h)) hstack hW (by rw [hb]; exact hdg)
    (fun vm₁ hW₁ => ⟨hf.1, hf.2, hPc (T.setVm vm₁) hT hW₁⟩) with ⟨v, vm₁, ⟨U', l2, c2, s2⟩, hW₁, X', ⟨g', mk, t, L, e1, e2, hq, h1, hL, h2, h3⟩, st⟩ | ⟨q, vm₁, ⟨U', l2, c2, s2⟩, hW₁, X', ⟨g', mk, t, L, E, ce, e1, e2, hq, hce, hcv, hcl, h1, hL, h2, h3⟩, st⟩
  · dsimp only [Pt.U, Pt.locs, Pt.cells, Pt.slots] at X' e1 e2 h1 h2 h3 st
    subst h1; subst h2; subst h3
    exact Or.inl ⟨v, (T.setVm vm₁).calling g' mk (Value.ref b :: As).toArray, t, U', L, hT, X', hL, e1, e2, hq, st⟩
  · dsimp only [Pt.U, Pt.locs, Pt.cells, Pt.slots] at X' e1 e2 h1 h2 h3 st hcl
    subst h1; subst h2; subst h3
    exact Or.inr ⟨q, (T.setVm vm₁).calling g' mk (Value.ref b :: As).toArray, t, U', L, E, ce, hT, X', hL, e1, e2, hq, hce, hcv, vx_cls hW₁ hcl, st⟩
theorem vx_runSX {hh : List (Nat × Nat × Nat × Nat)} (S : CallFix p m c cc nL s args Ts own) (hM : vx_Met l y ws rm Pc Qc XC mc ms free) (cw : vx_CSW R s args own index y bytes maxL ret hh ws rm mc ms n) (hp : PreS s H Pc As)
    (hg : g.method = m) (hn : As.length = n) (hsize : g.locals.size = nL) (hstack : g.stack = As.reverse ++ rest) (hW : 2 * g.monitorRoom + (rest.map fun v => v.category).sum ≤ 8) (hdg : decode cc g.pc = .ok (.invokestatic index, 3)) (hf : cells + mc ≤ R.cells ∧ slots + ms ≤ R.slots) :
    vx_Run p l e R s m args below meth c H locs cells slots mc ms g rest (Qc As.toArray) XC free := by
  obtain ⟨⟨hrc, hrs, hfr, hlo, hws, hcw⟩, hcode, hini, hy, hlen, hl, hstt⟩ := cw
  have hK : vx_Back l R p e below s args y 3 8 (PreOf R mc ms Pc) (PostOf Qc mc ms free) (vx_Post XC mc ms free) := vx_backW (hh := hh) (bytes := bytes) (maxL := maxL) (ret := ret) hM hp.1 hrc hrs hfr hlo hws hcw (fun a' U hW => word_at hW (Or.inl (by first | rfl | simp [Cond.onTables, Cond.keeps, Cond.steady])) hini)
  obtain ⟨hx, hb, hml, ho, -⟩ := S
  intro T hT X
  rcases vx_callSX X hx (hh := hh) (bytes := bytes) (maxL := maxL) (ret := ret) ho hl hstt hini hcode hy hK hg (hsize.trans hml.symm) (argsL := As) (rest := rest) (fun sig h => hn.trans (hlen sig h)) hstack hW (by rw [hb]; exact hdg)
    (fun vm₁ hW₁ => ⟨hf.1, hf.2, hp.2 (T.setVm vm₁) hT hW₁⟩) with ⟨v, vm₁, ⟨U', l2, c2, s2⟩, hW₁, X', ⟨g', mk, t, L, e1, e2, hq, h1, hL, h2, h3⟩, st⟩ | ⟨q, vm₁, ⟨U', l2, c2, s2⟩, hW₁, X', ⟨g', mk, t, L, E, ce, e1, e2, hq, hce, hcv, hcl, h1, hL, h2, h3⟩, st⟩
  · dsimp only [Pt.U, Pt.locs, Pt.cells, Pt.slots] at X' e1 e2 h1 h2 h3 st
    subst h1; subst h2; subst h3
    exact Or.inl ⟨v, (T.setVm vm₁).calling g' mk As.toArray, t, U', L, hT, X', hL, e1, e2, hq, st⟩
  · dsimp only [Pt.U, Pt.locs, Pt.cells, Pt.slots] at X' e1 e2 h1 h2 h3 st hcl
    subst h1; subst h2; subst h3
    exact Or.inr ⟨q, (T.setVm vm₁).calling g' mk As.toArray, t, U', L, E, ce, hT, X', hL, e1, e2, hq, hce, hcv, vx_cls hW₁ hcl, st⟩
end
end VXH
theorem vx_ofWH {l : Launch} {y : MethodName} {ws ws' : List Cond} {rm : Room} {Pc : Array Value → State → Prop} {Qc : Array Value → State → Outcome → State → Prop} {XC : String → State → State → Prop} {mc ms : Nat} {free : Addr → Prop} {cc : ByteArray} {maxL : Nat} {ret : Option FieldType} {hh : List (Nat × Nat × Nat × Nat)}
    (hy : plainName y.cls = true) (hw : ws = Cond.codeWith y cc maxL ret hh :: ws')
    (body : ∀ p e s m args below meth c s₁, BodyLoose p l y (headSpec ws rm) cc maxL ret e s m args below meth c s₁ → c.maxLocals = maxL → Pc args s →
      W p l e (headSpec ws rm).room s m args below meth c s.heap [] 0 0 (vx_MQ below Qc XC args s mc ms free) (entryFrame m args maxL)) : vx_Met l y ws rm Pc Qc XC mc ms free := by
  refine MetFree.of_bodyS (code := cc) (maxLocals := maxL) (ret := ret) hy ?_ ?_
  · intro args s m h hn
    obtain ⟨m9, meth, c, hn9, h1, h2, h3, h4, -, h5, h6, -⟩ := Cond.codeWith_spec (atoms_spec (ws := ws) h _ (by rw [hw]; exact List.mem_cons_self))
    cases hn.symm.trans hn9
    exact ⟨meth, c, h1, h2, h3, h4, h5, h6⟩
  · intro p e s m args below meth c s₁ B hml hP _
    have hh0 : s₁.heap = s.heap := by rw [B.state]; rfl
    obtain ⟨t, a1, o, b1, b2, b3⟩ := body p e s m args below meth c s₁ B hml hP s₁ hh0 (Stand.of_body B)
    exact ⟨t, o, a1, b1, b2, b3⟩
/-! ===== END ===== -/
end
section
/-! ===== BEGIN printed: names, fields, word lists, decode rows ===== -/
def RX0 : String := "ProgressBilling"
def TX0 : u_T := fun k => match k with
  | 0 => ("ProgressBilling", "lineValue", "[I", true)
  | 1 => ("ProgressBilling", "lineEarned", "[I", true)
  | 2 => ("ProgressBilling", "lineWork", "[I", true)
  | 3 => ("ProgressBilling", "lineBilled", "[I", true)
  | 4 => ("ProgressBilling", "lineHeld", "[I", true)
  | 5 => ("ProgressBilling", "lineCount", "I", false)
  | 6 => ("ProgressBilling", "stepThreshold", "[I", true)
  | 7 => ("ProgressBilling", "stepRate", "[I", true)
  | 8 => ("ProgressBilling", "stepCount", "I", false)
  | 9 => ("ProgressBilling", "holdsByIncrease", "Z", false)
  | 10 => ("ProgressBilling", "applicationState", "[I", true)
  | 11 => ("ProgressBilling", "applicationAmount", "[I", true)
  | 12 => ("ProgressBilling", "applicationBilled", "[I", true)
  | 13 => ("ProgressBilling", "applicationHeld", "[I", true)
  | _ => ("ProgressBilling", "applicationCount", "I", false)
def tyX0 : Nat → FieldType := fun k => match k with
  | 0 => .array .int
  | 1 => .array .int
  | 2 => .array .int
  | 3 => .array .int
  | 4 => .array .int
  | 5 => .int
  | 6 => .array .int
  | 7 => .array .int
  | 8 => .int
  | 9 => .boolean
  | 10 => .array .int
  | 11 => .array .int
  | 12 => .array .int
  | 13 => .array .int
  | _ => .int
abbrev wsX00 : List Cond := u_ws RX0 TX0 15
theorem nmX0 : ∀ a, a < 15 → ∀ b, b < 15 → a ≠ b → (TX0 a).2.1 ≠ (TX0 b).2.1 := by decide +kernel
theorem tyX0_ok : ∀ k, k < 15 → parseFieldDescriptor (TX0 k).2.2.1 = some (tyX0 k) := by decide +kernel
abbrev cX0_init : ByteArray := prog_1_method_1_code
def yX0_init : MethodName := ⟨RX0, "<init>", "()V"⟩
abbrev cX0_addLine : ByteArray := prog_1_method_2_code
def yX0_addLine : MethodName := ⟨RX0, "addLine", "(I)I"⟩
abbrev cX0_changeValue : ByteArray := prog_1_method_3_code
def yX0_changeValue : MethodName := ⟨RX0, "changeValue", "(II)I"⟩
abbrev cX0_split : ByteArray := prog_1_method_4_code
def yX0_split : MethodName := ⟨RX0, "split", "(II)I"⟩
abbrev cX0_setWork : ByteArray := prog_1_method_5_code
def yX0_setWork : MethodName := ⟨RX0, "setWork", "(II)I"⟩
abbrev cX0_store : ByteArray := prog_1_method_6_code
def yX0_store : MethodName := ⟨RX0, "store", "(II)I"⟩
abbrev cX0_place : ByteArray := prog_1_method_7_code
def yX0_place : MethodName := ⟨RX0, "place", "(II)I"⟩
abbrev cX0_setStep : ByteArray := prog_1_method_8_code
def yX0_setStep : MethodName := ⟨RX0, "setStep", "(II)I"⟩
abbrev cX0_dropStep : ByteArray := prog_1_method_9_code
def yX0_dropStep : MethodName := ⟨RX0, "dropStep", "(I)I"⟩
abbrev cX0_hold : ByteArray := prog_1_method_10_code
def yX0_hold : MethodName := ⟨RX0, "hold", "(Z)Z"⟩
abbrev cX0_steps : ByteArray := prog_1_method_11_code
def yX0_steps : MethodName := ⟨RX0, "steps", "()I"⟩
abbrev cX0_progress : ByteArray := prog_1_method_12_code
def yX0_progress : MethodName := ⟨RX0, "progress", "()I"⟩
abbrev cX0_rate : ByteArray := prog_1_method_13_code
def yX0_rate : MethodName := ⟨RX0, "rate", "()I"⟩
abbrev cX0_close : ByteArray := prog_1_method_14_code
def yX0_close : MethodName := ⟨RX0, "close", "()I"⟩
abbrev cX0_nextAmount : ByteArray := prog_1_method_15_code
def yX0_nextAmount : MethodName := ⟨RX0, "nextAmount", "()I"⟩
abbrev cX0_pay : ByteArray := prog_1_method_16_code
def yX0_pay : MethodName := ⟨RX0, "pay", "(I)I"⟩
abbrev cX0_waive : ByteArray := prog_1_method_17_code
def yX0_waive : MethodName := ⟨RX0, "waive", "(I)I"⟩
abbrev cX0_applications : ByteArray := prog_1_method_18_code
def yX0_applications : MethodName := ⟨RX0, "applications", "()I"⟩
abbrev cX0_state : ByteArray := prog_1_method_19_code
def yX0_state : MethodName := ⟨RX0, "state", "(I)I"⟩
abbrev cX0_amount : ByteArray := prog_1_method_20_code
def yX0_amount : MethodName := ⟨RX0, "amount", "(I)I"⟩
abbrev cX0_billedBehind : ByteArray := prog_1_method_21_code
def yX0_billedBehind : MethodName := ⟨RX0, "billedBehind", "(I)I"⟩
abbrev cX0_heldBehind : ByteArray := prog_1_method_22_code
def yX0_heldBehind : MethodName := ⟨RX0, "heldBehind", "(I)I"⟩
abbrev cX0_lines : ByteArray := prog_1_method_23_code
def yX0_lines : MethodName := ⟨RX0, "lines", "()I"⟩
abbrev cX0_value : ByteArray := prog_1_method_24_code
def yX0_value : MethodName := ⟨RX0, "value", "(I)I"⟩
abbrev cX0_work : ByteArray := prog_1_method_25_code
def yX0_work : MethodName := ⟨RX0, "work", "(I)I"⟩
abbrev cX0_goods : ByteArray := prog_1_method_26_code
def yX0_goods : MethodName := ⟨RX0, "goods", "(I)I"⟩
abbrev cX0_billed : ByteArray := prog_1_method_27_code
def yX0_billed : MethodName := ⟨RX0, "billed", "(I)I"⟩
abbrev cX0_held : ByteArray := prog_1_method_28_code
def yX0_held : MethodName := ⟨RX0, "held", "(I)I"⟩
abbrev cX0_lineByShare : ByteArray := prog_1_method_29_code
def yX0_lineByShare : MethodName := ⟨RX0, "lineByShare", "(I)I"⟩
abbrev cX0_contractSum : ByteArray := prog_1_method_30_code
def yX0_contractSum : MethodName := ⟨RX0, "contractSum", "()I"⟩
abbrev cX0_paid : ByteArray := prog_1_method_31_code
def yX0_paid : MethodName := ⟨RX0, "paid", "()I"⟩
abbrev cX0_toCome : ByteArray := prog_1_method_32_code
def yX0_toCome : MethodName := ⟨RX0, "toCome", "()I"⟩
abbrev cX0_requireLine : ByteArray := prog_1_method_33_code
def yX0_requireLine : MethodName := ⟨RX0, "requireLine", "(I)V"⟩
abbrev cX0_requireApplication : ByteArray := prog_1_method_34_code
def yX0_requireApplication : MethodName := ⟨RX0, "requireApplication", "(I)V"⟩
abbrev cX0_requireBetween : ByteArray := prog_1_method_35_code
def yX0_requireBetween : MethodName := ⟨RX0, "requireBetween", "(III)V"⟩
abbrev cX0_requireRoomForLine : ByteArray := prog_1_method_36_code
def yX0_requireRoomForLine : MethodName := ⟨RX0, "requireRoomForLine", "()V"⟩
abbrev cX0_requireValueFor : ByteArray := prog_1_method_37_code
def yX0_requireValueFor : MethodName := ⟨RX0, "requireValueFor", "(II)V"⟩
abbrev cX0_moveShare : ByteArray := prog_1_method_38_code
def yX0_moveShare : MethodName := ⟨RX0, "moveShare", "([IIIII)V"⟩
abbrev cX0_stepWith : ByteArray := prog_1_method_39_code
def yX0_stepWith : MethodName := ⟨RX0, "stepWith", "(I)I"⟩
abbrev cX0_addStep : ByteArray := prog_1_method_40_code
def yX0_addStep : MethodName := ⟨RX0, "addStep", "(II)V"⟩
abbrev cX0_heldIfClosed : ByteArray := prog_1_method_41_code
def yX0_heldIfClosed : MethodName := ⟨RX0, "heldIfClosed", "(II)I"⟩
abbrev cX0_billLines : ByteArray := prog_1_method_42_code
def yX0_billLines : MethodName := ⟨RX0, "billLines", "()V"⟩
abbrev cX0_waiversGiven : ByteArray := prog_1_method_43_code
def yX0_waiversGiven : MethodName := ⟨RX0, "waiversGiven", "()I"⟩
abbrev cX0_placeByShare : ByteArray := prog_1_method_44_code
def yX0_placeByShare : MethodName := ⟨RX0, "placeByShare", "(I)I"⟩
abbrev cX0_isAhead : ByteArray := prog_1_method_45_code
def yX0_isAhead : MethodName := ⟨RX0, "isAhead", "(II)Z"⟩
abbrev cX0_shareDivisor : ByteArray := prog_1_method_46_code
def yX0_shareDivisor : MethodName := ⟨RX0, "shareDivisor", "(I)I"⟩
abbrev cX0_sum : ByteArray := prog_1_method_47_code
def yX0_sum : MethodName := ⟨RX0, "sum", "([II)I"⟩
abbrev cX0_thousandths : ByteArray := prog_1_method_48_code
def yX0_thousandths : MethodName := ⟨RX0, "thousandths", "(II)I"⟩
abbrev cX0_scaledDown : ByteArray := prog_1_method_49_code
def yX0_scaledDown : MethodName := ⟨RX0, "scaledDown", "(III)I"⟩
def RX1 : String := "ProgressBillingModel"
def TX1 : u_T := fun k => match k with
  | 0 => ("ProgressBillingModel", "refusal", "I", false)
  | 1 => ("ProgressBillingModel", "lines", "I", false)
  | 2 => ("ProgressBillingModel", "values", "[I", true)
  | 3 => ("ProgressBillingModel", "earned", "[I", true)
  | 4 => ("ProgressBillingModel", "works", "[I", true)
  | 5 => ("ProgressBillingModel", "billed", "[I", true)
  | 6 => ("ProgressBillingModel", "held", "[I", true)
  | 7 => ("ProgressBillingModel", "rates", "[I", true)
  | 8 => ("ProgressBillingModel", "isByIncrease", "Z", false)
  | 9 => ("ProgressBillingModel", "applications", "I", false)
  | 10 => ("ProgressBillingModel", "states", "[I", true)
  | 11 => ("ProgressBillingModel", "amounts", "[I", true)
  | 12 => ("ProgressBillingModel", "billedThen", "[I", true)
  | _ => ("ProgressBillingModel", "heldThen", "[I", true)
def tyX1 : Nat → FieldType := fun k => match k with
  | 0 => .int
  | 1 => .int
  | 2 => .array .int
  | 3 => .array .int
  | 4 => .array .int
  | 5 => .array .int
  | 6 => .array .int
  | 7 => .array .int
  | 8 => .boolean
  | 9 => .int
  | 10 => .array .int
  | 11 => .array .int
  | 12 => .array .int
  | _ => .array .int
abbrev wsX10 : List Cond := u_ws RX1 TX1 14
theorem nmX1 : ∀ a, a < 14 → ∀ b, b < 14 → a ≠ b → (TX1 a).2.1 ≠ (TX1 b).2.1 := by decide +kernel
theorem tyX1_ok : ∀ k, k < 14 → parseFieldDescriptor (TX1 k).2.2.1 = some (tyX1 k) := by decide +kernel
abbrev cX1_init : ByteArray := prog_3_method_1_code
def yX1_init : MethodName := ⟨RX1, "<init>", "()V"⟩
abbrev cX1_thrown : ByteArray := prog_3_method_2_code
def yX1_thrown : MethodName := ⟨RX1, "thrown", "()I"⟩
abbrev cX1_refused : ByteArray := prog_3_method_3_code
def yX1_refused : MethodName := ⟨RX1, "refused", "(I)Z"⟩
abbrev cX1_fine : ByteArray := prog_3_method_4_code
def yX1_fine : MethodName := ⟨RX1, "fine", "(I)I"⟩
abbrev cX1_in : ByteArray := prog_3_method_5_code
def yX1_in : MethodName := ⟨RX1, "in", "(III)Z"⟩
abbrev cX1_isLine : ByteArray := prog_3_method_6_code
def yX1_isLine : MethodName := ⟨RX1, "isLine", "(I)Z"⟩
abbrev cX1_thousandths : ByteArray := prog_3_method_7_code
def yX1_thousandths : MethodName := ⟨RX1, "thousandths", "(II)I"⟩
abbrev cX1_addLine : ByteArray := prog_3_method_8_code
def yX1_addLine : MethodName := ⟨RX1, "addLine", "(I)I"⟩
abbrev cX1_put : ByteArray := prog_3_method_9_code
def yX1_put : MethodName := ⟨RX1, "put", "(IIIIII)V"⟩
abbrev cX1_changeValue : ByteArray := prog_3_method_10_code
def yX1_changeValue : MethodName := ⟨RX1, "changeValue", "(II)I"⟩
abbrev cX1_share : ByteArray := prog_3_method_11_code
def yX1_share : MethodName := ⟨RX1, "share", "(III)I"⟩
abbrev cX1_split : ByteArray := prog_3_method_12_code
def yX1_split : MethodName := ⟨RX1, "split", "(II)I"⟩
abbrev cX1_setWork : ByteArray := prog_3_method_13_code
def yX1_setWork : MethodName := ⟨RX1, "setWork", "(II)I"⟩
abbrev cX1_store : ByteArray := prog_3_method_14_code
def yX1_store : MethodName := ⟨RX1, "store", "(II)I"⟩
abbrev cX1_place : ByteArray := prog_3_method_15_code
def yX1_place : MethodName := ⟨RX1, "place", "(II)I"⟩
abbrev cX1_countSteps : ByteArray := prog_3_method_16_code
def yX1_countSteps : MethodName := ⟨RX1, "countSteps", "()I"⟩
abbrev cX1_setStep : ByteArray := prog_3_method_17_code
def yX1_setStep : MethodName := ⟨RX1, "setStep", "(II)I"⟩
abbrev cX1_dropStep : ByteArray := prog_3_method_18_code
def yX1_dropStep : MethodName := ⟨RX1, "dropStep", "(I)I"⟩
abbrev cX1_hold : ByteArray := prog_3_method_19_code
def yX1_hold : MethodName := ⟨RX1, "hold", "(Z)Z"⟩
abbrev cX1_steps : ByteArray := prog_3_method_20_code
def yX1_steps : MethodName := ⟨RX1, "steps", "()I"⟩
abbrev cX1_sum : ByteArray := prog_3_method_21_code
def yX1_sum : MethodName := ⟨RX1, "sum", "([I)I"⟩
abbrev cX1_reached : ByteArray := prog_3_method_22_code
def yX1_reached : MethodName := ⟨RX1, "reached", "()I"⟩
abbrev cX1_progress : ByteArray := prog_3_method_23_code
def yX1_progress : MethodName := ⟨RX1, "progress", "()I"⟩
abbrev cX1_rateNow : ByteArray := prog_3_method_24_code
def yX1_rateNow : MethodName := ⟨RX1, "rateNow", "()I"⟩
abbrev cX1_rate : ByteArray := prog_3_method_25_code
def yX1_rate : MethodName := ⟨RX1, "rate", "()I"⟩
abbrev cX1_holdsThen : ByteArray := prog_3_method_26_code
def yX1_holdsThen : MethodName := ⟨RX1, "holdsThen", "(I)I"⟩
abbrev cX1_amountNow : ByteArray := prog_3_method_27_code
def yX1_amountNow : MethodName := ⟨RX1, "amountNow", "()I"⟩
abbrev cX1_close : ByteArray := prog_3_method_28_code
def yX1_close : MethodName := ⟨RX1, "close", "()I"⟩
abbrev cX1_nextAmount : ByteArray := prog_3_method_29_code
def yX1_nextAmount : MethodName := ⟨RX1, "nextAmount", "()I"⟩
abbrev cX1_isApplication : ByteArray := prog_3_method_30_code
def yX1_isApplication : MethodName := ⟨RX1, "isApplication", "(I)Z"⟩
abbrev cX1_waived : ByteArray := prog_3_method_31_code
def yX1_waived : MethodName := ⟨RX1, "waived", "()I"⟩
abbrev cX1_pay : ByteArray := prog_3_method_32_code
def yX1_pay : MethodName := ⟨RX1, "pay", "(I)I"⟩
abbrev cX1_waive : ByteArray := prog_3_method_33_code
def yX1_waive : MethodName := ⟨RX1, "waive", "(I)I"⟩
abbrev cX1_applications : ByteArray := prog_3_method_34_code
def yX1_applications : MethodName := ⟨RX1, "applications", "()I"⟩
abbrev cX1_told : ByteArray := prog_3_method_35_code
def yX1_told : MethodName := ⟨RX1, "told", "(I[I)I"⟩
abbrev cX1_state : ByteArray := prog_3_method_36_code
def yX1_state : MethodName := ⟨RX1, "state", "(I)I"⟩
abbrev cX1_amount : ByteArray := prog_3_method_37_code
def yX1_amount : MethodName := ⟨RX1, "amount", "(I)I"⟩
abbrev cX1_billedBehind : ByteArray := prog_3_method_38_code
def yX1_billedBehind : MethodName := ⟨RX1, "billedBehind", "(I)I"⟩
abbrev cX1_heldBehind : ByteArray := prog_3_method_39_code
def yX1_heldBehind : MethodName := ⟨RX1, "heldBehind", "(I)I"⟩
abbrev cX1_lines : ByteArray := prog_3_method_40_code
def yX1_lines : MethodName := ⟨RX1, "lines", "()I"⟩
abbrev cX1_noLine : ByteArray := prog_3_method_41_code
def yX1_noLine : MethodName := ⟨RX1, "noLine", "(I)Z"⟩
abbrev cX1_value : ByteArray := prog_3_method_42_code
def yX1_value : MethodName := ⟨RX1, "value", "(I)I"⟩
abbrev cX1_work : ByteArray := prog_3_method_43_code
def yX1_work : MethodName := ⟨RX1, "work", "(I)I"⟩
abbrev cX1_goods : ByteArray := prog_3_method_44_code
def yX1_goods : MethodName := ⟨RX1, "goods", "(I)I"⟩
abbrev cX1_billed : ByteArray := prog_3_method_45_code
def yX1_billed : MethodName := ⟨RX1, "billed", "(I)I"⟩
abbrev cX1_held : ByteArray := prog_3_method_46_code
def yX1_held : MethodName := ⟨RX1, "held", "(I)I"⟩
abbrev cX1_isAhead : ByteArray := prog_3_method_47_code
def yX1_isAhead : MethodName := ⟨RX1, "isAhead", "(II)Z"⟩
abbrev cX1_lineByShare : ByteArray := prog_3_method_48_code
def yX1_lineByShare : MethodName := ⟨RX1, "lineByShare", "(I)I"⟩
abbrev cX1_contractSum : ByteArray := prog_3_method_49_code
def yX1_contractSum : MethodName := ⟨RX1, "contractSum", "()I"⟩
abbrev cX1_sumPaid : ByteArray := prog_3_method_50_code
def yX1_sumPaid : MethodName := ⟨RX1, "sumPaid", "()I"⟩
abbrev cX1_paid : ByteArray := prog_3_method_51_code
def yX1_paid : MethodName := ⟨RX1, "paid", "()I"⟩
abbrev cX1_toCome : ByteArray := prog_3_method_52_code
def yX1_toCome : MethodName := ⟨RX1, "toCome", "()I"⟩
def RJ9 : String := "java/lang/Math"
def TJ9 : u_T := fun k => match k with
  | _ => ("", "", "", false)
def tyJ9 : Nat → FieldType := fun k => match k with
  | _ => .int
abbrev wsJ90 : List Cond := u_ws RJ9 TJ9 0
theorem nmJ9 : ∀ a, a < 0 → ∀ b, b < 0 → a ≠ b → (TJ9 a).2.1 ≠ (TJ9 b).2.1 := by decide +kernel
theorem tyJ9_ok : ∀ k, k < 0 → parseFieldDescriptor (TJ9 k).2.2.1 = some (tyJ9 k) := by decide +kernel
abbrev cJ9_floorDiv_f86c9 : ByteArray := prog_8_method_49_code
def yJ9_floorDiv_f86c9 : MethodName := ⟨RJ9, "floorDiv", "(JJ)J"⟩
abbrev cJ9_max_7cf53 : ByteArray := prog_8_method_65_code
def yJ9_max_7cf53 : MethodName := ⟨RJ9, "max", "(II)I"⟩
def RJ0 : String := "java/lang/String"
def TJ0 : u_T := fun k => match k with
  | _ => ("", "", "", false)
def tyJ0 : Nat → FieldType := fun k => match k with
  | _ => .int
abbrev wsJ00 : List Cond := u_ws RJ0 TJ0 0
theorem nmJ0 : ∀ a, a < 0 → ∀ b, b < 0 → a ≠ b → (TJ0 a).2.1 ≠ (TJ0 b).2.1 := by decide +kernel
theorem tyJ0_ok : ∀ k, k < 0 → parseFieldDescriptor (TJ0 k).2.2.1 = some (tyJ0 k) := by decide +kernel
def RL : String := "ProgressBillingLaw"
abbrev cL_addLine : ByteArray := method_3_code
def yL_addLine : MethodName := ⟨RL, "addLine", "(LProgressBilling;I[J)I"⟩
abbrev cL_changeValue : ByteArray := method_4_code
def yL_changeValue : MethodName := ⟨RL, "changeValue", "(LProgressBilling;II[J)I"⟩
abbrev cL_split : ByteArray := method_5_code
def yL_split : MethodName := ⟨RL, "split", "(LProgressBilling;II[J)I"⟩
abbrev cL_setWork : ByteArray := method_6_code
def yL_setWork : MethodName := ⟨RL, "setWork", "(LProgressBilling;II[J)I"⟩
abbrev cL_store : ByteArray := method_7_code
def yL_store : MethodName := ⟨RL, "store", "(LProgressBilling;II[J)I"⟩
abbrev cL_place : ByteArray := method_8_code
def yL_place : MethodName := ⟨RL, "place", "(LProgressBilling;II[J)I"⟩
abbrev cL_setStep : ByteArray := method_9_code
def yL_setStep : MethodName := ⟨RL, "setStep", "(LProgressBilling;II[J)I"⟩
abbrev cL_dropStep : ByteArray := method_10_code
def yL_dropStep : MethodName := ⟨RL, "dropStep", "(LProgressBilling;I[J)I"⟩
abbrev cL_close : ByteArray := method_11_code
def yL_close : MethodName := ⟨RL, "close", "(LProgressBilling;[J)I"⟩
abbrev cL_pay : ByteArray := method_12_code
def yL_pay : MethodName := ⟨RL, "pay", "(LProgressBilling;I[J)I"⟩
abbrev cL_waive : ByteArray := method_13_code
def yL_waive : MethodName := ⟨RL, "waive", "(LProgressBilling;I[J)I"⟩
abbrev cL_state : ByteArray := method_14_code
def yL_state : MethodName := ⟨RL, "state", "(LProgressBilling;I[J)I"⟩
abbrev cL_amount : ByteArray := method_15_code
def yL_amount : MethodName := ⟨RL, "amount", "(LProgressBilling;I[J)I"⟩
abbrev cL_billedBehind : ByteArray := method_16_code
def yL_billedBehind : MethodName := ⟨RL, "billedBehind", "(LProgressBilling;I[J)I"⟩
abbrev cL_heldBehind : ByteArray := method_17_code
def yL_heldBehind : MethodName := ⟨RL, "heldBehind", "(LProgressBilling;I[J)I"⟩
abbrev cL_value : ByteArray := method_18_code
def yL_value : MethodName := ⟨RL, "value", "(LProgressBilling;I[J)I"⟩
abbrev cL_work : ByteArray := method_19_code
def yL_work : MethodName := ⟨RL, "work", "(LProgressBilling;I[J)I"⟩
abbrev cL_goods : ByteArray := method_20_code
def yL_goods : MethodName := ⟨RL, "goods", "(LProgressBilling;I[J)I"⟩
abbrev cL_billed : ByteArray := method_21_code
def yL_billed : MethodName := ⟨RL, "billed", "(LProgressBilling;I[J)I"⟩
abbrev cL_held : ByteArray := method_22_code
def yL_held : MethodName := ⟨RL, "held", "(LProgressBilling;I[J)I"⟩
abbrev cL_lineByShare : ByteArray := method_23_code
def yL_lineByShare : MethodName := ⟨RL, "lineByShare", "(LProgressBilling;I[J)I"⟩
abbrev cL_law : ByteArray := code
def yL_law : MethodName := ⟨RL, "law", "([I)Z"⟩
def wsX0_init : List Cond := .code yX0_init cX0_init 1 none :: ([.methodLink RX0 1 objectInit, .instanceMethod objectInit, .code objectInit ⟨#[0xb1]⟩ 1 none, .arrayClass .int, .fieldLink RX0 9 "ProgressBilling" "lineValue" "[I", .fieldLink RX0 13 "ProgressBilling" "lineEarned" "[I", .fieldLink RX0 16 "ProgressBilling" "lineWork" "[I", .fieldLink RX0 19 "ProgressBilling" "lineBilled" "[I", .fieldLink RX0 22 "ProgressBilling" "lineHeld" "[I", .fieldLink RX0 25 "ProgressBilling" "stepThreshold" "[I", .fieldLink RX0 28 "ProgressBilling" "stepRate" "[I", .fieldLink RX0 31 "ProgressBilling" "applicationState" "[I", .fieldLink RX0 34 "ProgressBilling" "applicationAmount" "[I", .fieldLink RX0 37 "ProgressBilling" "applicationBilled" "[I", .fieldLink RX0 40 "ProgressBilling" "applicationHeld" "[I", .fieldLink RX0 43 "ProgressBilling" "stepCount" "I"] ++ wsX00)
def wsX0_requireBetween : List Cond := .code yX0_requireBetween cX0_requireBetween 3 none :: ([.classLink RX0 157 "java/lang/IllegalArgumentException", .initialized "java/lang/IllegalArgumentException"] ++ (vx_atS RX0 161 "java/lang/IllegalArgumentException" ["java/lang/RuntimeException", "java/lang/Exception"]).filter goodWord)
def wsX0_requireRoomForLine : List Cond := .code yX0_requireRoomForLine cX0_requireRoomForLine 1 none :: ([.classLink RX0 62 "java/lang/IllegalStateException", .initialized "java/lang/IllegalStateException", .fieldLink RX0 55 "ProgressBilling" "lineCount" "I"] ++ wsX00 ++ (vx_atS RX0 66 "java/lang/IllegalStateException" ["java/lang/RuntimeException", "java/lang/Exception"]).filter goodWord)
def wsX0_addLine : List Cond := .code yX0_addLine cX0_addLine 3 (some .int) :: ([.constant RX0 47 (10000000), .fieldLink RX0 55 "ProgressBilling" "lineCount" "I", .fieldLink RX0 9 "ProgressBilling" "lineValue" "[I", .methodLink RX0 48 yX0_requireBetween, .static yX0_requireBetween, .initialized RX0, .code yX0_requireBetween cX0_requireBetween 3 none, .classLink RX0 157 "java/lang/IllegalArgumentException", .initialized "java/lang/IllegalArgumentException", .methodLink RX0 52 yX0_requireRoomForLine, .instanceMethod yX0_requireRoomForLine, .selects RX0 yX0_requireRoomForLine yX0_requireRoomForLine, .code yX0_requireRoomForLine cX0_requireRoomForLine 1 none, .classLink RX0 62 "java/lang/IllegalStateException", .initialized "java/lang/IllegalStateException"] ++ wsX00 ++ (vx_atS RX0 161 "java/lang/IllegalArgumentException" ["java/lang/RuntimeException", "java/lang/Exception"]).filter goodWord ++ (vx_atS RX0 66 "java/lang/IllegalStateException" ["java/lang/RuntimeException", "java/lang/Exception"]).filter goodWord)
def wsX0_requireLine : List Cond := .code yX0_requireLine cX0_requireLine 2 none :: ([.classLink RX0 150 "java/lang/IndexOutOfBoundsException", .initialized "java/lang/IndexOutOfBoundsException", .fieldLink RX0 55 "ProgressBilling" "lineCount" "I"] ++ wsX00 ++ (vx_atS RX0 154 "java/lang/IndexOutOfBoundsException" ["java/lang/RuntimeException", "java/lang/Exception"]).filter goodWord)
def wsX0_changeValue : List Cond := .code yX0_changeValue cX0_changeValue 4 (some .int) :: ([.classLink RX0 62 "java/lang/IllegalStateException", .initialized "java/lang/IllegalStateException", .constant RX0 47 (10000000), .fieldLink RX0 13 "ProgressBilling" "lineEarned" "[I", .fieldLink RX0 9 "ProgressBilling" "lineValue" "[I", .methodLink RX0 58 yX0_requireLine, .instanceMethod yX0_requireLine, .selects RX0 yX0_requireLine yX0_requireLine, .initialized RX0, .code yX0_requireLine cX0_requireLine 2 none, .classLink RX0 150 "java/lang/IndexOutOfBoundsException", .initialized "java/lang/IndexOutOfBoundsException", .fieldLink RX0 55 "ProgressBilling" "lineCount" "I", .methodLink RX0 48 yX0_requireBetween, .static yX0_requireBetween, .code yX0_requireBetween cX0_requireBetween 3 none, .classLink RX0 157 "java/lang/IllegalArgumentException", .initialized "java/lang/IllegalArgumentException"] ++ wsX00 ++ (vx_atS RX0 66 "java/lang/IllegalStateException" ["java/lang/RuntimeException", "java/lang/Exception"]).filter goodWord ++ (vx_atS RX0 154 "java/lang/IndexOutOfBoundsException" ["java/lang/RuntimeException", "java/lang/Exception"]).filter goodWord ++ (vx_atS RX0 161 "java/lang/IllegalArgumentException" ["java/lang/RuntimeException", "java/lang/Exception"]).filter goodWord)
def wsJ9_floorDiv_f86c9 : List Cond := .code yJ9_floorDiv_f86c9 cJ9_floorDiv_f86c9 6 (some .long) :: ([])
def wsX0_scaledDown : List Cond := .code yX0_scaledDown cX0_scaledDown 3 (some .int) :: ([.methodLink RX0 184 yJ9_floorDiv_f86c9, .static yJ9_floorDiv_f86c9, .initialized RJ9, .code yJ9_floorDiv_f86c9 cJ9_floorDiv_f86c9 6 (some .long)])
def wsX0_moveShare : List Cond := .code yX0_moveShare cX0_moveShare 6 none :: ([.methodLink RX0 106 yX0_scaledDown, .static yX0_scaledDown, .initialized RX0, .code yX0_scaledDown cX0_scaledDown 3 (some .int), .methodLink RX0 184 yJ9_floorDiv_f86c9, .static yJ9_floorDiv_f86c9, .initialized RJ9, .code yJ9_floorDiv_f86c9 cJ9_floorDiv_f86c9 6 (some .long)])
def wsX0_split_r1 : List Cond := [Cond.fieldLink RX0 9 "ProgressBilling" "lineValue" "[I", Cond.fieldLink RX0 55 "ProgressBilling" "lineCount" "I", Cond.fieldLink RX0 13 "ProgressBilling" "lineEarned" "[I", Cond.fieldLink RX0 16 "ProgressBilling" "lineWork" "[I", Cond.fieldLink RX0 19 "ProgressBilling" "lineBilled" "[I", Cond.fieldLink RX0 22 "ProgressBilling" "lineHeld" "[I", Cond.methodLink RX0 58 yX0_requireLine, Cond.instanceMethod yX0_requireLine, Cond.selects RX0 yX0_requireLine yX0_requireLine, Cond.initialized RX0, Cond.code yX0_requireLine cX0_requireLine 2 none, Cond.classLink RX0 150 "java/lang/IndexOutOfBoundsException", Cond.initialized "java/lang/IndexOutOfBoundsException", Cond.methodLink RX0 48 yX0_requireBetween, Cond.static yX0_requireBetween, Cond.code yX0_requireBetween cX0_requireBetween 3 none, Cond.classLink RX0 157 "java/lang/IllegalArgumentException", Cond.initialized "java/lang/IllegalArgumentException", Cond.methodLink RX0 52 yX0_requireRoomForLine, Cond.instanceMethod yX0_requireRoomForLine, Cond.selects RX0 yX0_requireRoomForLine yX0_requireRoomForLine, Cond.code yX0_requireRoomForLine cX0_requireRoomForLine 1 none, Cond.classLink RX0 62 "java/lang/IllegalStateException", Cond.initialized "java/lang/IllegalStateException"]
def wsX0_split_r2 : List Cond := [Cond.methodLink RX0 69 yX0_moveShare, Cond.static yX0_moveShare, Cond.code yX0_moveShare cX0_moveShare 6 none, Cond.methodLink RX0 106 yX0_scaledDown, Cond.static yX0_scaledDown, Cond.code yX0_scaledDown cX0_scaledDown 3 (some .int), Cond.methodLink RX0 184 yJ9_floorDiv_f86c9, Cond.static yJ9_floorDiv_f86c9, Cond.initialized RJ9, Cond.code yJ9_floorDiv_f86c9 cJ9_floorDiv_f86c9 6 (some .long)]
def wsX0_split : List Cond := .code yX0_split cX0_split 5 (some .int) :: ((wsX0_split_r1 ++ wsX0_split_r2) ++ wsX00 ++ (vx_atS RX0 154 "java/lang/IndexOutOfBoundsException" ["java/lang/RuntimeException", "java/lang/Exception"]).filter goodWord ++ (vx_atS RX0 161 "java/lang/IllegalArgumentException" ["java/lang/RuntimeException", "java/lang/Exception"]).filter goodWord ++ (vx_atS RX0 66 "java/lang/IllegalStateException" ["java/lang/RuntimeException", "java/lang/Exception"]).filter goodWord)
def wsX0_thousandths : List Cond := .code yX0_thousandths cX0_thousandths 2 (some .int) :: ([.constantLong RX0 180 (500), .constantLong RX0 182 (1000), .methodLink RX0 184 yJ9_floorDiv_f86c9, .static yJ9_floorDiv_f86c9, .initialized RJ9, .code yJ9_floorDiv_f86c9 cJ9_floorDiv_f86c9 6 (some .long)])
def wsX0_requireValueFor : List Cond := .code yX0_requireValueFor cX0_requireValueFor 3 none :: ([.classLink RX0 62 "java/lang/IllegalStateException", .initialized "java/lang/IllegalStateException", .fieldLink RX0 13 "ProgressBilling" "lineEarned" "[I", .fieldLink RX0 9 "ProgressBilling" "lineValue" "[I"] ++ wsX00 ++ (vx_atS RX0 66 "java/lang/IllegalStateException" ["java/lang/RuntimeException", "java/lang/Exception"]).filter goodWord)
def wsX0_setWork_r1 : List Cond := [Cond.classLink RX0 62 "java/lang/IllegalStateException", Cond.initialized "java/lang/IllegalStateException", Cond.fieldLink RX0 9 "ProgressBilling" "lineValue" "[I", Cond.fieldLink RX0 16 "ProgressBilling" "lineWork" "[I", Cond.fieldLink RX0 13 "ProgressBilling" "lineEarned" "[I", Cond.methodLink RX0 58 yX0_requireLine, Cond.instanceMethod yX0_requireLine, Cond.selects RX0 yX0_requireLine yX0_requireLine, Cond.initialized RX0, Cond.code yX0_requireLine cX0_requireLine 2 none, Cond.classLink RX0 150 "java/lang/IndexOutOfBoundsException", Cond.initialized "java/lang/IndexOutOfBoundsException", Cond.fieldLink RX0 55 "ProgressBilling" "lineCount" "I", Cond.methodLink RX0 48 yX0_requireBetween, Cond.static yX0_requireBetween, Cond.code yX0_requireBetween cX0_requireBetween 3 none, Cond.classLink RX0 157 "java/lang/IllegalArgumentException", Cond.initialized "java/lang/IllegalArgumentException", Cond.methodLink RX0 73 yX0_thousandths, Cond.static yX0_thousandths, Cond.code yX0_thousandths cX0_thousandths 2 (some .int), Cond.constantLong RX0 180 (500), Cond.constantLong RX0 182 (1000), Cond.methodLink RX0 184 yJ9_floorDiv_f86c9]
def wsX0_setWork_r2 : List Cond := [Cond.static yJ9_floorDiv_f86c9, Cond.initialized RJ9, Cond.code yJ9_floorDiv_f86c9 cJ9_floorDiv_f86c9 6 (some .long), Cond.methodLink RX0 79 yX0_requireValueFor, Cond.instanceMethod yX0_requireValueFor, Cond.selects RX0 yX0_requireValueFor yX0_requireValueFor, Cond.code yX0_requireValueFor cX0_requireValueFor 3 none]
def wsX0_setWork : List Cond := .code yX0_setWork cX0_setWork 4 (some .int) :: ((wsX0_setWork_r1 ++ wsX0_setWork_r2) ++ wsX00 ++ (vx_atS RX0 66 "java/lang/IllegalStateException" ["java/lang/RuntimeException", "java/lang/Exception"]).filter goodWord ++ (vx_atS RX0 154 "java/lang/IndexOutOfBoundsException" ["java/lang/RuntimeException", "java/lang/Exception"]).filter goodWord ++ (vx_atS RX0 161 "java/lang/IllegalArgumentException" ["java/lang/RuntimeException", "java/lang/Exception"]).filter goodWord)
def wsX0_store : List Cond := .code yX0_store cX0_store 3 (some .int) :: ([.constant RX0 47 (10000000), .fieldLink RX0 13 "ProgressBilling" "lineEarned" "[I", .fieldLink RX0 16 "ProgressBilling" "lineWork" "[I", .methodLink RX0 58 yX0_requireLine, .instanceMethod yX0_requireLine, .selects RX0 yX0_requireLine yX0_requireLine, .initialized RX0, .code yX0_requireLine cX0_requireLine 2 none, .classLink RX0 150 "java/lang/IndexOutOfBoundsException", .initialized "java/lang/IndexOutOfBoundsException", .fieldLink RX0 55 "ProgressBilling" "lineCount" "I", .methodLink RX0 48 yX0_requireBetween, .static yX0_requireBetween, .code yX0_requireBetween cX0_requireBetween 3 none, .classLink RX0 157 "java/lang/IllegalArgumentException", .initialized "java/lang/IllegalArgumentException", .methodLink RX0 79 yX0_requireValueFor, .instanceMethod yX0_requireValueFor, .selects RX0 yX0_requireValueFor yX0_requireValueFor, .code yX0_requireValueFor cX0_requireValueFor 3 none, .classLink RX0 62 "java/lang/IllegalStateException", .initialized "java/lang/IllegalStateException", .fieldLink RX0 9 "ProgressBilling" "lineValue" "[I"] ++ wsX00 ++ (vx_atS RX0 154 "java/lang/IndexOutOfBoundsException" ["java/lang/RuntimeException", "java/lang/Exception"]).filter goodWord ++ (vx_atS RX0 161 "java/lang/IllegalArgumentException" ["java/lang/RuntimeException", "java/lang/Exception"]).filter goodWord ++ (vx_atS RX0 66 "java/lang/IllegalStateException" ["java/lang/RuntimeException", "java/lang/Exception"]).filter goodWord)
def wsX0_place : List Cond := .code yX0_place cX0_place 3 (some .int) :: ([.classLink RX0 62 "java/lang/IllegalStateException", .initialized "java/lang/IllegalStateException", .constant RX0 47 (10000000), .fieldLink RX0 13 "ProgressBilling" "lineEarned" "[I", .fieldLink RX0 16 "ProgressBilling" "lineWork" "[I", .methodLink RX0 58 yX0_requireLine, .instanceMethod yX0_requireLine, .selects RX0 yX0_requireLine yX0_requireLine, .initialized RX0, .code yX0_requireLine cX0_requireLine 2 none, .classLink RX0 150 "java/lang/IndexOutOfBoundsException", .initialized "java/lang/IndexOutOfBoundsException", .fieldLink RX0 55 "ProgressBilling" "lineCount" "I", .methodLink RX0 48 yX0_requireBetween, .static yX0_requireBetween, .code yX0_requireBetween cX0_requireBetween 3 none, .classLink RX0 157 "java/lang/IllegalArgumentException", .initialized "java/lang/IllegalArgumentException"] ++ wsX00 ++ (vx_atS RX0 66 "java/lang/IllegalStateException" ["java/lang/RuntimeException", "java/lang/Exception"]).filter goodWord ++ (vx_atS RX0 154 "java/lang/IndexOutOfBoundsException" ["java/lang/RuntimeException", "java/lang/Exception"]).filter goodWord ++ (vx_atS RX0 161 "java/lang/IllegalArgumentException" ["java/lang/RuntimeException", "java/lang/Exception"]).filter goodWord)
def wsX0_stepWith : List Cond := .code yX0_stepWith cX0_stepWith 3 (some .int) :: ([.fieldLink RX0 43 "ProgressBilling" "stepCount" "I", .fieldLink RX0 25 "ProgressBilling" "stepThreshold" "[I"] ++ wsX00)
def wsX0_addStep : List Cond := .code yX0_addStep cX0_addStep 3 none :: ([.classLink RX0 62 "java/lang/IllegalStateException", .initialized "java/lang/IllegalStateException", .fieldLink RX0 43 "ProgressBilling" "stepCount" "I", .fieldLink RX0 25 "ProgressBilling" "stepThreshold" "[I", .fieldLink RX0 28 "ProgressBilling" "stepRate" "[I"] ++ wsX00 ++ (vx_atS RX0 66 "java/lang/IllegalStateException" ["java/lang/RuntimeException", "java/lang/Exception"]).filter goodWord)
def wsX0_setStep : List Cond := .code yX0_setStep cX0_setStep 5 (some .int) :: ([.fieldLink RX0 28 "ProgressBilling" "stepRate" "[I", .methodLink RX0 48 yX0_requireBetween, .static yX0_requireBetween, .initialized RX0, .code yX0_requireBetween cX0_requireBetween 3 none, .classLink RX0 157 "java/lang/IllegalArgumentException", .initialized "java/lang/IllegalArgumentException", .methodLink RX0 85 yX0_stepWith, .instanceMethod yX0_stepWith, .selects RX0 yX0_stepWith yX0_stepWith, .code yX0_stepWith cX0_stepWith 3 (some .int), .fieldLink RX0 43 "ProgressBilling" "stepCount" "I", .fieldLink RX0 25 "ProgressBilling" "stepThreshold" "[I", .methodLink RX0 89 yX0_addStep, .instanceMethod yX0_addStep, .selects RX0 yX0_addStep yX0_addStep, .code yX0_addStep cX0_addStep 3 none, .classLink RX0 62 "java/lang/IllegalStateException", .initialized "java/lang/IllegalStateException"] ++ wsX00 ++ (vx_atS RX0 161 "java/lang/IllegalArgumentException" ["java/lang/RuntimeException", "java/lang/Exception"]).filter goodWord ++ (vx_atS RX0 66 "java/lang/IllegalStateException" ["java/lang/RuntimeException", "java/lang/Exception"]).filter goodWord)
def wsX0_dropStep : List Cond := .code yX0_dropStep cX0_dropStep 5 (some .int) :: ([.classLink RX0 62 "java/lang/IllegalStateException", .initialized "java/lang/IllegalStateException", .fieldLink RX0 28 "ProgressBilling" "stepRate" "[I", .fieldLink RX0 43 "ProgressBilling" "stepCount" "I", .fieldLink RX0 25 "ProgressBilling" "stepThreshold" "[I", .methodLink RX0 48 yX0_requireBetween, .static yX0_requireBetween, .initialized RX0, .code yX0_requireBetween cX0_requireBetween 3 none, .classLink RX0 157 "java/lang/IllegalArgumentException", .initialized "java/lang/IllegalArgumentException", .methodLink RX0 85 yX0_stepWith, .instanceMethod yX0_stepWith, .selects RX0 yX0_stepWith yX0_stepWith, .code yX0_stepWith cX0_stepWith 3 (some .int)] ++ wsX00 ++ (vx_atS RX0 66 "java/lang/IllegalStateException" ["java/lang/RuntimeException", "java/lang/Exception"]).filter goodWord ++ (vx_atS RX0 161 "java/lang/IllegalArgumentException" ["java/lang/RuntimeException", "java/lang/Exception"]).filter goodWord)
def wsX0_hold : List Cond := .code yX0_hold cX0_hold 3 (some .boolean) :: ([.fieldLink RX0 94 "ProgressBilling" "holdsByIncrease" "Z"] ++ wsX00)
def wsX0_steps : List Cond := .code yX0_steps cX0_steps 1 (some .int) :: ([.fieldLink RX0 43 "ProgressBilling" "stepCount" "I"] ++ wsX00)
def wsX0_sum : List Cond := .code yX0_sum cX0_sum 4 (some .int) :: ([])
def wsX0_contractSum : List Cond := .code yX0_contractSum cX0_contractSum 1 (some .int) :: ([.fieldLink RX0 9 "ProgressBilling" "lineValue" "[I", .fieldLink RX0 55 "ProgressBilling" "lineCount" "I", .methodLink RX0 98 yX0_sum, .static yX0_sum, .initialized RX0, .code yX0_sum cX0_sum 4 (some .int)] ++ wsX00)
def wsX0_progress : List Cond := .code yX0_progress cX0_progress 1 (some .int) :: ([.fieldLink RX0 16 "ProgressBilling" "lineWork" "[I", .fieldLink RX0 55 "ProgressBilling" "lineCount" "I", .methodLink RX0 98 yX0_sum, .static yX0_sum, .initialized RX0, .code yX0_sum cX0_sum 4 (some .int), .methodLink RX0 102 yX0_contractSum, .instanceMethod yX0_contractSum, .selects RX0 yX0_contractSum yX0_contractSum, .code yX0_contractSum cX0_contractSum 1 (some .int), .fieldLink RX0 9 "ProgressBilling" "lineValue" "[I", .methodLink RX0 106 yX0_scaledDown, .static yX0_scaledDown, .code yX0_scaledDown cX0_scaledDown 3 (some .int), .methodLink RX0 184 yJ9_floorDiv_f86c9, .static yJ9_floorDiv_f86c9, .initialized RJ9, .code yJ9_floorDiv_f86c9 cJ9_floorDiv_f86c9 6 (some .long)] ++ wsX00)
def wsX0_rate_r1 : List Cond := [Cond.fieldLink RX0 43 "ProgressBilling" "stepCount" "I", Cond.fieldLink RX0 25 "ProgressBilling" "stepThreshold" "[I", Cond.fieldLink RX0 28 "ProgressBilling" "stepRate" "[I", Cond.methodLink RX0 110 yX0_progress, Cond.instanceMethod yX0_progress, Cond.selects RX0 yX0_progress yX0_progress, Cond.initialized RX0, Cond.code yX0_progress cX0_progress 1 (some .int), Cond.fieldLink RX0 16 "ProgressBilling" "lineWork" "[I", Cond.fieldLink RX0 55 "ProgressBilling" "lineCount" "I", Cond.methodLink RX0 98 yX0_sum, Cond.static yX0_sum, Cond.code yX0_sum cX0_sum 4 (some .int), Cond.methodLink RX0 102 yX0_contractSum, Cond.instanceMethod yX0_contractSum, Cond.selects RX0 yX0_contractSum yX0_contractSum, Cond.code yX0_contractSum cX0_contractSum 1 (some .int), Cond.fieldLink RX0 9 "ProgressBilling" "lineValue" "[I", Cond.methodLink RX0 106 yX0_scaledDown, Cond.static yX0_scaledDown, Cond.code yX0_scaledDown cX0_scaledDown 3 (some .int), Cond.methodLink RX0 184 yJ9_floorDiv_f86c9, Cond.static yJ9_floorDiv_f86c9, Cond.initialized RJ9]
def wsX0_rate_r2 : List Cond := [Cond.code yJ9_floorDiv_f86c9 cJ9_floorDiv_f86c9 6 (some .long)]
def wsX0_rate : List Cond := .code yX0_rate cX0_rate 4 (some .int) :: ((wsX0_rate_r1 ++ wsX0_rate_r2) ++ wsX00)
def wsX0_heldIfClosed : List Cond := .code yX0_heldIfClosed cX0_heldIfClosed 3 (some .int) :: ([.fieldLink RX0 94 "ProgressBilling" "holdsByIncrease" "Z", .fieldLink RX0 22 "ProgressBilling" "lineHeld" "[I", .fieldLink RX0 13 "ProgressBilling" "lineEarned" "[I", .fieldLink RX0 19 "ProgressBilling" "lineBilled" "[I", .methodLink RX0 73 yX0_thousandths, .static yX0_thousandths, .initialized RX0, .code yX0_thousandths cX0_thousandths 2 (some .int), .constantLong RX0 180 (500), .constantLong RX0 182 (1000), .methodLink RX0 184 yJ9_floorDiv_f86c9, .static yJ9_floorDiv_f86c9, .initialized RJ9, .code yJ9_floorDiv_f86c9 cJ9_floorDiv_f86c9 6 (some .long)] ++ wsX00)
def wsX0_nextAmount_r1 : List Cond := [Cond.fieldLink RX0 13 "ProgressBilling" "lineEarned" "[I", Cond.fieldLink RX0 55 "ProgressBilling" "lineCount" "I", Cond.fieldLink RX0 34 "ProgressBilling" "applicationAmount" "[I", Cond.fieldLink RX0 115 "ProgressBilling" "applicationCount" "I", Cond.methodLink RX0 126 yX0_rate, Cond.instanceMethod yX0_rate, Cond.selects RX0 yX0_rate yX0_rate, Cond.initialized RX0, Cond.code yX0_rate cX0_rate 4 (some .int), Cond.fieldLink RX0 43 "ProgressBilling" "stepCount" "I", Cond.fieldLink RX0 25 "ProgressBilling" "stepThreshold" "[I", Cond.fieldLink RX0 28 "ProgressBilling" "stepRate" "[I", Cond.methodLink RX0 110 yX0_progress, Cond.instanceMethod yX0_progress, Cond.selects RX0 yX0_progress yX0_progress, Cond.code yX0_progress cX0_progress 1 (some .int), Cond.fieldLink RX0 16 "ProgressBilling" "lineWork" "[I", Cond.methodLink RX0 98 yX0_sum, Cond.static yX0_sum, Cond.code yX0_sum cX0_sum 4 (some .int), Cond.methodLink RX0 102 yX0_contractSum, Cond.instanceMethod yX0_contractSum, Cond.selects RX0 yX0_contractSum yX0_contractSum, Cond.code yX0_contractSum cX0_contractSum 1 (some .int)]
def wsX0_nextAmount_r2 : List Cond := [Cond.fieldLink RX0 9 "ProgressBilling" "lineValue" "[I", Cond.methodLink RX0 106 yX0_scaledDown, Cond.static yX0_scaledDown, Cond.code yX0_scaledDown cX0_scaledDown 3 (some .int), Cond.methodLink RX0 184 yJ9_floorDiv_f86c9, Cond.static yJ9_floorDiv_f86c9, Cond.initialized RJ9, Cond.code yJ9_floorDiv_f86c9 cJ9_floorDiv_f86c9 6 (some .long), Cond.methodLink RX0 129 yX0_heldIfClosed, Cond.instanceMethod yX0_heldIfClosed, Cond.selects RX0 yX0_heldIfClosed yX0_heldIfClosed, Cond.code yX0_heldIfClosed cX0_heldIfClosed 3 (some .int), Cond.fieldLink RX0 94 "ProgressBilling" "holdsByIncrease" "Z", Cond.fieldLink RX0 22 "ProgressBilling" "lineHeld" "[I", Cond.fieldLink RX0 19 "ProgressBilling" "lineBilled" "[I", Cond.methodLink RX0 73 yX0_thousandths, Cond.static yX0_thousandths, Cond.code yX0_thousandths cX0_thousandths 2 (some .int), Cond.constantLong RX0 180 (500), Cond.constantLong RX0 182 (1000)]
def wsX0_nextAmount : List Cond := .code yX0_nextAmount cX0_nextAmount 4 (some .int) :: ((wsX0_nextAmount_r1 ++ wsX0_nextAmount_r2) ++ wsX00)
def wsX0_billLines_r1 : List Cond := [Cond.fieldLink RX0 55 "ProgressBilling" "lineCount" "I", Cond.fieldLink RX0 22 "ProgressBilling" "lineHeld" "[I", Cond.fieldLink RX0 19 "ProgressBilling" "lineBilled" "[I", Cond.fieldLink RX0 13 "ProgressBilling" "lineEarned" "[I", Cond.methodLink RX0 126 yX0_rate, Cond.instanceMethod yX0_rate, Cond.selects RX0 yX0_rate yX0_rate, Cond.initialized RX0, Cond.code yX0_rate cX0_rate 4 (some .int), Cond.fieldLink RX0 43 "ProgressBilling" "stepCount" "I", Cond.fieldLink RX0 25 "ProgressBilling" "stepThreshold" "[I", Cond.fieldLink RX0 28 "ProgressBilling" "stepRate" "[I", Cond.methodLink RX0 110 yX0_progress, Cond.instanceMethod yX0_progress, Cond.selects RX0 yX0_progress yX0_progress, Cond.code yX0_progress cX0_progress 1 (some .int), Cond.fieldLink RX0 16 "ProgressBilling" "lineWork" "[I", Cond.methodLink RX0 98 yX0_sum, Cond.static yX0_sum, Cond.code yX0_sum cX0_sum 4 (some .int), Cond.methodLink RX0 102 yX0_contractSum, Cond.instanceMethod yX0_contractSum, Cond.selects RX0 yX0_contractSum yX0_contractSum, Cond.code yX0_contractSum cX0_contractSum 1 (some .int)]
def wsX0_billLines_r2 : List Cond := [Cond.fieldLink RX0 9 "ProgressBilling" "lineValue" "[I", Cond.methodLink RX0 106 yX0_scaledDown, Cond.static yX0_scaledDown, Cond.code yX0_scaledDown cX0_scaledDown 3 (some .int), Cond.methodLink RX0 184 yJ9_floorDiv_f86c9, Cond.static yJ9_floorDiv_f86c9, Cond.initialized RJ9, Cond.code yJ9_floorDiv_f86c9 cJ9_floorDiv_f86c9 6 (some .long), Cond.methodLink RX0 129 yX0_heldIfClosed, Cond.instanceMethod yX0_heldIfClosed, Cond.selects RX0 yX0_heldIfClosed yX0_heldIfClosed, Cond.code yX0_heldIfClosed cX0_heldIfClosed 3 (some .int), Cond.fieldLink RX0 94 "ProgressBilling" "holdsByIncrease" "Z", Cond.methodLink RX0 73 yX0_thousandths, Cond.static yX0_thousandths, Cond.code yX0_thousandths cX0_thousandths 2 (some .int), Cond.constantLong RX0 180 (500), Cond.constantLong RX0 182 (1000)]
def wsX0_billLines : List Cond := .code yX0_billLines cX0_billLines 3 none :: ((wsX0_billLines_r1 ++ wsX0_billLines_r2) ++ wsX00)
def wsX0_close_r1 : List Cond := [Cond.classLink RX0 62 "java/lang/IllegalStateException", Cond.initialized "java/lang/IllegalStateException", Cond.fieldLink RX0 55 "ProgressBilling" "lineCount" "I", Cond.fieldLink RX0 115 "ProgressBilling" "applicationCount" "I", Cond.fieldLink RX0 34 "ProgressBilling" "applicationAmount" "[I", Cond.fieldLink RX0 31 "ProgressBilling" "applicationState" "[I", Cond.fieldLink RX0 37 "ProgressBilling" "applicationBilled" "[I", Cond.fieldLink RX0 19 "ProgressBilling" "lineBilled" "[I", Cond.fieldLink RX0 40 "ProgressBilling" "applicationHeld" "[I", Cond.fieldLink RX0 22 "ProgressBilling" "lineHeld" "[I", Cond.methodLink RX0 120 yX0_nextAmount, Cond.instanceMethod yX0_nextAmount, Cond.selects RX0 yX0_nextAmount yX0_nextAmount, Cond.initialized RX0, Cond.code yX0_nextAmount cX0_nextAmount 4 (some .int), Cond.fieldLink RX0 13 "ProgressBilling" "lineEarned" "[I", Cond.methodLink RX0 126 yX0_rate, Cond.instanceMethod yX0_rate, Cond.selects RX0 yX0_rate yX0_rate, Cond.code yX0_rate cX0_rate 4 (some .int), Cond.fieldLink RX0 43 "ProgressBilling" "stepCount" "I", Cond.fieldLink RX0 25 "ProgressBilling" "stepThreshold" "[I", Cond.fieldLink RX0 28 "ProgressBilling" "stepRate" "[I", Cond.methodLink RX0 110 yX0_progress]
def wsX0_close_r2 : List Cond := [Cond.instanceMethod yX0_progress, Cond.selects RX0 yX0_progress yX0_progress, Cond.code yX0_progress cX0_progress 1 (some .int), Cond.fieldLink RX0 16 "ProgressBilling" "lineWork" "[I", Cond.methodLink RX0 98 yX0_sum, Cond.static yX0_sum, Cond.code yX0_sum cX0_sum 4 (some .int), Cond.methodLink RX0 102 yX0_contractSum, Cond.instanceMethod yX0_contractSum, Cond.selects RX0 yX0_contractSum yX0_contractSum, Cond.code yX0_contractSum cX0_contractSum 1 (some .int), Cond.fieldLink RX0 9 "ProgressBilling" "lineValue" "[I", Cond.methodLink RX0 106 yX0_scaledDown, Cond.static yX0_scaledDown, Cond.code yX0_scaledDown cX0_scaledDown 3 (some .int), Cond.methodLink RX0 184 yJ9_floorDiv_f86c9, Cond.static yJ9_floorDiv_f86c9, Cond.initialized RJ9, Cond.code yJ9_floorDiv_f86c9 cJ9_floorDiv_f86c9 6 (some .long), Cond.methodLink RX0 129 yX0_heldIfClosed, Cond.instanceMethod yX0_heldIfClosed, Cond.selects RX0 yX0_heldIfClosed yX0_heldIfClosed, Cond.code yX0_heldIfClosed cX0_heldIfClosed 3 (some .int), Cond.fieldLink RX0 94 "ProgressBilling" "holdsByIncrease" "Z"]
def wsX0_close_r3 : List Cond := [Cond.methodLink RX0 73 yX0_thousandths, Cond.static yX0_thousandths, Cond.code yX0_thousandths cX0_thousandths 2 (some .int), Cond.constantLong RX0 180 (500), Cond.constantLong RX0 182 (1000), Cond.methodLink RX0 123 yX0_billLines, Cond.instanceMethod yX0_billLines, Cond.selects RX0 yX0_billLines yX0_billLines, Cond.code yX0_billLines cX0_billLines 3 none]
def wsX0_close : List Cond := .code yX0_close cX0_close 2 (some .int) :: ((wsX0_close_r1 ++ (wsX0_close_r2 ++ wsX0_close_r3)) ++ wsX00 ++ (vx_atS RX0 66 "java/lang/IllegalStateException" ["java/lang/RuntimeException", "java/lang/Exception"]).filter goodWord)
def wsX0_requireApplication : List Cond := .code yX0_requireApplication cX0_requireApplication 2 none :: ([.classLink RX0 150 "java/lang/IndexOutOfBoundsException", .initialized "java/lang/IndexOutOfBoundsException", .fieldLink RX0 115 "ProgressBilling" "applicationCount" "I"] ++ wsX00 ++ (vx_atS RX0 154 "java/lang/IndexOutOfBoundsException" ["java/lang/RuntimeException", "java/lang/Exception"]).filter goodWord)
def wsX0_waiversGiven : List Cond := .code yX0_waiversGiven cX0_waiversGiven 3 (some .int) :: ([.fieldLink RX0 115 "ProgressBilling" "applicationCount" "I", .fieldLink RX0 31 "ProgressBilling" "applicationState" "[I"] ++ wsX00)
def wsX0_pay : List Cond := .code yX0_pay cX0_pay 2 (some .int) :: ([.classLink RX0 62 "java/lang/IllegalStateException", .initialized "java/lang/IllegalStateException", .fieldLink RX0 31 "ProgressBilling" "applicationState" "[I", .fieldLink RX0 34 "ProgressBilling" "applicationAmount" "[I", .methodLink RX0 132 yX0_requireApplication, .instanceMethod yX0_requireApplication, .selects RX0 yX0_requireApplication yX0_requireApplication, .initialized RX0, .code yX0_requireApplication cX0_requireApplication 2 none, .classLink RX0 150 "java/lang/IndexOutOfBoundsException", .initialized "java/lang/IndexOutOfBoundsException", .fieldLink RX0 115 "ProgressBilling" "applicationCount" "I", .methodLink RX0 137 yX0_waiversGiven, .instanceMethod yX0_waiversGiven, .selects RX0 yX0_waiversGiven yX0_waiversGiven, .code yX0_waiversGiven cX0_waiversGiven 3 (some .int)] ++ wsX00 ++ (vx_atS RX0 66 "java/lang/IllegalStateException" ["java/lang/RuntimeException", "java/lang/Exception"]).filter goodWord ++ (vx_atS RX0 154 "java/lang/IndexOutOfBoundsException" ["java/lang/RuntimeException", "java/lang/Exception"]).filter goodWord)
def wsX0_waive : List Cond := .code yX0_waive cX0_waive 2 (some .int) :: ([.classLink RX0 62 "java/lang/IllegalStateException", .initialized "java/lang/IllegalStateException", .fieldLink RX0 31 "ProgressBilling" "applicationState" "[I", .methodLink RX0 132 yX0_requireApplication, .instanceMethod yX0_requireApplication, .selects RX0 yX0_requireApplication yX0_requireApplication, .initialized RX0, .code yX0_requireApplication cX0_requireApplication 2 none, .classLink RX0 150 "java/lang/IndexOutOfBoundsException", .initialized "java/lang/IndexOutOfBoundsException", .fieldLink RX0 115 "ProgressBilling" "applicationCount" "I", .methodLink RX0 137 yX0_waiversGiven, .instanceMethod yX0_waiversGiven, .selects RX0 yX0_waiversGiven yX0_waiversGiven, .code yX0_waiversGiven cX0_waiversGiven 3 (some .int)] ++ wsX00 ++ (vx_atS RX0 66 "java/lang/IllegalStateException" ["java/lang/RuntimeException", "java/lang/Exception"]).filter goodWord ++ (vx_atS RX0 154 "java/lang/IndexOutOfBoundsException" ["java/lang/RuntimeException", "java/lang/Exception"]).filter goodWord)
def wsX0_applications : List Cond := .code yX0_applications cX0_applications 1 (some .int) :: ([.fieldLink RX0 115 "ProgressBilling" "applicationCount" "I"] ++ wsX00)
def wsX0_state : List Cond := .code yX0_state cX0_state 2 (some .int) :: ([.fieldLink RX0 31 "ProgressBilling" "applicationState" "[I", .methodLink RX0 132 yX0_requireApplication, .instanceMethod yX0_requireApplication, .selects RX0 yX0_requireApplication yX0_requireApplication, .initialized RX0, .code yX0_requireApplication cX0_requireApplication 2 none, .classLink RX0 150 "java/lang/IndexOutOfBoundsException", .initialized "java/lang/IndexOutOfBoundsException", .fieldLink RX0 115 "ProgressBilling" "applicationCount" "I"] ++ wsX00 ++ (vx_atS RX0 154 "java/lang/IndexOutOfBoundsException" ["java/lang/RuntimeException", "java/lang/Exception"]).filter goodWord)
def wsX0_amount : List Cond := .code yX0_amount cX0_amount 2 (some .int) :: ([.fieldLink RX0 34 "ProgressBilling" "applicationAmount" "[I", .methodLink RX0 132 yX0_requireApplication, .instanceMethod yX0_requireApplication, .selects RX0 yX0_requireApplication yX0_requireApplication, .initialized RX0, .code yX0_requireApplication cX0_requireApplication 2 none, .classLink RX0 150 "java/lang/IndexOutOfBoundsException", .initialized "java/lang/IndexOutOfBoundsException", .fieldLink RX0 115 "ProgressBilling" "applicationCount" "I"] ++ wsX00 ++ (vx_atS RX0 154 "java/lang/IndexOutOfBoundsException" ["java/lang/RuntimeException", "java/lang/Exception"]).filter goodWord)
def wsX0_billedBehind : List Cond := .code yX0_billedBehind cX0_billedBehind 2 (some .int) :: ([.fieldLink RX0 37 "ProgressBilling" "applicationBilled" "[I", .methodLink RX0 132 yX0_requireApplication, .instanceMethod yX0_requireApplication, .selects RX0 yX0_requireApplication yX0_requireApplication, .initialized RX0, .code yX0_requireApplication cX0_requireApplication 2 none, .classLink RX0 150 "java/lang/IndexOutOfBoundsException", .initialized "java/lang/IndexOutOfBoundsException", .fieldLink RX0 115 "ProgressBilling" "applicationCount" "I"] ++ wsX00 ++ (vx_atS RX0 154 "java/lang/IndexOutOfBoundsException" ["java/lang/RuntimeException", "java/lang/Exception"]).filter goodWord)
def wsX0_heldBehind : List Cond := .code yX0_heldBehind cX0_heldBehind 2 (some .int) :: ([.fieldLink RX0 40 "ProgressBilling" "applicationHeld" "[I", .methodLink RX0 132 yX0_requireApplication, .instanceMethod yX0_requireApplication, .selects RX0 yX0_requireApplication yX0_requireApplication, .initialized RX0, .code yX0_requireApplication cX0_requireApplication 2 none, .classLink RX0 150 "java/lang/IndexOutOfBoundsException", .initialized "java/lang/IndexOutOfBoundsException", .fieldLink RX0 115 "ProgressBilling" "applicationCount" "I"] ++ wsX00 ++ (vx_atS RX0 154 "java/lang/IndexOutOfBoundsException" ["java/lang/RuntimeException", "java/lang/Exception"]).filter goodWord)
def wsX0_lines : List Cond := .code yX0_lines cX0_lines 1 (some .int) :: ([.fieldLink RX0 55 "ProgressBilling" "lineCount" "I"] ++ wsX00)
def wsX0_value : List Cond := .code yX0_value cX0_value 2 (some .int) :: ([.fieldLink RX0 9 "ProgressBilling" "lineValue" "[I", .methodLink RX0 58 yX0_requireLine, .instanceMethod yX0_requireLine, .selects RX0 yX0_requireLine yX0_requireLine, .initialized RX0, .code yX0_requireLine cX0_requireLine 2 none, .classLink RX0 150 "java/lang/IndexOutOfBoundsException", .initialized "java/lang/IndexOutOfBoundsException", .fieldLink RX0 55 "ProgressBilling" "lineCount" "I"] ++ wsX00 ++ (vx_atS RX0 154 "java/lang/IndexOutOfBoundsException" ["java/lang/RuntimeException", "java/lang/Exception"]).filter goodWord)
def wsX0_work : List Cond := .code yX0_work cX0_work 2 (some .int) :: ([.fieldLink RX0 16 "ProgressBilling" "lineWork" "[I", .methodLink RX0 58 yX0_requireLine, .instanceMethod yX0_requireLine, .selects RX0 yX0_requireLine yX0_requireLine, .initialized RX0, .code yX0_requireLine cX0_requireLine 2 none, .classLink RX0 150 "java/lang/IndexOutOfBoundsException", .initialized "java/lang/IndexOutOfBoundsException", .fieldLink RX0 55 "ProgressBilling" "lineCount" "I"] ++ wsX00 ++ (vx_atS RX0 154 "java/lang/IndexOutOfBoundsException" ["java/lang/RuntimeException", "java/lang/Exception"]).filter goodWord)
def wsX0_goods : List Cond := .code yX0_goods cX0_goods 2 (some .int) :: ([.fieldLink RX0 13 "ProgressBilling" "lineEarned" "[I", .fieldLink RX0 16 "ProgressBilling" "lineWork" "[I", .methodLink RX0 58 yX0_requireLine, .instanceMethod yX0_requireLine, .selects RX0 yX0_requireLine yX0_requireLine, .initialized RX0, .code yX0_requireLine cX0_requireLine 2 none, .classLink RX0 150 "java/lang/IndexOutOfBoundsException", .initialized "java/lang/IndexOutOfBoundsException", .fieldLink RX0 55 "ProgressBilling" "lineCount" "I"] ++ wsX00 ++ (vx_atS RX0 154 "java/lang/IndexOutOfBoundsException" ["java/lang/RuntimeException", "java/lang/Exception"]).filter goodWord)
def wsX0_billed : List Cond := .code yX0_billed cX0_billed 2 (some .int) :: ([.fieldLink RX0 19 "ProgressBilling" "lineBilled" "[I", .methodLink RX0 58 yX0_requireLine, .instanceMethod yX0_requireLine, .selects RX0 yX0_requireLine yX0_requireLine, .initialized RX0, .code yX0_requireLine cX0_requireLine 2 none, .classLink RX0 150 "java/lang/IndexOutOfBoundsException", .initialized "java/lang/IndexOutOfBoundsException", .fieldLink RX0 55 "ProgressBilling" "lineCount" "I"] ++ wsX00 ++ (vx_atS RX0 154 "java/lang/IndexOutOfBoundsException" ["java/lang/RuntimeException", "java/lang/Exception"]).filter goodWord)
def wsX0_held : List Cond := .code yX0_held cX0_held 2 (some .int) :: ([.fieldLink RX0 22 "ProgressBilling" "lineHeld" "[I", .methodLink RX0 58 yX0_requireLine, .instanceMethod yX0_requireLine, .selects RX0 yX0_requireLine yX0_requireLine, .initialized RX0, .code yX0_requireLine cX0_requireLine 2 none, .classLink RX0 150 "java/lang/IndexOutOfBoundsException", .initialized "java/lang/IndexOutOfBoundsException", .fieldLink RX0 55 "ProgressBilling" "lineCount" "I"] ++ wsX00 ++ (vx_atS RX0 154 "java/lang/IndexOutOfBoundsException" ["java/lang/RuntimeException", "java/lang/Exception"]).filter goodWord)
def wsX0_shareDivisor : List Cond := .code yX0_shareDivisor cX0_shareDivisor 2 (some .int) :: ([.fieldLink RX0 9 "ProgressBilling" "lineValue" "[I", .methodLink RX0 175 Lib.Math.max.name, .static Lib.Math.max.name, .initialized "java/lang/Math", .code Lib.Math.max.name Lib.Math.max.code 2 (some .int)] ++ wsX00)
def wsX0_isAhead : List Cond := .code yX0_isAhead cX0_isAhead 7 (some .boolean) :: ([.fieldLink RX0 16 "ProgressBilling" "lineWork" "[I", .methodLink RX0 172 yX0_shareDivisor, .instanceMethod yX0_shareDivisor, .selects RX0 yX0_shareDivisor yX0_shareDivisor, .initialized RX0, .code yX0_shareDivisor cX0_shareDivisor 2 (some .int), .fieldLink RX0 9 "ProgressBilling" "lineValue" "[I", .methodLink RX0 175 Lib.Math.max.name, .static Lib.Math.max.name, .initialized "java/lang/Math", .code Lib.Math.max.name Lib.Math.max.code 2 (some .int)] ++ wsX00)
def wsX0_placeByShare : List Cond := .code yX0_placeByShare cX0_placeByShare 4 (some .int) :: ([.fieldLink RX0 55 "ProgressBilling" "lineCount" "I", .methodLink RX0 168 yX0_isAhead, .instanceMethod yX0_isAhead, .selects RX0 yX0_isAhead yX0_isAhead, .initialized RX0, .code yX0_isAhead cX0_isAhead 7 (some .boolean), .fieldLink RX0 16 "ProgressBilling" "lineWork" "[I", .methodLink RX0 172 yX0_shareDivisor, .instanceMethod yX0_shareDivisor, .selects RX0 yX0_shareDivisor yX0_shareDivisor, .code yX0_shareDivisor cX0_shareDivisor 2 (some .int), .fieldLink RX0 9 "ProgressBilling" "lineValue" "[I", .methodLink RX0 175 Lib.Math.max.name, .static Lib.Math.max.name, .initialized "java/lang/Math", .code Lib.Math.max.name Lib.Math.max.code 2 (some .int)] ++ wsX00)
def wsX0_lineByShare_r1 : List Cond := [Cond.fieldLink RX0 55 "ProgressBilling" "lineCount" "I", Cond.methodLink RX0 58 yX0_requireLine, Cond.instanceMethod yX0_requireLine, Cond.selects RX0 yX0_requireLine yX0_requireLine, Cond.initialized RX0, Cond.code yX0_requireLine cX0_requireLine 2 none, Cond.classLink RX0 150 "java/lang/IndexOutOfBoundsException", Cond.initialized "java/lang/IndexOutOfBoundsException", Cond.methodLink RX0 144 yX0_placeByShare, Cond.instanceMethod yX0_placeByShare, Cond.selects RX0 yX0_placeByShare yX0_placeByShare, Cond.code yX0_placeByShare cX0_placeByShare 4 (some .int), Cond.methodLink RX0 168 yX0_isAhead, Cond.instanceMethod yX0_isAhead, Cond.selects RX0 yX0_isAhead yX0_isAhead, Cond.code yX0_isAhead cX0_isAhead 7 (some .boolean), Cond.fieldLink RX0 16 "ProgressBilling" "lineWork" "[I", Cond.methodLink RX0 172 yX0_shareDivisor, Cond.instanceMethod yX0_shareDivisor, Cond.selects RX0 yX0_shareDivisor yX0_shareDivisor, Cond.code yX0_shareDivisor cX0_shareDivisor 2 (some .int), Cond.fieldLink RX0 9 "ProgressBilling" "lineValue" "[I", Cond.methodLink RX0 175 Lib.Math.max.name, Cond.static Lib.Math.max.name]
def wsX0_lineByShare_r2 : List Cond := [Cond.initialized "java/lang/Math", Cond.code Lib.Math.max.name Lib.Math.max.code 2 (some .int)]
def wsX0_lineByShare : List Cond := .code yX0_lineByShare cX0_lineByShare 3 (some .int) :: ((wsX0_lineByShare_r1 ++ wsX0_lineByShare_r2) ++ wsX00 ++ (vx_atS RX0 154 "java/lang/IndexOutOfBoundsException" ["java/lang/RuntimeException", "java/lang/Exception"]).filter goodWord)
def wsX0_paid : List Cond := .code yX0_paid cX0_paid 3 (some .int) :: ([.fieldLink RX0 115 "ProgressBilling" "applicationCount" "I", .fieldLink RX0 31 "ProgressBilling" "applicationState" "[I", .fieldLink RX0 34 "ProgressBilling" "applicationAmount" "[I"] ++ wsX00)
def wsX0_toCome : List Cond := .code yX0_toCome cX0_toCome 1 (some .int) :: ([.methodLink RX0 102 yX0_contractSum, .instanceMethod yX0_contractSum, .selects RX0 yX0_contractSum yX0_contractSum, .initialized RX0, .code yX0_contractSum cX0_contractSum 1 (some .int), .fieldLink RX0 9 "ProgressBilling" "lineValue" "[I", .fieldLink RX0 55 "ProgressBilling" "lineCount" "I", .methodLink RX0 98 yX0_sum, .static yX0_sum, .code yX0_sum cX0_sum 4 (some .int), .methodLink RX0 147 yX0_paid, .instanceMethod yX0_paid, .selects RX0 yX0_paid yX0_paid, .code yX0_paid cX0_paid 3 (some .int), .fieldLink RX0 115 "ProgressBilling" "applicationCount" "I", .fieldLink RX0 31 "ProgressBilling" "applicationState" "[I", .fieldLink RX0 34 "ProgressBilling" "applicationAmount" "[I"] ++ wsX00)
def wsX1_init : List Cond := .code yX1_init cX1_init 2 none :: ([.methodLink RX1 1 objectInit, .instanceMethod objectInit, .code objectInit ⟨#[0xb1]⟩ 1 none, .arrayClass .int, .fieldLink RX1 7 "ProgressBillingModel" "values" "[I", .fieldLink RX1 13 "ProgressBillingModel" "earned" "[I", .fieldLink RX1 16 "ProgressBillingModel" "works" "[I", .fieldLink RX1 19 "ProgressBillingModel" "billed" "[I", .fieldLink RX1 22 "ProgressBillingModel" "held" "[I", .fieldLink RX1 25 "ProgressBillingModel" "rates" "[I", .fieldLink RX1 28 "ProgressBillingModel" "states" "[I", .fieldLink RX1 31 "ProgressBillingModel" "amounts" "[I", .fieldLink RX1 34 "ProgressBillingModel" "billedThen" "[I", .fieldLink RX1 37 "ProgressBillingModel" "heldThen" "[I"] ++ wsX10)
def wsX1_thrown : List Cond := .code yX1_thrown cX1_thrown 1 (some .int) :: ([.fieldLink RX1 40 "ProgressBillingModel" "refusal" "I"] ++ wsX10)
def wsX1_refused : List Cond := .code yX1_refused cX1_refused 2 (some .boolean) :: ([.fieldLink RX1 40 "ProgressBillingModel" "refusal" "I"] ++ wsX10)
def wsX1_fine : List Cond := .code yX1_fine cX1_fine 2 (some .int) :: ([.fieldLink RX1 40 "ProgressBillingModel" "refusal" "I"] ++ wsX10)
def wsX1_in : List Cond := .code yX1_in cX1_in 3 (some .boolean) :: ([])
def wsX1_isLine : List Cond := .code yX1_isLine cX1_isLine 2 (some .boolean) :: ([.fieldLink RX1 44 "ProgressBillingModel" "lines" "I", .methodLink RX1 47 yX1_in, .static yX1_in, .initialized RX1, .code yX1_in cX1_in 3 (some .boolean)] ++ wsX10)
def wsX1_thousandths : List Cond := .code yX1_thousandths cX1_thousandths 2 (some .int) :: ([.constantLong RX1 51 (500), .constantLong RX1 53 (1000)])
def wsX1_put : List Cond := .code yX1_put cX1_put 7 none :: ([.fieldLink RX1 7 "ProgressBillingModel" "values" "[I", .fieldLink RX1 13 "ProgressBillingModel" "earned" "[I", .fieldLink RX1 16 "ProgressBillingModel" "works" "[I", .fieldLink RX1 19 "ProgressBillingModel" "billed" "[I", .fieldLink RX1 22 "ProgressBillingModel" "held" "[I"] ++ wsX10)
def wsX1_addLine : List Cond := .code yX1_addLine cX1_addLine 2 (some .int) :: ([.constant RX1 55 (10000000), .fieldLink RX1 44 "ProgressBillingModel" "lines" "I", .methodLink RX1 47 yX1_in, .static yX1_in, .initialized RX1, .code yX1_in cX1_in 3 (some .boolean), .methodLink RX1 56 yX1_refused, .instanceMethod yX1_refused, .selects RX1 yX1_refused yX1_refused, .code yX1_refused cX1_refused 2 (some .boolean), .fieldLink RX1 40 "ProgressBillingModel" "refusal" "I", .methodLink RX1 60 yX1_put, .instanceMethod yX1_put, .selects RX1 yX1_put yX1_put, .code yX1_put cX1_put 7 none, .fieldLink RX1 7 "ProgressBillingModel" "values" "[I", .fieldLink RX1 13 "ProgressBillingModel" "earned" "[I", .fieldLink RX1 16 "ProgressBillingModel" "works" "[I", .fieldLink RX1 19 "ProgressBillingModel" "billed" "[I", .fieldLink RX1 22 "ProgressBillingModel" "held" "[I"] ++ wsX10)
def wsX1_changeValue : List Cond := .code yX1_changeValue cX1_changeValue 4 (some .int) :: ([.constant RX1 55 (10000000), .fieldLink RX1 13 "ProgressBillingModel" "earned" "[I", .fieldLink RX1 7 "ProgressBillingModel" "values" "[I", .methodLink RX1 64 yX1_isLine, .instanceMethod yX1_isLine, .selects RX1 yX1_isLine yX1_isLine, .initialized RX1, .code yX1_isLine cX1_isLine 2 (some .boolean), .fieldLink RX1 44 "ProgressBillingModel" "lines" "I", .methodLink RX1 47 yX1_in, .static yX1_in, .code yX1_in cX1_in 3 (some .boolean), .methodLink RX1 56 yX1_refused, .instanceMethod yX1_refused, .selects RX1 yX1_refused yX1_refused, .code yX1_refused cX1_refused 2 (some .boolean), .fieldLink RX1 40 "ProgressBillingModel" "refusal" "I"] ++ wsX10)
def wsX1_share : List Cond := .code yX1_share cX1_share 3 (some .int) :: ([])
def wsX1_split_r1 : List Cond := [Cond.fieldLink RX1 7 "ProgressBillingModel" "values" "[I", Cond.fieldLink RX1 44 "ProgressBillingModel" "lines" "I", Cond.fieldLink RX1 13 "ProgressBillingModel" "earned" "[I", Cond.fieldLink RX1 16 "ProgressBillingModel" "works" "[I", Cond.fieldLink RX1 19 "ProgressBillingModel" "billed" "[I", Cond.fieldLink RX1 22 "ProgressBillingModel" "held" "[I", Cond.methodLink RX1 64 yX1_isLine, Cond.instanceMethod yX1_isLine, Cond.selects RX1 yX1_isLine yX1_isLine, Cond.initialized RX1, Cond.code yX1_isLine cX1_isLine 2 (some .boolean), Cond.methodLink RX1 47 yX1_in, Cond.static yX1_in, Cond.code yX1_in cX1_in 3 (some .boolean), Cond.methodLink RX1 56 yX1_refused, Cond.instanceMethod yX1_refused, Cond.selects RX1 yX1_refused yX1_refused, Cond.code yX1_refused cX1_refused 2 (some .boolean), Cond.fieldLink RX1 40 "ProgressBillingModel" "refusal" "I", Cond.methodLink RX1 67 yX1_share, Cond.static yX1_share, Cond.code yX1_share cX1_share 3 (some .int), Cond.methodLink RX1 60 yX1_put, Cond.instanceMethod yX1_put]
def wsX1_split_r2 : List Cond := [Cond.selects RX1 yX1_put yX1_put, Cond.code yX1_put cX1_put 7 none]
def wsX1_split : List Cond := .code yX1_split cX1_split 4 (some .int) :: ((wsX1_split_r1 ++ wsX1_split_r2) ++ wsX10)
def wsX1_setWork : List Cond := .code yX1_setWork cX1_setWork 7 (some .int) :: ([.fieldLink RX1 7 "ProgressBillingModel" "values" "[I", .fieldLink RX1 16 "ProgressBillingModel" "works" "[I", .fieldLink RX1 13 "ProgressBillingModel" "earned" "[I", .methodLink RX1 64 yX1_isLine, .instanceMethod yX1_isLine, .selects RX1 yX1_isLine yX1_isLine, .initialized RX1, .code yX1_isLine cX1_isLine 2 (some .boolean), .fieldLink RX1 44 "ProgressBillingModel" "lines" "I", .methodLink RX1 47 yX1_in, .static yX1_in, .code yX1_in cX1_in 3 (some .boolean), .methodLink RX1 71 yX1_thousandths, .static yX1_thousandths, .code yX1_thousandths cX1_thousandths 2 (some .int), .constantLong RX1 51 (500), .constantLong RX1 53 (1000), .methodLink RX1 56 yX1_refused, .instanceMethod yX1_refused, .selects RX1 yX1_refused yX1_refused, .code yX1_refused cX1_refused 2 (some .boolean), .fieldLink RX1 40 "ProgressBillingModel" "refusal" "I"] ++ wsX10)
def wsX1_store : List Cond := .code yX1_store cX1_store 3 (some .int) :: ([.constant RX1 55 (10000000), .fieldLink RX1 7 "ProgressBillingModel" "values" "[I", .fieldLink RX1 13 "ProgressBillingModel" "earned" "[I", .fieldLink RX1 16 "ProgressBillingModel" "works" "[I", .methodLink RX1 64 yX1_isLine, .instanceMethod yX1_isLine, .selects RX1 yX1_isLine yX1_isLine, .initialized RX1, .code yX1_isLine cX1_isLine 2 (some .boolean), .fieldLink RX1 44 "ProgressBillingModel" "lines" "I", .methodLink RX1 47 yX1_in, .static yX1_in, .code yX1_in cX1_in 3 (some .boolean), .methodLink RX1 56 yX1_refused, .instanceMethod yX1_refused, .selects RX1 yX1_refused yX1_refused, .code yX1_refused cX1_refused 2 (some .boolean), .fieldLink RX1 40 "ProgressBillingModel" "refusal" "I"] ++ wsX10)
def wsX1_place : List Cond := .code yX1_place cX1_place 3 (some .int) :: ([.constant RX1 55 (10000000), .fieldLink RX1 13 "ProgressBillingModel" "earned" "[I", .fieldLink RX1 16 "ProgressBillingModel" "works" "[I", .methodLink RX1 64 yX1_isLine, .instanceMethod yX1_isLine, .selects RX1 yX1_isLine yX1_isLine, .initialized RX1, .code yX1_isLine cX1_isLine 2 (some .boolean), .fieldLink RX1 44 "ProgressBillingModel" "lines" "I", .methodLink RX1 47 yX1_in, .static yX1_in, .code yX1_in cX1_in 3 (some .boolean), .methodLink RX1 56 yX1_refused, .instanceMethod yX1_refused, .selects RX1 yX1_refused yX1_refused, .code yX1_refused cX1_refused 2 (some .boolean), .fieldLink RX1 40 "ProgressBillingModel" "refusal" "I"] ++ wsX10)
def wsX1_countSteps : List Cond := .code yX1_countSteps cX1_countSteps 3 (some .int) :: ([.fieldLink RX1 25 "ProgressBillingModel" "rates" "[I"] ++ wsX10)
def wsX1_setStep : List Cond := .code yX1_setStep cX1_setStep 5 (some .int) :: ([.fieldLink RX1 25 "ProgressBillingModel" "rates" "[I", .methodLink RX1 47 yX1_in, .static yX1_in, .initialized RX1, .code yX1_in cX1_in 3 (some .boolean), .methodLink RX1 75 yX1_countSteps, .instanceMethod yX1_countSteps, .selects RX1 yX1_countSteps yX1_countSteps, .code yX1_countSteps cX1_countSteps 3 (some .int), .methodLink RX1 56 yX1_refused, .instanceMethod yX1_refused, .selects RX1 yX1_refused yX1_refused, .code yX1_refused cX1_refused 2 (some .boolean), .fieldLink RX1 40 "ProgressBillingModel" "refusal" "I"] ++ wsX10)
def wsX1_dropStep : List Cond := .code yX1_dropStep cX1_dropStep 4 (some .int) :: ([.fieldLink RX1 25 "ProgressBillingModel" "rates" "[I", .methodLink RX1 47 yX1_in, .static yX1_in, .initialized RX1, .code yX1_in cX1_in 3 (some .boolean), .methodLink RX1 56 yX1_refused, .instanceMethod yX1_refused, .selects RX1 yX1_refused yX1_refused, .code yX1_refused cX1_refused 2 (some .boolean), .fieldLink RX1 40 "ProgressBillingModel" "refusal" "I"] ++ wsX10)
def wsX1_hold : List Cond := .code yX1_hold cX1_hold 3 (some .boolean) :: ([.fieldLink RX1 40 "ProgressBillingModel" "refusal" "I", .fieldLink RX1 79 "ProgressBillingModel" "isByIncrease" "Z"] ++ wsX10)
def wsX1_steps : List Cond := .code yX1_steps cX1_steps 1 (some .int) :: ([.methodLink RX1 75 yX1_countSteps, .instanceMethod yX1_countSteps, .selects RX1 yX1_countSteps yX1_countSteps, .initialized RX1, .code yX1_countSteps cX1_countSteps 3 (some .int), .fieldLink RX1 25 "ProgressBillingModel" "rates" "[I", .methodLink RX1 83 yX1_fine, .instanceMethod yX1_fine, .selects RX1 yX1_fine yX1_fine, .code yX1_fine cX1_fine 2 (some .int), .fieldLink RX1 40 "ProgressBillingModel" "refusal" "I"] ++ wsX10)
def wsX1_sum : List Cond := .code yX1_sum cX1_sum 4 (some .int) :: ([.fieldLink RX1 44 "ProgressBillingModel" "lines" "I"] ++ wsX10)
def wsX1_reached : List Cond := .code yX1_reached cX1_reached 1 (some .int) :: ([.fieldLink RX1 7 "ProgressBillingModel" "values" "[I", .fieldLink RX1 16 "ProgressBillingModel" "works" "[I", .constantLong RX1 53 (1000), .methodLink RX1 87 yX1_sum, .instanceMethod yX1_sum, .selects RX1 yX1_sum yX1_sum, .initialized RX1, .code yX1_sum cX1_sum 4 (some .int), .fieldLink RX1 44 "ProgressBillingModel" "lines" "I"] ++ wsX10)
def wsX1_progress : List Cond := .code yX1_progress cX1_progress 1 (some .int) :: ([.methodLink RX1 91 yX1_reached, .instanceMethod yX1_reached, .selects RX1 yX1_reached yX1_reached, .initialized RX1, .code yX1_reached cX1_reached 1 (some .int), .fieldLink RX1 7 "ProgressBillingModel" "values" "[I", .fieldLink RX1 16 "ProgressBillingModel" "works" "[I", .constantLong RX1 53 (1000), .methodLink RX1 87 yX1_sum, .instanceMethod yX1_sum, .selects RX1 yX1_sum yX1_sum, .code yX1_sum cX1_sum 4 (some .int), .fieldLink RX1 44 "ProgressBillingModel" "lines" "I", .methodLink RX1 83 yX1_fine, .instanceMethod yX1_fine, .selects RX1 yX1_fine yX1_fine, .code yX1_fine cX1_fine 2 (some .int), .fieldLink RX1 40 "ProgressBillingModel" "refusal" "I"] ++ wsX10)
def wsX1_rateNow : List Cond := .code yX1_rateNow cX1_rateNow 2 (some .int) :: ([.fieldLink RX1 25 "ProgressBillingModel" "rates" "[I", .methodLink RX1 91 yX1_reached, .instanceMethod yX1_reached, .selects RX1 yX1_reached yX1_reached, .initialized RX1, .code yX1_reached cX1_reached 1 (some .int), .fieldLink RX1 7 "ProgressBillingModel" "values" "[I", .fieldLink RX1 16 "ProgressBillingModel" "works" "[I", .constantLong RX1 53 (1000), .methodLink RX1 87 yX1_sum, .instanceMethod yX1_sum, .selects RX1 yX1_sum yX1_sum, .code yX1_sum cX1_sum 4 (some .int), .fieldLink RX1 44 "ProgressBillingModel" "lines" "I"] ++ wsX10)
def wsX1_rate : List Cond := .code yX1_rate cX1_rate 1 (some .int) :: ([.methodLink RX1 94 yX1_rateNow, .instanceMethod yX1_rateNow, .selects RX1 yX1_rateNow yX1_rateNow, .initialized RX1, .code yX1_rateNow cX1_rateNow 2 (some .int), .fieldLink RX1 25 "ProgressBillingModel" "rates" "[I", .methodLink RX1 91 yX1_reached, .instanceMethod yX1_reached, .selects RX1 yX1_reached yX1_reached, .code yX1_reached cX1_reached 1 (some .int), .fieldLink RX1 7 "ProgressBillingModel" "values" "[I", .fieldLink RX1 16 "ProgressBillingModel" "works" "[I", .constantLong RX1 53 (1000), .methodLink RX1 87 yX1_sum, .instanceMethod yX1_sum, .selects RX1 yX1_sum yX1_sum, .code yX1_sum cX1_sum 4 (some .int), .fieldLink RX1 44 "ProgressBillingModel" "lines" "I", .methodLink RX1 83 yX1_fine, .instanceMethod yX1_fine, .selects RX1 yX1_fine yX1_fine, .code yX1_fine cX1_fine 2 (some .int), .fieldLink RX1 40 "ProgressBillingModel" "refusal" "I"] ++ wsX10)
def wsX1_holdsThen_r1 : List Cond := [Cond.fieldLink RX1 79 "ProgressBillingModel" "isByIncrease" "Z", Cond.fieldLink RX1 22 "ProgressBillingModel" "held" "[I", Cond.fieldLink RX1 13 "ProgressBillingModel" "earned" "[I", Cond.fieldLink RX1 19 "ProgressBillingModel" "billed" "[I", Cond.methodLink RX1 94 yX1_rateNow, Cond.instanceMethod yX1_rateNow, Cond.selects RX1 yX1_rateNow yX1_rateNow, Cond.initialized RX1, Cond.code yX1_rateNow cX1_rateNow 2 (some .int), Cond.fieldLink RX1 25 "ProgressBillingModel" "rates" "[I", Cond.methodLink RX1 91 yX1_reached, Cond.instanceMethod yX1_reached, Cond.selects RX1 yX1_reached yX1_reached, Cond.code yX1_reached cX1_reached 1 (some .int), Cond.fieldLink RX1 7 "ProgressBillingModel" "values" "[I", Cond.fieldLink RX1 16 "ProgressBillingModel" "works" "[I", Cond.constantLong RX1 53 (1000), Cond.methodLink RX1 87 yX1_sum, Cond.instanceMethod yX1_sum, Cond.selects RX1 yX1_sum yX1_sum, Cond.code yX1_sum cX1_sum 4 (some .int), Cond.fieldLink RX1 44 "ProgressBillingModel" "lines" "I", Cond.methodLink RX1 71 yX1_thousandths, Cond.static yX1_thousandths]
def wsX1_holdsThen_r2 : List Cond := [Cond.code yX1_thousandths cX1_thousandths 2 (some .int), Cond.constantLong RX1 51 (500)]
def wsX1_holdsThen : List Cond := .code yX1_holdsThen cX1_holdsThen 3 (some .int) :: ((wsX1_holdsThen_r1 ++ wsX1_holdsThen_r2) ++ wsX10)
def wsX1_amountNow_r1 : List Cond := [Cond.fieldLink RX1 13 "ProgressBillingModel" "earned" "[I", Cond.fieldLink RX1 44 "ProgressBillingModel" "lines" "I", Cond.fieldLink RX1 100 "ProgressBillingModel" "applications" "I", Cond.fieldLink RX1 31 "ProgressBillingModel" "amounts" "[I", Cond.methodLink RX1 87 yX1_sum, Cond.instanceMethod yX1_sum, Cond.selects RX1 yX1_sum yX1_sum, Cond.initialized RX1, Cond.code yX1_sum cX1_sum 4 (some .int), Cond.methodLink RX1 97 yX1_holdsThen, Cond.instanceMethod yX1_holdsThen, Cond.selects RX1 yX1_holdsThen yX1_holdsThen, Cond.code yX1_holdsThen cX1_holdsThen 3 (some .int), Cond.fieldLink RX1 79 "ProgressBillingModel" "isByIncrease" "Z", Cond.fieldLink RX1 22 "ProgressBillingModel" "held" "[I", Cond.fieldLink RX1 19 "ProgressBillingModel" "billed" "[I", Cond.methodLink RX1 94 yX1_rateNow, Cond.instanceMethod yX1_rateNow, Cond.selects RX1 yX1_rateNow yX1_rateNow, Cond.code yX1_rateNow cX1_rateNow 2 (some .int), Cond.fieldLink RX1 25 "ProgressBillingModel" "rates" "[I", Cond.methodLink RX1 91 yX1_reached, Cond.instanceMethod yX1_reached, Cond.selects RX1 yX1_reached yX1_reached]
def wsX1_amountNow_r2 : List Cond := [Cond.code yX1_reached cX1_reached 1 (some .int), Cond.fieldLink RX1 7 "ProgressBillingModel" "values" "[I", Cond.fieldLink RX1 16 "ProgressBillingModel" "works" "[I", Cond.constantLong RX1 53 (1000), Cond.methodLink RX1 71 yX1_thousandths, Cond.static yX1_thousandths, Cond.code yX1_thousandths cX1_thousandths 2 (some .int), Cond.constantLong RX1 51 (500)]
def wsX1_amountNow : List Cond := .code yX1_amountNow cX1_amountNow 3 (some .int) :: ((wsX1_amountNow_r1 ++ wsX1_amountNow_r2) ++ wsX10)
def wsX1_close_r1 : List Cond := [Cond.fieldLink RX1 44 "ProgressBillingModel" "lines" "I", Cond.fieldLink RX1 100 "ProgressBillingModel" "applications" "I", Cond.fieldLink RX1 31 "ProgressBillingModel" "amounts" "[I", Cond.fieldLink RX1 22 "ProgressBillingModel" "held" "[I", Cond.fieldLink RX1 19 "ProgressBillingModel" "billed" "[I", Cond.fieldLink RX1 13 "ProgressBillingModel" "earned" "[I", Cond.fieldLink RX1 28 "ProgressBillingModel" "states" "[I", Cond.fieldLink RX1 34 "ProgressBillingModel" "billedThen" "[I", Cond.fieldLink RX1 37 "ProgressBillingModel" "heldThen" "[I", Cond.methodLink RX1 56 yX1_refused, Cond.instanceMethod yX1_refused, Cond.selects RX1 yX1_refused yX1_refused, Cond.initialized RX1, Cond.code yX1_refused cX1_refused 2 (some .boolean), Cond.fieldLink RX1 40 "ProgressBillingModel" "refusal" "I", Cond.methodLink RX1 103 yX1_amountNow, Cond.instanceMethod yX1_amountNow, Cond.selects RX1 yX1_amountNow yX1_amountNow, Cond.code yX1_amountNow cX1_amountNow 3 (some .int), Cond.methodLink RX1 87 yX1_sum, Cond.instanceMethod yX1_sum, Cond.selects RX1 yX1_sum yX1_sum, Cond.code yX1_sum cX1_sum 4 (some .int), Cond.methodLink RX1 97 yX1_holdsThen]
def wsX1_close_r2 : List Cond := [Cond.instanceMethod yX1_holdsThen, Cond.selects RX1 yX1_holdsThen yX1_holdsThen, Cond.code yX1_holdsThen cX1_holdsThen 3 (some .int), Cond.fieldLink RX1 79 "ProgressBillingModel" "isByIncrease" "Z", Cond.methodLink RX1 94 yX1_rateNow, Cond.instanceMethod yX1_rateNow, Cond.selects RX1 yX1_rateNow yX1_rateNow, Cond.code yX1_rateNow cX1_rateNow 2 (some .int), Cond.fieldLink RX1 25 "ProgressBillingModel" "rates" "[I", Cond.methodLink RX1 91 yX1_reached, Cond.instanceMethod yX1_reached, Cond.selects RX1 yX1_reached yX1_reached, Cond.code yX1_reached cX1_reached 1 (some .int), Cond.fieldLink RX1 7 "ProgressBillingModel" "values" "[I", Cond.fieldLink RX1 16 "ProgressBillingModel" "works" "[I", Cond.constantLong RX1 53 (1000), Cond.methodLink RX1 71 yX1_thousandths, Cond.static yX1_thousandths, Cond.code yX1_thousandths cX1_thousandths 2 (some .int), Cond.constantLong RX1 51 (500)]
def wsX1_close : List Cond := .code yX1_close cX1_close 2 (some .int) :: ((wsX1_close_r1 ++ wsX1_close_r2) ++ wsX10)
def wsX1_nextAmount_r1 : List Cond := [Cond.methodLink RX1 103 yX1_amountNow, Cond.instanceMethod yX1_amountNow, Cond.selects RX1 yX1_amountNow yX1_amountNow, Cond.initialized RX1, Cond.code yX1_amountNow cX1_amountNow 3 (some .int), Cond.fieldLink RX1 13 "ProgressBillingModel" "earned" "[I", Cond.fieldLink RX1 44 "ProgressBillingModel" "lines" "I", Cond.fieldLink RX1 100 "ProgressBillingModel" "applications" "I", Cond.fieldLink RX1 31 "ProgressBillingModel" "amounts" "[I", Cond.methodLink RX1 87 yX1_sum, Cond.instanceMethod yX1_sum, Cond.selects RX1 yX1_sum yX1_sum, Cond.code yX1_sum cX1_sum 4 (some .int), Cond.methodLink RX1 97 yX1_holdsThen, Cond.instanceMethod yX1_holdsThen, Cond.selects RX1 yX1_holdsThen yX1_holdsThen, Cond.code yX1_holdsThen cX1_holdsThen 3 (some .int), Cond.fieldLink RX1 79 "ProgressBillingModel" "isByIncrease" "Z", Cond.fieldLink RX1 22 "ProgressBillingModel" "held" "[I", Cond.fieldLink RX1 19 "ProgressBillingModel" "billed" "[I", Cond.methodLink RX1 94 yX1_rateNow, Cond.instanceMethod yX1_rateNow, Cond.selects RX1 yX1_rateNow yX1_rateNow, Cond.code yX1_rateNow cX1_rateNow 2 (some .int)]
def wsX1_nextAmount_r2 : List Cond := [Cond.fieldLink RX1 25 "ProgressBillingModel" "rates" "[I", Cond.methodLink RX1 91 yX1_reached, Cond.instanceMethod yX1_reached, Cond.selects RX1 yX1_reached yX1_reached, Cond.code yX1_reached cX1_reached 1 (some .int), Cond.fieldLink RX1 7 "ProgressBillingModel" "values" "[I", Cond.fieldLink RX1 16 "ProgressBillingModel" "works" "[I", Cond.constantLong RX1 53 (1000), Cond.methodLink RX1 71 yX1_thousandths, Cond.static yX1_thousandths, Cond.code yX1_thousandths cX1_thousandths 2 (some .int), Cond.constantLong RX1 51 (500), Cond.methodLink RX1 83 yX1_fine, Cond.instanceMethod yX1_fine, Cond.selects RX1 yX1_fine yX1_fine, Cond.code yX1_fine cX1_fine 2 (some .int), Cond.fieldLink RX1 40 "ProgressBillingModel" "refusal" "I"]
def wsX1_nextAmount : List Cond := .code yX1_nextAmount cX1_nextAmount 1 (some .int) :: ((wsX1_nextAmount_r1 ++ wsX1_nextAmount_r2) ++ wsX10)
def wsX1_isApplication : List Cond := .code yX1_isApplication cX1_isApplication 2 (some .boolean) :: ([.fieldLink RX1 100 "ProgressBillingModel" "applications" "I", .methodLink RX1 47 yX1_in, .static yX1_in, .initialized RX1, .code yX1_in cX1_in 3 (some .boolean)] ++ wsX10)
def wsX1_waived : List Cond := .code yX1_waived cX1_waived 2 (some .int) :: ([.fieldLink RX1 100 "ProgressBillingModel" "applications" "I", .fieldLink RX1 28 "ProgressBillingModel" "states" "[I"] ++ wsX10)
def wsX1_pay : List Cond := .code yX1_pay cX1_pay 2 (some .int) :: ([.fieldLink RX1 28 "ProgressBillingModel" "states" "[I", .fieldLink RX1 31 "ProgressBillingModel" "amounts" "[I", .methodLink RX1 106 yX1_isApplication, .instanceMethod yX1_isApplication, .selects RX1 yX1_isApplication yX1_isApplication, .initialized RX1, .code yX1_isApplication cX1_isApplication 2 (some .boolean), .fieldLink RX1 100 "ProgressBillingModel" "applications" "I", .methodLink RX1 47 yX1_in, .static yX1_in, .code yX1_in cX1_in 3 (some .boolean), .methodLink RX1 109 yX1_waived, .instanceMethod yX1_waived, .selects RX1 yX1_waived yX1_waived, .code yX1_waived cX1_waived 2 (some .int), .methodLink RX1 56 yX1_refused, .instanceMethod yX1_refused, .selects RX1 yX1_refused yX1_refused, .code yX1_refused cX1_refused 2 (some .boolean), .fieldLink RX1 40 "ProgressBillingModel" "refusal" "I"] ++ wsX10)
def wsX1_waive : List Cond := .code yX1_waive cX1_waive 2 (some .int) :: ([.fieldLink RX1 28 "ProgressBillingModel" "states" "[I", .methodLink RX1 106 yX1_isApplication, .instanceMethod yX1_isApplication, .selects RX1 yX1_isApplication yX1_isApplication, .initialized RX1, .code yX1_isApplication cX1_isApplication 2 (some .boolean), .fieldLink RX1 100 "ProgressBillingModel" "applications" "I", .methodLink RX1 47 yX1_in, .static yX1_in, .code yX1_in cX1_in 3 (some .boolean), .methodLink RX1 56 yX1_refused, .instanceMethod yX1_refused, .selects RX1 yX1_refused yX1_refused, .code yX1_refused cX1_refused 2 (some .boolean), .fieldLink RX1 40 "ProgressBillingModel" "refusal" "I", .methodLink RX1 109 yX1_waived, .instanceMethod yX1_waived, .selects RX1 yX1_waived yX1_waived, .code yX1_waived cX1_waived 2 (some .int)] ++ wsX10)
def wsX1_applications : List Cond := .code yX1_applications cX1_applications 1 (some .int) :: ([.fieldLink RX1 100 "ProgressBillingModel" "applications" "I", .methodLink RX1 83 yX1_fine, .instanceMethod yX1_fine, .selects RX1 yX1_fine yX1_fine, .initialized RX1, .code yX1_fine cX1_fine 2 (some .int), .fieldLink RX1 40 "ProgressBillingModel" "refusal" "I"] ++ wsX10)
def wsX1_told : List Cond := .code yX1_told cX1_told 3 (some .int) :: ([.methodLink RX1 106 yX1_isApplication, .instanceMethod yX1_isApplication, .selects RX1 yX1_isApplication yX1_isApplication, .initialized RX1, .code yX1_isApplication cX1_isApplication 2 (some .boolean), .fieldLink RX1 100 "ProgressBillingModel" "applications" "I", .methodLink RX1 47 yX1_in, .static yX1_in, .code yX1_in cX1_in 3 (some .boolean), .methodLink RX1 56 yX1_refused, .instanceMethod yX1_refused, .selects RX1 yX1_refused yX1_refused, .code yX1_refused cX1_refused 2 (some .boolean), .fieldLink RX1 40 "ProgressBillingModel" "refusal" "I"] ++ wsX10)
def wsX1_state : List Cond := .code yX1_state cX1_state 2 (some .int) :: ([.fieldLink RX1 28 "ProgressBillingModel" "states" "[I", .methodLink RX1 112 yX1_told, .instanceMethod yX1_told, .selects RX1 yX1_told yX1_told, .initialized RX1, .code yX1_told cX1_told 3 (some .int), .methodLink RX1 106 yX1_isApplication, .instanceMethod yX1_isApplication, .selects RX1 yX1_isApplication yX1_isApplication, .code yX1_isApplication cX1_isApplication 2 (some .boolean), .fieldLink RX1 100 "ProgressBillingModel" "applications" "I", .methodLink RX1 47 yX1_in, .static yX1_in, .code yX1_in cX1_in 3 (some .boolean), .methodLink RX1 56 yX1_refused, .instanceMethod yX1_refused, .selects RX1 yX1_refused yX1_refused, .code yX1_refused cX1_refused 2 (some .boolean), .fieldLink RX1 40 "ProgressBillingModel" "refusal" "I"] ++ wsX10)
def wsX1_amount : List Cond := .code yX1_amount cX1_amount 2 (some .int) :: ([.fieldLink RX1 31 "ProgressBillingModel" "amounts" "[I", .methodLink RX1 112 yX1_told, .instanceMethod yX1_told, .selects RX1 yX1_told yX1_told, .initialized RX1, .code yX1_told cX1_told 3 (some .int), .methodLink RX1 106 yX1_isApplication, .instanceMethod yX1_isApplication, .selects RX1 yX1_isApplication yX1_isApplication, .code yX1_isApplication cX1_isApplication 2 (some .boolean), .fieldLink RX1 100 "ProgressBillingModel" "applications" "I", .methodLink RX1 47 yX1_in, .static yX1_in, .code yX1_in cX1_in 3 (some .boolean), .methodLink RX1 56 yX1_refused, .instanceMethod yX1_refused, .selects RX1 yX1_refused yX1_refused, .code yX1_refused cX1_refused 2 (some .boolean), .fieldLink RX1 40 "ProgressBillingModel" "refusal" "I"] ++ wsX10)
def wsX1_billedBehind : List Cond := .code yX1_billedBehind cX1_billedBehind 2 (some .int) :: ([.fieldLink RX1 34 "ProgressBillingModel" "billedThen" "[I", .methodLink RX1 112 yX1_told, .instanceMethod yX1_told, .selects RX1 yX1_told yX1_told, .initialized RX1, .code yX1_told cX1_told 3 (some .int), .methodLink RX1 106 yX1_isApplication, .instanceMethod yX1_isApplication, .selects RX1 yX1_isApplication yX1_isApplication, .code yX1_isApplication cX1_isApplication 2 (some .boolean), .fieldLink RX1 100 "ProgressBillingModel" "applications" "I", .methodLink RX1 47 yX1_in, .static yX1_in, .code yX1_in cX1_in 3 (some .boolean), .methodLink RX1 56 yX1_refused, .instanceMethod yX1_refused, .selects RX1 yX1_refused yX1_refused, .code yX1_refused cX1_refused 2 (some .boolean), .fieldLink RX1 40 "ProgressBillingModel" "refusal" "I"] ++ wsX10)
def wsX1_heldBehind : List Cond := .code yX1_heldBehind cX1_heldBehind 2 (some .int) :: ([.fieldLink RX1 37 "ProgressBillingModel" "heldThen" "[I", .methodLink RX1 112 yX1_told, .instanceMethod yX1_told, .selects RX1 yX1_told yX1_told, .initialized RX1, .code yX1_told cX1_told 3 (some .int), .methodLink RX1 106 yX1_isApplication, .instanceMethod yX1_isApplication, .selects RX1 yX1_isApplication yX1_isApplication, .code yX1_isApplication cX1_isApplication 2 (some .boolean), .fieldLink RX1 100 "ProgressBillingModel" "applications" "I", .methodLink RX1 47 yX1_in, .static yX1_in, .code yX1_in cX1_in 3 (some .boolean), .methodLink RX1 56 yX1_refused, .instanceMethod yX1_refused, .selects RX1 yX1_refused yX1_refused, .code yX1_refused cX1_refused 2 (some .boolean), .fieldLink RX1 40 "ProgressBillingModel" "refusal" "I"] ++ wsX10)
def wsX1_lines : List Cond := .code yX1_lines cX1_lines 1 (some .int) :: ([.fieldLink RX1 44 "ProgressBillingModel" "lines" "I", .methodLink RX1 83 yX1_fine, .instanceMethod yX1_fine, .selects RX1 yX1_fine yX1_fine, .initialized RX1, .code yX1_fine cX1_fine 2 (some .int), .fieldLink RX1 40 "ProgressBillingModel" "refusal" "I"] ++ wsX10)
def wsX1_noLine : List Cond := .code yX1_noLine cX1_noLine 2 (some .boolean) :: ([.methodLink RX1 64 yX1_isLine, .instanceMethod yX1_isLine, .selects RX1 yX1_isLine yX1_isLine, .initialized RX1, .code yX1_isLine cX1_isLine 2 (some .boolean), .fieldLink RX1 44 "ProgressBillingModel" "lines" "I", .methodLink RX1 47 yX1_in, .static yX1_in, .code yX1_in cX1_in 3 (some .boolean), .methodLink RX1 56 yX1_refused, .instanceMethod yX1_refused, .selects RX1 yX1_refused yX1_refused, .code yX1_refused cX1_refused 2 (some .boolean), .fieldLink RX1 40 "ProgressBillingModel" "refusal" "I"] ++ wsX10)
def wsX1_value : List Cond := .code yX1_value cX1_value 2 (some .int) :: ([.fieldLink RX1 7 "ProgressBillingModel" "values" "[I", .methodLink RX1 116 yX1_noLine, .instanceMethod yX1_noLine, .selects RX1 yX1_noLine yX1_noLine, .initialized RX1, .code yX1_noLine cX1_noLine 2 (some .boolean), .methodLink RX1 64 yX1_isLine, .instanceMethod yX1_isLine, .selects RX1 yX1_isLine yX1_isLine, .code yX1_isLine cX1_isLine 2 (some .boolean), .fieldLink RX1 44 "ProgressBillingModel" "lines" "I", .methodLink RX1 47 yX1_in, .static yX1_in, .code yX1_in cX1_in 3 (some .boolean), .methodLink RX1 56 yX1_refused, .instanceMethod yX1_refused, .selects RX1 yX1_refused yX1_refused, .code yX1_refused cX1_refused 2 (some .boolean), .fieldLink RX1 40 "ProgressBillingModel" "refusal" "I"] ++ wsX10)
def wsX1_work : List Cond := .code yX1_work cX1_work 2 (some .int) :: ([.fieldLink RX1 16 "ProgressBillingModel" "works" "[I", .methodLink RX1 116 yX1_noLine, .instanceMethod yX1_noLine, .selects RX1 yX1_noLine yX1_noLine, .initialized RX1, .code yX1_noLine cX1_noLine 2 (some .boolean), .methodLink RX1 64 yX1_isLine, .instanceMethod yX1_isLine, .selects RX1 yX1_isLine yX1_isLine, .code yX1_isLine cX1_isLine 2 (some .boolean), .fieldLink RX1 44 "ProgressBillingModel" "lines" "I", .methodLink RX1 47 yX1_in, .static yX1_in, .code yX1_in cX1_in 3 (some .boolean), .methodLink RX1 56 yX1_refused, .instanceMethod yX1_refused, .selects RX1 yX1_refused yX1_refused, .code yX1_refused cX1_refused 2 (some .boolean), .fieldLink RX1 40 "ProgressBillingModel" "refusal" "I"] ++ wsX10)
def wsX1_goods : List Cond := .code yX1_goods cX1_goods 2 (some .int) :: ([.fieldLink RX1 13 "ProgressBillingModel" "earned" "[I", .fieldLink RX1 16 "ProgressBillingModel" "works" "[I", .methodLink RX1 116 yX1_noLine, .instanceMethod yX1_noLine, .selects RX1 yX1_noLine yX1_noLine, .initialized RX1, .code yX1_noLine cX1_noLine 2 (some .boolean), .methodLink RX1 64 yX1_isLine, .instanceMethod yX1_isLine, .selects RX1 yX1_isLine yX1_isLine, .code yX1_isLine cX1_isLine 2 (some .boolean), .fieldLink RX1 44 "ProgressBillingModel" "lines" "I", .methodLink RX1 47 yX1_in, .static yX1_in, .code yX1_in cX1_in 3 (some .boolean), .methodLink RX1 56 yX1_refused, .instanceMethod yX1_refused, .selects RX1 yX1_refused yX1_refused, .code yX1_refused cX1_refused 2 (some .boolean), .fieldLink RX1 40 "ProgressBillingModel" "refusal" "I"] ++ wsX10)
def wsX1_billed : List Cond := .code yX1_billed cX1_billed 2 (some .int) :: ([.fieldLink RX1 19 "ProgressBillingModel" "billed" "[I", .methodLink RX1 116 yX1_noLine, .instanceMethod yX1_noLine, .selects RX1 yX1_noLine yX1_noLine, .initialized RX1, .code yX1_noLine cX1_noLine 2 (some .boolean), .methodLink RX1 64 yX1_isLine, .instanceMethod yX1_isLine, .selects RX1 yX1_isLine yX1_isLine, .code yX1_isLine cX1_isLine 2 (some .boolean), .fieldLink RX1 44 "ProgressBillingModel" "lines" "I", .methodLink RX1 47 yX1_in, .static yX1_in, .code yX1_in cX1_in 3 (some .boolean), .methodLink RX1 56 yX1_refused, .instanceMethod yX1_refused, .selects RX1 yX1_refused yX1_refused, .code yX1_refused cX1_refused 2 (some .boolean), .fieldLink RX1 40 "ProgressBillingModel" "refusal" "I"] ++ wsX10)
def wsX1_held : List Cond := .code yX1_held cX1_held 2 (some .int) :: ([.fieldLink RX1 22 "ProgressBillingModel" "held" "[I", .methodLink RX1 116 yX1_noLine, .instanceMethod yX1_noLine, .selects RX1 yX1_noLine yX1_noLine, .initialized RX1, .code yX1_noLine cX1_noLine 2 (some .boolean), .methodLink RX1 64 yX1_isLine, .instanceMethod yX1_isLine, .selects RX1 yX1_isLine yX1_isLine, .code yX1_isLine cX1_isLine 2 (some .boolean), .fieldLink RX1 44 "ProgressBillingModel" "lines" "I", .methodLink RX1 47 yX1_in, .static yX1_in, .code yX1_in cX1_in 3 (some .boolean), .methodLink RX1 56 yX1_refused, .instanceMethod yX1_refused, .selects RX1 yX1_refused yX1_refused, .code yX1_refused cX1_refused 2 (some .boolean), .fieldLink RX1 40 "ProgressBillingModel" "refusal" "I"] ++ wsX10)
def wsX1_isAhead : List Cond := .code yX1_isAhead cX1_isAhead 7 (some .boolean) :: ([.fieldLink RX1 16 "ProgressBillingModel" "works" "[I", .fieldLink RX1 7 "ProgressBillingModel" "values" "[I"] ++ wsX10)
def wsX1_lineByShare : List Cond := .code yX1_lineByShare cX1_lineByShare 6 (some .int) :: ([.fieldLink RX1 44 "ProgressBillingModel" "lines" "I", .methodLink RX1 119 yX1_isAhead, .instanceMethod yX1_isAhead, .selects RX1 yX1_isAhead yX1_isAhead, .initialized RX1, .code yX1_isAhead cX1_isAhead 7 (some .boolean), .fieldLink RX1 16 "ProgressBillingModel" "works" "[I", .fieldLink RX1 7 "ProgressBillingModel" "values" "[I", .methodLink RX1 56 yX1_refused, .instanceMethod yX1_refused, .selects RX1 yX1_refused yX1_refused, .code yX1_refused cX1_refused 2 (some .boolean), .fieldLink RX1 40 "ProgressBillingModel" "refusal" "I"] ++ wsX10)
def wsX1_contractSum : List Cond := .code yX1_contractSum cX1_contractSum 1 (some .int) :: ([.fieldLink RX1 7 "ProgressBillingModel" "values" "[I", .methodLink RX1 87 yX1_sum, .instanceMethod yX1_sum, .selects RX1 yX1_sum yX1_sum, .initialized RX1, .code yX1_sum cX1_sum 4 (some .int), .fieldLink RX1 44 "ProgressBillingModel" "lines" "I", .methodLink RX1 83 yX1_fine, .instanceMethod yX1_fine, .selects RX1 yX1_fine yX1_fine, .code yX1_fine cX1_fine 2 (some .int), .fieldLink RX1 40 "ProgressBillingModel" "refusal" "I"] ++ wsX10)
def wsX1_sumPaid : List Cond := .code yX1_sumPaid cX1_sumPaid 3 (some .int) :: ([.fieldLink RX1 100 "ProgressBillingModel" "applications" "I", .fieldLink RX1 28 "ProgressBillingModel" "states" "[I", .fieldLink RX1 31 "ProgressBillingModel" "amounts" "[I"] ++ wsX10)
def wsX1_paid : List Cond := .code yX1_paid cX1_paid 1 (some .int) :: ([.methodLink RX1 123 yX1_sumPaid, .instanceMethod yX1_sumPaid, .selects RX1 yX1_sumPaid yX1_sumPaid, .initialized RX1, .code yX1_sumPaid cX1_sumPaid 3 (some .int), .fieldLink RX1 100 "ProgressBillingModel" "applications" "I", .fieldLink RX1 28 "ProgressBillingModel" "states" "[I", .fieldLink RX1 31 "ProgressBillingModel" "amounts" "[I", .methodLink RX1 83 yX1_fine, .instanceMethod yX1_fine, .selects RX1 yX1_fine yX1_fine, .code yX1_fine cX1_fine 2 (some .int), .fieldLink RX1 40 "ProgressBillingModel" "refusal" "I"] ++ wsX10)
def wsX1_toCome : List Cond := .code yX1_toCome cX1_toCome 1 (some .int) :: ([.fieldLink RX1 7 "ProgressBillingModel" "values" "[I", .methodLink RX1 87 yX1_sum, .instanceMethod yX1_sum, .selects RX1 yX1_sum yX1_sum, .initialized RX1, .code yX1_sum cX1_sum 4 (some .int), .fieldLink RX1 44 "ProgressBillingModel" "lines" "I", .methodLink RX1 123 yX1_sumPaid, .instanceMethod yX1_sumPaid, .selects RX1 yX1_sumPaid yX1_sumPaid, .code yX1_sumPaid cX1_sumPaid 3 (some .int), .fieldLink RX1 100 "ProgressBillingModel" "applications" "I", .fieldLink RX1 28 "ProgressBillingModel" "states" "[I", .fieldLink RX1 31 "ProgressBillingModel" "amounts" "[I", .methodLink RX1 83 yX1_fine, .instanceMethod yX1_fine, .selects RX1 yX1_fine yX1_fine, .code yX1_fine cX1_fine 2 (some .int), .fieldLink RX1 40 "ProgressBillingModel" "refusal" "I"] ++ wsX10)
def wsJ9_max_7cf53 : List Cond := .code yJ9_max_7cf53 cJ9_max_7cf53 2 (some .int) :: ([])
def wsL_addLine : List Cond := .codeWith yL_addLine cL_addLine 4 (some .int) [(0, 9, 12, 13), (0, 9, 15, 15)] :: ([.classLink RL 13 "java/lang/IllegalArgumentException", .classLink RL 15 "java/lang/IllegalStateException", .methodLink RL 7 yX0_addLine, .instanceMethod yX0_addLine, .selects RX0 yX0_addLine yX0_addLine, .initialized RX0, .code yX0_addLine cX0_addLine 3 (some .int), .constant RX0 47 (10000000), .fieldLink RX0 55 "ProgressBilling" "lineCount" "I", .fieldLink RX0 9 "ProgressBilling" "lineValue" "[I", .methodLink RX0 48 yX0_requireBetween, .static yX0_requireBetween, .code yX0_requireBetween cX0_requireBetween 3 none, .classLink RX0 157 "java/lang/IllegalArgumentException", .initialized "java/lang/IllegalArgumentException", .methodLink RX0 52 yX0_requireRoomForLine, .instanceMethod yX0_requireRoomForLine, .selects RX0 yX0_requireRoomForLine yX0_requireRoomForLine, .code yX0_requireRoomForLine cX0_requireRoomForLine 1 none, .classLink RX0 62 "java/lang/IllegalStateException", .initialized "java/lang/IllegalStateException"] ++ wsX00 ++ (vx_atS RX0 161 "java/lang/IllegalArgumentException" ["java/lang/RuntimeException", "java/lang/Exception"]).filter goodWord ++ (vx_atS RX0 66 "java/lang/IllegalStateException" ["java/lang/RuntimeException", "java/lang/Exception"]).filter goodWord)
def wsL_changeValue_r1 : List Cond := [Cond.classLink RL 21 "java/lang/IndexOutOfBoundsException", Cond.classLink RL 13 "java/lang/IllegalArgumentException", Cond.classLink RL 15 "java/lang/IllegalStateException", Cond.methodLink RL 17 yX0_changeValue, Cond.instanceMethod yX0_changeValue, Cond.selects RX0 yX0_changeValue yX0_changeValue, Cond.initialized RX0, Cond.code yX0_changeValue cX0_changeValue 4 (some .int), Cond.classLink RX0 62 "java/lang/IllegalStateException", Cond.initialized "java/lang/IllegalStateException", Cond.constant RX0 47 (10000000), Cond.fieldLink RX0 13 "ProgressBilling" "lineEarned" "[I", Cond.fieldLink RX0 9 "ProgressBilling" "lineValue" "[I", Cond.methodLink RX0 58 yX0_requireLine, Cond.instanceMethod yX0_requireLine, Cond.selects RX0 yX0_requireLine yX0_requireLine, Cond.code yX0_requireLine cX0_requireLine 2 none, Cond.classLink RX0 150 "java/lang/IndexOutOfBoundsException", Cond.initialized "java/lang/IndexOutOfBoundsException", Cond.fieldLink RX0 55 "ProgressBilling" "lineCount" "I", Cond.methodLink RX0 48 yX0_requireBetween, Cond.static yX0_requireBetween, Cond.code yX0_requireBetween cX0_requireBetween 3 none, Cond.classLink RX0 157 "java/lang/IllegalArgumentException"]
def wsL_changeValue_r2 : List Cond := [Cond.initialized "java/lang/IllegalArgumentException"]
def wsL_changeValue : List Cond := .codeWith yL_changeValue cL_changeValue 5 (some .int) [(0, 10, 13, 21), (0, 10, 17, 13), (0, 10, 21, 15)] :: ((wsL_changeValue_r1 ++ wsL_changeValue_r2) ++ wsX00 ++ (vx_atS RX0 66 "java/lang/IllegalStateException" ["java/lang/RuntimeException", "java/lang/Exception"]).filter goodWord ++ (vx_atS RX0 154 "java/lang/IndexOutOfBoundsException" ["java/lang/RuntimeException", "java/lang/Exception"]).filter goodWord ++ (vx_atS RX0 161 "java/lang/IllegalArgumentException" ["java/lang/RuntimeException", "java/lang/Exception"]).filter goodWord)
def wsL_split_r1 : List Cond := [Cond.classLink RL 21 "java/lang/IndexOutOfBoundsException", Cond.classLink RL 13 "java/lang/IllegalArgumentException", Cond.classLink RL 15 "java/lang/IllegalStateException", Cond.methodLink RL 23 yX0_split, Cond.instanceMethod yX0_split, Cond.selects RX0 yX0_split yX0_split, Cond.initialized RX0, Cond.code yX0_split cX0_split 5 (some .int), Cond.fieldLink RX0 9 "ProgressBilling" "lineValue" "[I", Cond.fieldLink RX0 55 "ProgressBilling" "lineCount" "I", Cond.fieldLink RX0 13 "ProgressBilling" "lineEarned" "[I", Cond.fieldLink RX0 16 "ProgressBilling" "lineWork" "[I", Cond.fieldLink RX0 19 "ProgressBilling" "lineBilled" "[I", Cond.fieldLink RX0 22 "ProgressBilling" "lineHeld" "[I", Cond.methodLink RX0 58 yX0_requireLine, Cond.instanceMethod yX0_requireLine, Cond.selects RX0 yX0_requireLine yX0_requireLine, Cond.code yX0_requireLine cX0_requireLine 2 none, Cond.classLink RX0 150 "java/lang/IndexOutOfBoundsException", Cond.initialized "java/lang/IndexOutOfBoundsException", Cond.methodLink RX0 48 yX0_requireBetween, Cond.static yX0_requireBetween, Cond.code yX0_requireBetween cX0_requireBetween 3 none, Cond.classLink RX0 157 "java/lang/IllegalArgumentException"]
def wsL_split_r2 : List Cond := [Cond.initialized "java/lang/IllegalArgumentException", Cond.methodLink RX0 52 yX0_requireRoomForLine, Cond.instanceMethod yX0_requireRoomForLine, Cond.selects RX0 yX0_requireRoomForLine yX0_requireRoomForLine, Cond.code yX0_requireRoomForLine cX0_requireRoomForLine 1 none, Cond.classLink RX0 62 "java/lang/IllegalStateException", Cond.initialized "java/lang/IllegalStateException", Cond.methodLink RX0 69 yX0_moveShare, Cond.static yX0_moveShare, Cond.code yX0_moveShare cX0_moveShare 6 none, Cond.methodLink RX0 106 yX0_scaledDown, Cond.static yX0_scaledDown, Cond.code yX0_scaledDown cX0_scaledDown 3 (some .int), Cond.methodLink RX0 184 yJ9_floorDiv_f86c9, Cond.static yJ9_floorDiv_f86c9, Cond.initialized RJ9, Cond.code yJ9_floorDiv_f86c9 cJ9_floorDiv_f86c9 6 (some .long)]
def wsL_split : List Cond := .codeWith yL_split cL_split 5 (some .int) [(0, 10, 13, 21), (0, 10, 17, 13), (0, 10, 21, 15)] :: ((wsL_split_r1 ++ wsL_split_r2) ++ wsX00 ++ (vx_atS RX0 154 "java/lang/IndexOutOfBoundsException" ["java/lang/RuntimeException", "java/lang/Exception"]).filter goodWord ++ (vx_atS RX0 161 "java/lang/IllegalArgumentException" ["java/lang/RuntimeException", "java/lang/Exception"]).filter goodWord ++ (vx_atS RX0 66 "java/lang/IllegalStateException" ["java/lang/RuntimeException", "java/lang/Exception"]).filter goodWord)
def wsL_setWork_r1 : List Cond := [Cond.classLink RL 21 "java/lang/IndexOutOfBoundsException", Cond.classLink RL 13 "java/lang/IllegalArgumentException", Cond.classLink RL 15 "java/lang/IllegalStateException", Cond.methodLink RL 26 yX0_setWork, Cond.instanceMethod yX0_setWork, Cond.selects RX0 yX0_setWork yX0_setWork, Cond.initialized RX0, Cond.code yX0_setWork cX0_setWork 4 (some .int), Cond.classLink RX0 62 "java/lang/IllegalStateException", Cond.initialized "java/lang/IllegalStateException", Cond.fieldLink RX0 9 "ProgressBilling" "lineValue" "[I", Cond.fieldLink RX0 16 "ProgressBilling" "lineWork" "[I", Cond.fieldLink RX0 13 "ProgressBilling" "lineEarned" "[I", Cond.methodLink RX0 58 yX0_requireLine, Cond.instanceMethod yX0_requireLine, Cond.selects RX0 yX0_requireLine yX0_requireLine, Cond.code yX0_requireLine cX0_requireLine 2 none, Cond.classLink RX0 150 "java/lang/IndexOutOfBoundsException", Cond.initialized "java/lang/IndexOutOfBoundsException", Cond.fieldLink RX0 55 "ProgressBilling" "lineCount" "I", Cond.methodLink RX0 48 yX0_requireBetween, Cond.static yX0_requireBetween, Cond.code yX0_requireBetween cX0_requireBetween 3 none, Cond.classLink RX0 157 "java/lang/IllegalArgumentException"]
def wsL_setWork_r2 : List Cond := [Cond.initialized "java/lang/IllegalArgumentException", Cond.methodLink RX0 73 yX0_thousandths, Cond.static yX0_thousandths, Cond.code yX0_thousandths cX0_thousandths 2 (some .int), Cond.constantLong RX0 180 (500), Cond.constantLong RX0 182 (1000), Cond.methodLink RX0 184 yJ9_floorDiv_f86c9, Cond.static yJ9_floorDiv_f86c9, Cond.initialized RJ9, Cond.code yJ9_floorDiv_f86c9 cJ9_floorDiv_f86c9 6 (some .long), Cond.methodLink RX0 79 yX0_requireValueFor, Cond.instanceMethod yX0_requireValueFor, Cond.selects RX0 yX0_requireValueFor yX0_requireValueFor, Cond.code yX0_requireValueFor cX0_requireValueFor 3 none]
def wsL_setWork : List Cond := .codeWith yL_setWork cL_setWork 5 (some .int) [(0, 10, 13, 21), (0, 10, 17, 13), (0, 10, 21, 15)] :: ((wsL_setWork_r1 ++ wsL_setWork_r2) ++ wsX00 ++ (vx_atS RX0 66 "java/lang/IllegalStateException" ["java/lang/RuntimeException", "java/lang/Exception"]).filter goodWord ++ (vx_atS RX0 154 "java/lang/IndexOutOfBoundsException" ["java/lang/RuntimeException", "java/lang/Exception"]).filter goodWord ++ (vx_atS RX0 161 "java/lang/IllegalArgumentException" ["java/lang/RuntimeException", "java/lang/Exception"]).filter goodWord)
def wsL_store_r1 : List Cond := [Cond.classLink RL 21 "java/lang/IndexOutOfBoundsException", Cond.classLink RL 13 "java/lang/IllegalArgumentException", Cond.classLink RL 15 "java/lang/IllegalStateException", Cond.methodLink RL 29 yX0_store, Cond.instanceMethod yX0_store, Cond.selects RX0 yX0_store yX0_store, Cond.initialized RX0, Cond.code yX0_store cX0_store 3 (some .int), Cond.constant RX0 47 (10000000), Cond.fieldLink RX0 13 "ProgressBilling" "lineEarned" "[I", Cond.fieldLink RX0 16 "ProgressBilling" "lineWork" "[I", Cond.methodLink RX0 58 yX0_requireLine, Cond.instanceMethod yX0_requireLine, Cond.selects RX0 yX0_requireLine yX0_requireLine, Cond.code yX0_requireLine cX0_requireLine 2 none, Cond.classLink RX0 150 "java/lang/IndexOutOfBoundsException", Cond.initialized "java/lang/IndexOutOfBoundsException", Cond.fieldLink RX0 55 "ProgressBilling" "lineCount" "I", Cond.methodLink RX0 48 yX0_requireBetween, Cond.static yX0_requireBetween, Cond.code yX0_requireBetween cX0_requireBetween 3 none, Cond.classLink RX0 157 "java/lang/IllegalArgumentException", Cond.initialized "java/lang/IllegalArgumentException", Cond.methodLink RX0 79 yX0_requireValueFor]
def wsL_store_r2 : List Cond := [Cond.instanceMethod yX0_requireValueFor, Cond.selects RX0 yX0_requireValueFor yX0_requireValueFor, Cond.code yX0_requireValueFor cX0_requireValueFor 3 none, Cond.classLink RX0 62 "java/lang/IllegalStateException", Cond.initialized "java/lang/IllegalStateException", Cond.fieldLink RX0 9 "ProgressBilling" "lineValue" "[I"]
def wsL_store : List Cond := .codeWith yL_store cL_store 5 (some .int) [(0, 10, 13, 21), (0, 10, 17, 13), (0, 10, 21, 15)] :: ((wsL_store_r1 ++ wsL_store_r2) ++ wsX00 ++ (vx_atS RX0 154 "java/lang/IndexOutOfBoundsException" ["java/lang/RuntimeException", "java/lang/Exception"]).filter goodWord ++ (vx_atS RX0 161 "java/lang/IllegalArgumentException" ["java/lang/RuntimeException", "java/lang/Exception"]).filter goodWord ++ (vx_atS RX0 66 "java/lang/IllegalStateException" ["java/lang/RuntimeException", "java/lang/Exception"]).filter goodWord)
def wsL_place_r1 : List Cond := [Cond.classLink RL 21 "java/lang/IndexOutOfBoundsException", Cond.classLink RL 13 "java/lang/IllegalArgumentException", Cond.classLink RL 15 "java/lang/IllegalStateException", Cond.methodLink RL 32 yX0_place, Cond.instanceMethod yX0_place, Cond.selects RX0 yX0_place yX0_place, Cond.initialized RX0, Cond.code yX0_place cX0_place 3 (some .int), Cond.classLink RX0 62 "java/lang/IllegalStateException", Cond.initialized "java/lang/IllegalStateException", Cond.constant RX0 47 (10000000), Cond.fieldLink RX0 13 "ProgressBilling" "lineEarned" "[I", Cond.fieldLink RX0 16 "ProgressBilling" "lineWork" "[I", Cond.methodLink RX0 58 yX0_requireLine, Cond.instanceMethod yX0_requireLine, Cond.selects RX0 yX0_requireLine yX0_requireLine, Cond.code yX0_requireLine cX0_requireLine 2 none, Cond.classLink RX0 150 "java/lang/IndexOutOfBoundsException", Cond.initialized "java/lang/IndexOutOfBoundsException", Cond.fieldLink RX0 55 "ProgressBilling" "lineCount" "I", Cond.methodLink RX0 48 yX0_requireBetween, Cond.static yX0_requireBetween, Cond.code yX0_requireBetween cX0_requireBetween 3 none, Cond.classLink RX0 157 "java/lang/IllegalArgumentException"]
def wsL_place_r2 : List Cond := [Cond.initialized "java/lang/IllegalArgumentException"]
def wsL_place : List Cond := .codeWith yL_place cL_place 5 (some .int) [(0, 10, 13, 21), (0, 10, 17, 13), (0, 10, 21, 15)] :: ((wsL_place_r1 ++ wsL_place_r2) ++ wsX00 ++ (vx_atS RX0 66 "java/lang/IllegalStateException" ["java/lang/RuntimeException", "java/lang/Exception"]).filter goodWord ++ (vx_atS RX0 154 "java/lang/IndexOutOfBoundsException" ["java/lang/RuntimeException", "java/lang/Exception"]).filter goodWord ++ (vx_atS RX0 161 "java/lang/IllegalArgumentException" ["java/lang/RuntimeException", "java/lang/Exception"]).filter goodWord)
def wsL_setStep_r1 : List Cond := [Cond.classLink RL 13 "java/lang/IllegalArgumentException", Cond.classLink RL 15 "java/lang/IllegalStateException", Cond.methodLink RL 35 yX0_setStep, Cond.instanceMethod yX0_setStep, Cond.selects RX0 yX0_setStep yX0_setStep, Cond.initialized RX0, Cond.code yX0_setStep cX0_setStep 5 (some .int), Cond.fieldLink RX0 28 "ProgressBilling" "stepRate" "[I", Cond.methodLink RX0 48 yX0_requireBetween, Cond.static yX0_requireBetween, Cond.code yX0_requireBetween cX0_requireBetween 3 none, Cond.classLink RX0 157 "java/lang/IllegalArgumentException", Cond.initialized "java/lang/IllegalArgumentException", Cond.methodLink RX0 85 yX0_stepWith, Cond.instanceMethod yX0_stepWith, Cond.selects RX0 yX0_stepWith yX0_stepWith, Cond.code yX0_stepWith cX0_stepWith 3 (some .int), Cond.fieldLink RX0 43 "ProgressBilling" "stepCount" "I", Cond.fieldLink RX0 25 "ProgressBilling" "stepThreshold" "[I", Cond.methodLink RX0 89 yX0_addStep, Cond.instanceMethod yX0_addStep, Cond.selects RX0 yX0_addStep yX0_addStep, Cond.code yX0_addStep cX0_addStep 3 none, Cond.classLink RX0 62 "java/lang/IllegalStateException"]
def wsL_setStep_r2 : List Cond := [Cond.initialized "java/lang/IllegalStateException"]
def wsL_setStep : List Cond := .codeWith yL_setStep cL_setStep 5 (some .int) [(0, 10, 13, 13), (0, 10, 17, 15)] :: ((wsL_setStep_r1 ++ wsL_setStep_r2) ++ wsX00 ++ (vx_atS RX0 161 "java/lang/IllegalArgumentException" ["java/lang/RuntimeException", "java/lang/Exception"]).filter goodWord ++ (vx_atS RX0 66 "java/lang/IllegalStateException" ["java/lang/RuntimeException", "java/lang/Exception"]).filter goodWord)
def wsL_dropStep : List Cond := .codeWith yL_dropStep cL_dropStep 4 (some .int) [(0, 9, 12, 13), (0, 9, 15, 15)] :: ([.classLink RL 13 "java/lang/IllegalArgumentException", .classLink RL 15 "java/lang/IllegalStateException", .methodLink RL 38 yX0_dropStep, .instanceMethod yX0_dropStep, .selects RX0 yX0_dropStep yX0_dropStep, .initialized RX0, .code yX0_dropStep cX0_dropStep 5 (some .int), .classLink RX0 62 "java/lang/IllegalStateException", .initialized "java/lang/IllegalStateException", .fieldLink RX0 28 "ProgressBilling" "stepRate" "[I", .fieldLink RX0 43 "ProgressBilling" "stepCount" "I", .fieldLink RX0 25 "ProgressBilling" "stepThreshold" "[I", .methodLink RX0 48 yX0_requireBetween, .static yX0_requireBetween, .code yX0_requireBetween cX0_requireBetween 3 none, .classLink RX0 157 "java/lang/IllegalArgumentException", .initialized "java/lang/IllegalArgumentException", .methodLink RX0 85 yX0_stepWith, .instanceMethod yX0_stepWith, .selects RX0 yX0_stepWith yX0_stepWith, .code yX0_stepWith cX0_stepWith 3 (some .int)] ++ wsX00 ++ (vx_atS RX0 66 "java/lang/IllegalStateException" ["java/lang/RuntimeException", "java/lang/Exception"]).filter goodWord ++ (vx_atS RX0 161 "java/lang/IllegalArgumentException" ["java/lang/RuntimeException", "java/lang/Exception"]).filter goodWord)
def wsL_close_r1 : List Cond := [Cond.classLink RL 15 "java/lang/IllegalStateException", Cond.methodLink RL 41 yX0_close, Cond.instanceMethod yX0_close, Cond.selects RX0 yX0_close yX0_close, Cond.initialized RX0, Cond.code yX0_close cX0_close 2 (some .int), Cond.classLink RX0 62 "java/lang/IllegalStateException", Cond.initialized "java/lang/IllegalStateException", Cond.fieldLink RX0 55 "ProgressBilling" "lineCount" "I", Cond.fieldLink RX0 115 "ProgressBilling" "applicationCount" "I", Cond.fieldLink RX0 34 "ProgressBilling" "applicationAmount" "[I", Cond.fieldLink RX0 31 "ProgressBilling" "applicationState" "[I", Cond.fieldLink RX0 37 "ProgressBilling" "applicationBilled" "[I", Cond.fieldLink RX0 19 "ProgressBilling" "lineBilled" "[I", Cond.fieldLink RX0 40 "ProgressBilling" "applicationHeld" "[I", Cond.fieldLink RX0 22 "ProgressBilling" "lineHeld" "[I", Cond.methodLink RX0 120 yX0_nextAmount, Cond.instanceMethod yX0_nextAmount, Cond.selects RX0 yX0_nextAmount yX0_nextAmount, Cond.code yX0_nextAmount cX0_nextAmount 4 (some .int), Cond.fieldLink RX0 13 "ProgressBilling" "lineEarned" "[I", Cond.methodLink RX0 126 yX0_rate, Cond.instanceMethod yX0_rate, Cond.selects RX0 yX0_rate yX0_rate]
def wsL_close_r2 : List Cond := [Cond.code yX0_rate cX0_rate 4 (some .int), Cond.fieldLink RX0 43 "ProgressBilling" "stepCount" "I", Cond.fieldLink RX0 25 "ProgressBilling" "stepThreshold" "[I", Cond.fieldLink RX0 28 "ProgressBilling" "stepRate" "[I", Cond.methodLink RX0 110 yX0_progress, Cond.instanceMethod yX0_progress, Cond.selects RX0 yX0_progress yX0_progress, Cond.code yX0_progress cX0_progress 1 (some .int), Cond.fieldLink RX0 16 "ProgressBilling" "lineWork" "[I", Cond.methodLink RX0 98 yX0_sum, Cond.static yX0_sum, Cond.code yX0_sum cX0_sum 4 (some .int), Cond.methodLink RX0 102 yX0_contractSum, Cond.instanceMethod yX0_contractSum, Cond.selects RX0 yX0_contractSum yX0_contractSum, Cond.code yX0_contractSum cX0_contractSum 1 (some .int), Cond.fieldLink RX0 9 "ProgressBilling" "lineValue" "[I", Cond.methodLink RX0 106 yX0_scaledDown, Cond.static yX0_scaledDown, Cond.code yX0_scaledDown cX0_scaledDown 3 (some .int), Cond.methodLink RX0 184 yJ9_floorDiv_f86c9, Cond.static yJ9_floorDiv_f86c9, Cond.initialized RJ9, Cond.code yJ9_floorDiv_f86c9 cJ9_floorDiv_f86c9 6 (some .long)]
def wsL_close_r3 : List Cond := [Cond.methodLink RX0 129 yX0_heldIfClosed, Cond.instanceMethod yX0_heldIfClosed, Cond.selects RX0 yX0_heldIfClosed yX0_heldIfClosed, Cond.code yX0_heldIfClosed cX0_heldIfClosed 3 (some .int), Cond.fieldLink RX0 94 "ProgressBilling" "holdsByIncrease" "Z", Cond.methodLink RX0 73 yX0_thousandths, Cond.static yX0_thousandths, Cond.code yX0_thousandths cX0_thousandths 2 (some .int), Cond.constantLong RX0 180 (500), Cond.constantLong RX0 182 (1000), Cond.methodLink RX0 123 yX0_billLines, Cond.instanceMethod yX0_billLines, Cond.selects RX0 yX0_billLines yX0_billLines, Cond.code yX0_billLines cX0_billLines 3 none]
def wsL_close : List Cond := .codeWith yL_close cL_close 3 (some .int) [(0, 8, 11, 15)] :: ((wsL_close_r1 ++ (wsL_close_r2 ++ wsL_close_r3)) ++ wsX00 ++ (vx_atS RX0 66 "java/lang/IllegalStateException" ["java/lang/RuntimeException", "java/lang/Exception"]).filter goodWord)
def wsL_pay : List Cond := .codeWith yL_pay cL_pay 4 (some .int) [(0, 9, 12, 21), (0, 9, 15, 15)] :: ([.classLink RL 21 "java/lang/IndexOutOfBoundsException", .classLink RL 15 "java/lang/IllegalStateException", .methodLink RL 45 yX0_pay, .instanceMethod yX0_pay, .selects RX0 yX0_pay yX0_pay, .initialized RX0, .code yX0_pay cX0_pay 2 (some .int), .classLink RX0 62 "java/lang/IllegalStateException", .initialized "java/lang/IllegalStateException", .fieldLink RX0 31 "ProgressBilling" "applicationState" "[I", .fieldLink RX0 34 "ProgressBilling" "applicationAmount" "[I", .methodLink RX0 132 yX0_requireApplication, .instanceMethod yX0_requireApplication, .selects RX0 yX0_requireApplication yX0_requireApplication, .code yX0_requireApplication cX0_requireApplication 2 none, .classLink RX0 150 "java/lang/IndexOutOfBoundsException", .initialized "java/lang/IndexOutOfBoundsException", .fieldLink RX0 115 "ProgressBilling" "applicationCount" "I", .methodLink RX0 137 yX0_waiversGiven, .instanceMethod yX0_waiversGiven, .selects RX0 yX0_waiversGiven yX0_waiversGiven, .code yX0_waiversGiven cX0_waiversGiven 3 (some .int)] ++ wsX00 ++ (vx_atS RX0 66 "java/lang/IllegalStateException" ["java/lang/RuntimeException", "java/lang/Exception"]).filter goodWord ++ (vx_atS RX0 154 "java/lang/IndexOutOfBoundsException" ["java/lang/RuntimeException", "java/lang/Exception"]).filter goodWord)
def wsL_waive : List Cond := .codeWith yL_waive cL_waive 4 (some .int) [(0, 9, 12, 21), (0, 9, 15, 15)] :: ([.classLink RL 21 "java/lang/IndexOutOfBoundsException", .classLink RL 15 "java/lang/IllegalStateException", .methodLink RL 48 yX0_waive, .instanceMethod yX0_waive, .selects RX0 yX0_waive yX0_waive, .initialized RX0, .code yX0_waive cX0_waive 2 (some .int), .classLink RX0 62 "java/lang/IllegalStateException", .initialized "java/lang/IllegalStateException", .fieldLink RX0 31 "ProgressBilling" "applicationState" "[I", .methodLink RX0 132 yX0_requireApplication, .instanceMethod yX0_requireApplication, .selects RX0 yX0_requireApplication yX0_requireApplication, .code yX0_requireApplication cX0_requireApplication 2 none, .classLink RX0 150 "java/lang/IndexOutOfBoundsException", .initialized "java/lang/IndexOutOfBoundsException", .fieldLink RX0 115 "ProgressBilling" "applicationCount" "I", .methodLink RX0 137 yX0_waiversGiven, .instanceMethod yX0_waiversGiven, .selects RX0 yX0_waiversGiven yX0_waiversGiven, .code yX0_waiversGiven cX0_waiversGiven 3 (some .int)] ++ wsX00 ++ (vx_atS RX0 66 "java/lang/IllegalStateException" ["java/lang/RuntimeException", "java/lang/Exception"]).filter goodWord ++ (vx_atS RX0 154 "java/lang/IndexOutOfBoundsException" ["java/lang/RuntimeException", "java/lang/Exception"]).filter goodWord)
def wsL_state : List Cond := .codeWith yL_state cL_state 4 (some .int) [(0, 9, 12, 21)] :: ([.classLink RL 21 "java/lang/IndexOutOfBoundsException", .methodLink RL 51 yX0_state, .instanceMethod yX0_state, .selects RX0 yX0_state yX0_state, .initialized RX0, .code yX0_state cX0_state 2 (some .int), .fieldLink RX0 31 "ProgressBilling" "applicationState" "[I", .methodLink RX0 132 yX0_requireApplication, .instanceMethod yX0_requireApplication, .selects RX0 yX0_requireApplication yX0_requireApplication, .code yX0_requireApplication cX0_requireApplication 2 none, .classLink RX0 150 "java/lang/IndexOutOfBoundsException", .initialized "java/lang/IndexOutOfBoundsException", .fieldLink RX0 115 "ProgressBilling" "applicationCount" "I"] ++ wsX00 ++ (vx_atS RX0 154 "java/lang/IndexOutOfBoundsException" ["java/lang/RuntimeException", "java/lang/Exception"]).filter goodWord)
def wsL_amount : List Cond := .codeWith yL_amount cL_amount 4 (some .int) [(0, 9, 12, 21)] :: ([.classLink RL 21 "java/lang/IndexOutOfBoundsException", .methodLink RL 54 yX0_amount, .instanceMethod yX0_amount, .selects RX0 yX0_amount yX0_amount, .initialized RX0, .code yX0_amount cX0_amount 2 (some .int), .fieldLink RX0 34 "ProgressBilling" "applicationAmount" "[I", .methodLink RX0 132 yX0_requireApplication, .instanceMethod yX0_requireApplication, .selects RX0 yX0_requireApplication yX0_requireApplication, .code yX0_requireApplication cX0_requireApplication 2 none, .classLink RX0 150 "java/lang/IndexOutOfBoundsException", .initialized "java/lang/IndexOutOfBoundsException", .fieldLink RX0 115 "ProgressBilling" "applicationCount" "I"] ++ wsX00 ++ (vx_atS RX0 154 "java/lang/IndexOutOfBoundsException" ["java/lang/RuntimeException", "java/lang/Exception"]).filter goodWord)
def wsL_billedBehind : List Cond := .codeWith yL_billedBehind cL_billedBehind 4 (some .int) [(0, 9, 12, 21)] :: ([.classLink RL 21 "java/lang/IndexOutOfBoundsException", .methodLink RL 57 yX0_billedBehind, .instanceMethod yX0_billedBehind, .selects RX0 yX0_billedBehind yX0_billedBehind, .initialized RX0, .code yX0_billedBehind cX0_billedBehind 2 (some .int), .fieldLink RX0 37 "ProgressBilling" "applicationBilled" "[I", .methodLink RX0 132 yX0_requireApplication, .instanceMethod yX0_requireApplication, .selects RX0 yX0_requireApplication yX0_requireApplication, .code yX0_requireApplication cX0_requireApplication 2 none, .classLink RX0 150 "java/lang/IndexOutOfBoundsException", .initialized "java/lang/IndexOutOfBoundsException", .fieldLink RX0 115 "ProgressBilling" "applicationCount" "I"] ++ wsX00 ++ (vx_atS RX0 154 "java/lang/IndexOutOfBoundsException" ["java/lang/RuntimeException", "java/lang/Exception"]).filter goodWord)
def wsL_heldBehind : List Cond := .codeWith yL_heldBehind cL_heldBehind 4 (some .int) [(0, 9, 12, 21)] :: ([.classLink RL 21 "java/lang/IndexOutOfBoundsException", .methodLink RL 60 yX0_heldBehind, .instanceMethod yX0_heldBehind, .selects RX0 yX0_heldBehind yX0_heldBehind, .initialized RX0, .code yX0_heldBehind cX0_heldBehind 2 (some .int), .fieldLink RX0 40 "ProgressBilling" "applicationHeld" "[I", .methodLink RX0 132 yX0_requireApplication, .instanceMethod yX0_requireApplication, .selects RX0 yX0_requireApplication yX0_requireApplication, .code yX0_requireApplication cX0_requireApplication 2 none, .classLink RX0 150 "java/lang/IndexOutOfBoundsException", .initialized "java/lang/IndexOutOfBoundsException", .fieldLink RX0 115 "ProgressBilling" "applicationCount" "I"] ++ wsX00 ++ (vx_atS RX0 154 "java/lang/IndexOutOfBoundsException" ["java/lang/RuntimeException", "java/lang/Exception"]).filter goodWord)
def wsL_value : List Cond := .codeWith yL_value cL_value 4 (some .int) [(0, 9, 12, 21)] :: ([.classLink RL 21 "java/lang/IndexOutOfBoundsException", .methodLink RL 63 yX0_value, .instanceMethod yX0_value, .selects RX0 yX0_value yX0_value, .initialized RX0, .code yX0_value cX0_value 2 (some .int), .fieldLink RX0 9 "ProgressBilling" "lineValue" "[I", .methodLink RX0 58 yX0_requireLine, .instanceMethod yX0_requireLine, .selects RX0 yX0_requireLine yX0_requireLine, .code yX0_requireLine cX0_requireLine 2 none, .classLink RX0 150 "java/lang/IndexOutOfBoundsException", .initialized "java/lang/IndexOutOfBoundsException", .fieldLink RX0 55 "ProgressBilling" "lineCount" "I"] ++ wsX00 ++ (vx_atS RX0 154 "java/lang/IndexOutOfBoundsException" ["java/lang/RuntimeException", "java/lang/Exception"]).filter goodWord)
def wsL_work : List Cond := .codeWith yL_work cL_work 4 (some .int) [(0, 9, 12, 21)] :: ([.classLink RL 21 "java/lang/IndexOutOfBoundsException", .methodLink RL 66 yX0_work, .instanceMethod yX0_work, .selects RX0 yX0_work yX0_work, .initialized RX0, .code yX0_work cX0_work 2 (some .int), .fieldLink RX0 16 "ProgressBilling" "lineWork" "[I", .methodLink RX0 58 yX0_requireLine, .instanceMethod yX0_requireLine, .selects RX0 yX0_requireLine yX0_requireLine, .code yX0_requireLine cX0_requireLine 2 none, .classLink RX0 150 "java/lang/IndexOutOfBoundsException", .initialized "java/lang/IndexOutOfBoundsException", .fieldLink RX0 55 "ProgressBilling" "lineCount" "I"] ++ wsX00 ++ (vx_atS RX0 154 "java/lang/IndexOutOfBoundsException" ["java/lang/RuntimeException", "java/lang/Exception"]).filter goodWord)
def wsL_goods : List Cond := .codeWith yL_goods cL_goods 4 (some .int) [(0, 9, 12, 21)] :: ([.classLink RL 21 "java/lang/IndexOutOfBoundsException", .methodLink RL 69 yX0_goods, .instanceMethod yX0_goods, .selects RX0 yX0_goods yX0_goods, .initialized RX0, .code yX0_goods cX0_goods 2 (some .int), .fieldLink RX0 13 "ProgressBilling" "lineEarned" "[I", .fieldLink RX0 16 "ProgressBilling" "lineWork" "[I", .methodLink RX0 58 yX0_requireLine, .instanceMethod yX0_requireLine, .selects RX0 yX0_requireLine yX0_requireLine, .code yX0_requireLine cX0_requireLine 2 none, .classLink RX0 150 "java/lang/IndexOutOfBoundsException", .initialized "java/lang/IndexOutOfBoundsException", .fieldLink RX0 55 "ProgressBilling" "lineCount" "I"] ++ wsX00 ++ (vx_atS RX0 154 "java/lang/IndexOutOfBoundsException" ["java/lang/RuntimeException", "java/lang/Exception"]).filter goodWord)
def wsL_billed : List Cond := .codeWith yL_billed cL_billed 4 (some .int) [(0, 9, 12, 21)] :: ([.classLink RL 21 "java/lang/IndexOutOfBoundsException", .methodLink RL 72 yX0_billed, .instanceMethod yX0_billed, .selects RX0 yX0_billed yX0_billed, .initialized RX0, .code yX0_billed cX0_billed 2 (some .int), .fieldLink RX0 19 "ProgressBilling" "lineBilled" "[I", .methodLink RX0 58 yX0_requireLine, .instanceMethod yX0_requireLine, .selects RX0 yX0_requireLine yX0_requireLine, .code yX0_requireLine cX0_requireLine 2 none, .classLink RX0 150 "java/lang/IndexOutOfBoundsException", .initialized "java/lang/IndexOutOfBoundsException", .fieldLink RX0 55 "ProgressBilling" "lineCount" "I"] ++ wsX00 ++ (vx_atS RX0 154 "java/lang/IndexOutOfBoundsException" ["java/lang/RuntimeException", "java/lang/Exception"]).filter goodWord)
def wsL_held : List Cond := .codeWith yL_held cL_held 4 (some .int) [(0, 9, 12, 21)] :: ([.classLink RL 21 "java/lang/IndexOutOfBoundsException", .methodLink RL 75 yX0_held, .instanceMethod yX0_held, .selects RX0 yX0_held yX0_held, .initialized RX0, .code yX0_held cX0_held 2 (some .int), .fieldLink RX0 22 "ProgressBilling" "lineHeld" "[I", .methodLink RX0 58 yX0_requireLine, .instanceMethod yX0_requireLine, .selects RX0 yX0_requireLine yX0_requireLine, .code yX0_requireLine cX0_requireLine 2 none, .classLink RX0 150 "java/lang/IndexOutOfBoundsException", .initialized "java/lang/IndexOutOfBoundsException", .fieldLink RX0 55 "ProgressBilling" "lineCount" "I"] ++ wsX00 ++ (vx_atS RX0 154 "java/lang/IndexOutOfBoundsException" ["java/lang/RuntimeException", "java/lang/Exception"]).filter goodWord)
def wsL_lineByShare_r1 : List Cond := [Cond.classLink RL 21 "java/lang/IndexOutOfBoundsException", Cond.methodLink RL 78 yX0_lineByShare, Cond.instanceMethod yX0_lineByShare, Cond.selects RX0 yX0_lineByShare yX0_lineByShare, Cond.initialized RX0, Cond.code yX0_lineByShare cX0_lineByShare 3 (some .int), Cond.fieldLink RX0 55 "ProgressBilling" "lineCount" "I", Cond.methodLink RX0 58 yX0_requireLine, Cond.instanceMethod yX0_requireLine, Cond.selects RX0 yX0_requireLine yX0_requireLine, Cond.code yX0_requireLine cX0_requireLine 2 none, Cond.classLink RX0 150 "java/lang/IndexOutOfBoundsException", Cond.initialized "java/lang/IndexOutOfBoundsException", Cond.methodLink RX0 144 yX0_placeByShare, Cond.instanceMethod yX0_placeByShare, Cond.selects RX0 yX0_placeByShare yX0_placeByShare, Cond.code yX0_placeByShare cX0_placeByShare 4 (some .int), Cond.methodLink RX0 168 yX0_isAhead, Cond.instanceMethod yX0_isAhead, Cond.selects RX0 yX0_isAhead yX0_isAhead, Cond.code yX0_isAhead cX0_isAhead 7 (some .boolean), Cond.fieldLink RX0 16 "ProgressBilling" "lineWork" "[I", Cond.methodLink RX0 172 yX0_shareDivisor, Cond.instanceMethod yX0_shareDivisor]
def wsL_lineByShare_r2 : List Cond := [Cond.selects RX0 yX0_shareDivisor yX0_shareDivisor, Cond.code yX0_shareDivisor cX0_shareDivisor 2 (some .int), Cond.fieldLink RX0 9 "ProgressBilling" "lineValue" "[I", Cond.methodLink RX0 175 Lib.Math.max.name, Cond.static Lib.Math.max.name, Cond.initialized "java/lang/Math", Cond.code Lib.Math.max.name Lib.Math.max.code 2 (some .int)]
def wsL_lineByShare : List Cond := .codeWith yL_lineByShare cL_lineByShare 4 (some .int) [(0, 9, 12, 21)] :: ((wsL_lineByShare_r1 ++ wsL_lineByShare_r2) ++ wsX00 ++ (vx_atS RX0 154 "java/lang/IndexOutOfBoundsException" ["java/lang/RuntimeException", "java/lang/Exception"]).filter goodWord)
def wsL_law0_r1 : List Cond := [Cond.classLink RL 8 RX0, Cond.instantiable RX0 15, Cond.initialized RX0, Cond.classLink RL 82 RX1, Cond.instantiable RX1 14, Cond.initialized RX1, Cond.arrayClass .long, Cond.methodLink RL 81 yX0_init, Cond.instanceMethod yX0_init, Cond.code yX0_init cX0_init 1 none, Cond.methodLink RX0 1 objectInit, Cond.instanceMethod objectInit, Cond.code objectInit ⟨#[0xb1]⟩ 1 none, Cond.arrayClass .int, Cond.fieldLink RX0 9 "ProgressBilling" "lineValue" "[I", Cond.fieldLink RX0 13 "ProgressBilling" "lineEarned" "[I", Cond.fieldLink RX0 16 "ProgressBilling" "lineWork" "[I", Cond.fieldLink RX0 19 "ProgressBilling" "lineBilled" "[I", Cond.fieldLink RX0 22 "ProgressBilling" "lineHeld" "[I", Cond.fieldLink RX0 25 "ProgressBilling" "stepThreshold" "[I", Cond.fieldLink RX0 28 "ProgressBilling" "stepRate" "[I", Cond.fieldLink RX0 31 "ProgressBilling" "applicationState" "[I", Cond.fieldLink RX0 34 "ProgressBilling" "applicationAmount" "[I", Cond.fieldLink RX0 37 "ProgressBilling" "applicationBilled" "[I"]
def wsL_law0_r2 : List Cond := [Cond.fieldLink RX0 40 "ProgressBilling" "applicationHeld" "[I", Cond.fieldLink RX0 43 "ProgressBilling" "stepCount" "I", Cond.methodLink RL 84 yX1_init, Cond.instanceMethod yX1_init, Cond.code yX1_init cX1_init 2 none, Cond.methodLink RX1 1 objectInit, Cond.fieldLink RX1 7 "ProgressBillingModel" "values" "[I", Cond.fieldLink RX1 13 "ProgressBillingModel" "earned" "[I", Cond.fieldLink RX1 16 "ProgressBillingModel" "works" "[I", Cond.fieldLink RX1 19 "ProgressBillingModel" "billed" "[I", Cond.fieldLink RX1 22 "ProgressBillingModel" "held" "[I", Cond.fieldLink RX1 25 "ProgressBillingModel" "rates" "[I", Cond.fieldLink RX1 28 "ProgressBillingModel" "states" "[I", Cond.fieldLink RX1 31 "ProgressBillingModel" "amounts" "[I", Cond.fieldLink RX1 34 "ProgressBillingModel" "billedThen" "[I", Cond.fieldLink RX1 37 "ProgressBillingModel" "heldThen" "[I", Cond.methodLink RL 85 yL_addLine, Cond.static yL_addLine, Cond.initialized RL, Cond.codeWith yL_addLine cL_addLine 4 (some .int) [(0, 9, 12, 13), (0, 9, 15, 15)], Cond.classLink RL 13 "java/lang/IllegalArgumentException", Cond.classLink RL 15 "java/lang/IllegalStateException", Cond.methodLink RL 7 yX0_addLine, Cond.instanceMethod yX0_addLine]
def wsL_law0_r3 : List Cond := [Cond.selects RX0 yX0_addLine yX0_addLine, Cond.code yX0_addLine cX0_addLine 3 (some .int), Cond.constant RX0 47 (10000000), Cond.fieldLink RX0 55 "ProgressBilling" "lineCount" "I", Cond.methodLink RX0 48 yX0_requireBetween, Cond.static yX0_requireBetween, Cond.code yX0_requireBetween cX0_requireBetween 3 none, Cond.classLink RX0 157 "java/lang/IllegalArgumentException", Cond.initialized "java/lang/IllegalArgumentException", Cond.methodLink RX0 52 yX0_requireRoomForLine, Cond.instanceMethod yX0_requireRoomForLine, Cond.selects RX0 yX0_requireRoomForLine yX0_requireRoomForLine, Cond.code yX0_requireRoomForLine cX0_requireRoomForLine 1 none, Cond.classLink RX0 62 "java/lang/IllegalStateException", Cond.initialized "java/lang/IllegalStateException", Cond.methodLink RL 90 yX1_addLine, Cond.instanceMethod yX1_addLine, Cond.selects RX1 yX1_addLine yX1_addLine, Cond.code yX1_addLine cX1_addLine 2 (some .int), Cond.constant RX1 55 (10000000), Cond.fieldLink RX1 44 "ProgressBillingModel" "lines" "I", Cond.methodLink RX1 47 yX1_in, Cond.static yX1_in, Cond.code yX1_in cX1_in 3 (some .boolean)]
def wsL_law0_r4 : List Cond := [Cond.methodLink RX1 56 yX1_refused, Cond.instanceMethod yX1_refused, Cond.selects RX1 yX1_refused yX1_refused, Cond.code yX1_refused cX1_refused 2 (some .boolean), Cond.fieldLink RX1 40 "ProgressBillingModel" "refusal" "I", Cond.methodLink RX1 60 yX1_put, Cond.instanceMethod yX1_put, Cond.selects RX1 yX1_put yX1_put, Cond.code yX1_put cX1_put 7 none, Cond.methodLink RL 91 yX1_thrown, Cond.instanceMethod yX1_thrown, Cond.selects RX1 yX1_thrown yX1_thrown, Cond.code yX1_thrown cX1_thrown 1 (some .int), Cond.methodLink RL 94 yL_changeValue, Cond.static yL_changeValue, Cond.codeWith yL_changeValue cL_changeValue 5 (some .int) [(0, 10, 13, 21), (0, 10, 17, 13), (0, 10, 21, 15)], Cond.classLink RL 21 "java/lang/IndexOutOfBoundsException", Cond.methodLink RL 17 yX0_changeValue, Cond.instanceMethod yX0_changeValue, Cond.selects RX0 yX0_changeValue yX0_changeValue, Cond.code yX0_changeValue cX0_changeValue 4 (some .int), Cond.methodLink RX0 58 yX0_requireLine, Cond.instanceMethod yX0_requireLine, Cond.selects RX0 yX0_requireLine yX0_requireLine]
def wsL_law0_r5 : List Cond := [Cond.code yX0_requireLine cX0_requireLine 2 none, Cond.classLink RX0 150 "java/lang/IndexOutOfBoundsException", Cond.initialized "java/lang/IndexOutOfBoundsException", Cond.methodLink RL 97 yX1_changeValue, Cond.instanceMethod yX1_changeValue, Cond.selects RX1 yX1_changeValue yX1_changeValue, Cond.code yX1_changeValue cX1_changeValue 4 (some .int), Cond.methodLink RX1 64 yX1_isLine, Cond.instanceMethod yX1_isLine, Cond.selects RX1 yX1_isLine yX1_isLine, Cond.code yX1_isLine cX1_isLine 2 (some .boolean), Cond.methodLink RL 98 yL_split, Cond.static yL_split, Cond.codeWith yL_split cL_split 5 (some .int) [(0, 10, 13, 21), (0, 10, 17, 13), (0, 10, 21, 15)], Cond.methodLink RL 23 yX0_split, Cond.instanceMethod yX0_split, Cond.selects RX0 yX0_split yX0_split, Cond.code yX0_split cX0_split 5 (some .int), Cond.methodLink RX0 69 yX0_moveShare, Cond.static yX0_moveShare, Cond.code yX0_moveShare cX0_moveShare 6 none, Cond.methodLink RX0 106 yX0_scaledDown, Cond.static yX0_scaledDown, Cond.code yX0_scaledDown cX0_scaledDown 3 (some .int)]
def wsL_law0_r6 : List Cond := [Cond.methodLink RX0 184 yJ9_floorDiv_f86c9, Cond.static yJ9_floorDiv_f86c9, Cond.initialized RJ9, Cond.code yJ9_floorDiv_f86c9 cJ9_floorDiv_f86c9 6 (some .long), Cond.methodLink RL 100 yX1_split, Cond.instanceMethod yX1_split, Cond.selects RX1 yX1_split yX1_split, Cond.code yX1_split cX1_split 4 (some .int), Cond.methodLink RX1 67 yX1_share, Cond.static yX1_share, Cond.code yX1_share cX1_share 3 (some .int), Cond.methodLink RL 101 yL_setWork, Cond.static yL_setWork, Cond.codeWith yL_setWork cL_setWork 5 (some .int) [(0, 10, 13, 21), (0, 10, 17, 13), (0, 10, 21, 15)], Cond.methodLink RL 26 yX0_setWork, Cond.instanceMethod yX0_setWork, Cond.selects RX0 yX0_setWork yX0_setWork, Cond.code yX0_setWork cX0_setWork 4 (some .int), Cond.methodLink RX0 73 yX0_thousandths, Cond.static yX0_thousandths, Cond.code yX0_thousandths cX0_thousandths 2 (some .int), Cond.constantLong RX0 180 (500), Cond.constantLong RX0 182 (1000), Cond.methodLink RX0 79 yX0_requireValueFor]
def wsL_law0_r7 : List Cond := [Cond.instanceMethod yX0_requireValueFor, Cond.selects RX0 yX0_requireValueFor yX0_requireValueFor, Cond.code yX0_requireValueFor cX0_requireValueFor 3 none, Cond.methodLink RL 103 yX1_setWork, Cond.instanceMethod yX1_setWork, Cond.selects RX1 yX1_setWork yX1_setWork, Cond.code yX1_setWork cX1_setWork 7 (some .int), Cond.methodLink RX1 71 yX1_thousandths, Cond.static yX1_thousandths, Cond.code yX1_thousandths cX1_thousandths 2 (some .int), Cond.constantLong RX1 51 (500), Cond.constantLong RX1 53 (1000), Cond.methodLink RL 104 yL_store, Cond.static yL_store, Cond.codeWith yL_store cL_store 5 (some .int) [(0, 10, 13, 21), (0, 10, 17, 13), (0, 10, 21, 15)], Cond.methodLink RL 29 yX0_store, Cond.instanceMethod yX0_store, Cond.selects RX0 yX0_store yX0_store, Cond.code yX0_store cX0_store 3 (some .int), Cond.methodLink RL 106 yX1_store, Cond.instanceMethod yX1_store, Cond.selects RX1 yX1_store yX1_store, Cond.code yX1_store cX1_store 3 (some .int), Cond.methodLink RL 107 yL_place]
def wsL_law0_r8 : List Cond := [Cond.static yL_place, Cond.codeWith yL_place cL_place 5 (some .int) [(0, 10, 13, 21), (0, 10, 17, 13), (0, 10, 21, 15)], Cond.methodLink RL 32 yX0_place, Cond.instanceMethod yX0_place, Cond.selects RX0 yX0_place yX0_place, Cond.code yX0_place cX0_place 3 (some .int), Cond.methodLink RL 109 yX1_place, Cond.instanceMethod yX1_place, Cond.selects RX1 yX1_place yX1_place, Cond.code yX1_place cX1_place 3 (some .int), Cond.methodLink RL 110 yL_setStep, Cond.static yL_setStep, Cond.codeWith yL_setStep cL_setStep 5 (some .int) [(0, 10, 13, 13), (0, 10, 17, 15)], Cond.methodLink RL 35 yX0_setStep, Cond.instanceMethod yX0_setStep, Cond.selects RX0 yX0_setStep yX0_setStep, Cond.code yX0_setStep cX0_setStep 5 (some .int), Cond.methodLink RX0 85 yX0_stepWith, Cond.instanceMethod yX0_stepWith, Cond.selects RX0 yX0_stepWith yX0_stepWith, Cond.code yX0_stepWith cX0_stepWith 3 (some .int), Cond.methodLink RX0 89 yX0_addStep, Cond.instanceMethod yX0_addStep, Cond.selects RX0 yX0_addStep yX0_addStep]
def wsL_law0_r9 : List Cond := [Cond.code yX0_addStep cX0_addStep 3 none, Cond.methodLink RL 112 yX1_setStep, Cond.instanceMethod yX1_setStep, Cond.selects RX1 yX1_setStep yX1_setStep, Cond.code yX1_setStep cX1_setStep 5 (some .int), Cond.methodLink RX1 75 yX1_countSteps, Cond.instanceMethod yX1_countSteps, Cond.selects RX1 yX1_countSteps yX1_countSteps, Cond.code yX1_countSteps cX1_countSteps 3 (some .int), Cond.methodLink RL 113 yL_dropStep, Cond.static yL_dropStep, Cond.codeWith yL_dropStep cL_dropStep 4 (some .int) [(0, 9, 12, 13), (0, 9, 15, 15)], Cond.methodLink RL 38 yX0_dropStep, Cond.instanceMethod yX0_dropStep, Cond.selects RX0 yX0_dropStep yX0_dropStep, Cond.code yX0_dropStep cX0_dropStep 5 (some .int), Cond.methodLink RL 115 yX1_dropStep, Cond.instanceMethod yX1_dropStep, Cond.selects RX1 yX1_dropStep yX1_dropStep, Cond.code yX1_dropStep cX1_dropStep 4 (some .int), Cond.methodLink RL 116 yX0_hold, Cond.instanceMethod yX0_hold, Cond.selects RX0 yX0_hold yX0_hold, Cond.code yX0_hold cX0_hold 3 (some .boolean)]
def wsL_law0_r10 : List Cond := [Cond.fieldLink RX0 94 "ProgressBilling" "holdsByIncrease" "Z", Cond.methodLink RL 120 yX1_hold, Cond.instanceMethod yX1_hold, Cond.selects RX1 yX1_hold yX1_hold, Cond.code yX1_hold cX1_hold 3 (some .boolean), Cond.fieldLink RX1 79 "ProgressBillingModel" "isByIncrease" "Z", Cond.methodLink RL 121 yX0_steps, Cond.instanceMethod yX0_steps, Cond.selects RX0 yX0_steps yX0_steps, Cond.code yX0_steps cX0_steps 1 (some .int), Cond.methodLink RL 124 yX1_steps, Cond.instanceMethod yX1_steps, Cond.selects RX1 yX1_steps yX1_steps, Cond.code yX1_steps cX1_steps 1 (some .int), Cond.methodLink RX1 83 yX1_fine, Cond.instanceMethod yX1_fine, Cond.selects RX1 yX1_fine yX1_fine, Cond.code yX1_fine cX1_fine 2 (some .int), Cond.methodLink RL 125 yX0_progress, Cond.instanceMethod yX0_progress, Cond.selects RX0 yX0_progress yX0_progress, Cond.code yX0_progress cX0_progress 1 (some .int), Cond.methodLink RX0 98 yX0_sum, Cond.static yX0_sum]
def wsL_law0_r11 : List Cond := [Cond.code yX0_sum cX0_sum 4 (some .int), Cond.methodLink RX0 102 yX0_contractSum, Cond.instanceMethod yX0_contractSum, Cond.selects RX0 yX0_contractSum yX0_contractSum, Cond.code yX0_contractSum cX0_contractSum 1 (some .int), Cond.methodLink RL 128 yX1_progress, Cond.instanceMethod yX1_progress, Cond.selects RX1 yX1_progress yX1_progress, Cond.code yX1_progress cX1_progress 1 (some .int), Cond.methodLink RX1 91 yX1_reached, Cond.instanceMethod yX1_reached, Cond.selects RX1 yX1_reached yX1_reached, Cond.code yX1_reached cX1_reached 1 (some .int), Cond.methodLink RX1 87 yX1_sum, Cond.instanceMethod yX1_sum, Cond.selects RX1 yX1_sum yX1_sum, Cond.code yX1_sum cX1_sum 4 (some .int), Cond.methodLink RL 129 yX0_rate, Cond.instanceMethod yX0_rate, Cond.selects RX0 yX0_rate yX0_rate, Cond.code yX0_rate cX0_rate 4 (some .int), Cond.methodLink RX0 110 yX0_progress, Cond.methodLink RL 132 yX1_rate, Cond.instanceMethod yX1_rate]
def wsL_law0_r12 : List Cond := [Cond.selects RX1 yX1_rate yX1_rate, Cond.code yX1_rate cX1_rate 1 (some .int), Cond.methodLink RX1 94 yX1_rateNow, Cond.instanceMethod yX1_rateNow, Cond.selects RX1 yX1_rateNow yX1_rateNow, Cond.code yX1_rateNow cX1_rateNow 2 (some .int), Cond.methodLink RL 133 yL_close, Cond.static yL_close, Cond.codeWith yL_close cL_close 3 (some .int) [(0, 8, 11, 15)], Cond.methodLink RL 41 yX0_close, Cond.instanceMethod yX0_close, Cond.selects RX0 yX0_close yX0_close, Cond.code yX0_close cX0_close 2 (some .int), Cond.fieldLink RX0 115 "ProgressBilling" "applicationCount" "I", Cond.methodLink RX0 120 yX0_nextAmount, Cond.instanceMethod yX0_nextAmount, Cond.selects RX0 yX0_nextAmount yX0_nextAmount, Cond.code yX0_nextAmount cX0_nextAmount 4 (some .int), Cond.methodLink RX0 126 yX0_rate, Cond.methodLink RX0 129 yX0_heldIfClosed, Cond.instanceMethod yX0_heldIfClosed, Cond.selects RX0 yX0_heldIfClosed yX0_heldIfClosed, Cond.code yX0_heldIfClosed cX0_heldIfClosed 3 (some .int), Cond.methodLink RX0 123 yX0_billLines]
def wsL_law0_r13 : List Cond := [Cond.instanceMethod yX0_billLines, Cond.selects RX0 yX0_billLines yX0_billLines, Cond.code yX0_billLines cX0_billLines 3 none, Cond.methodLink RL 136 yX1_close, Cond.instanceMethod yX1_close, Cond.selects RX1 yX1_close yX1_close, Cond.code yX1_close cX1_close 2 (some .int), Cond.fieldLink RX1 100 "ProgressBillingModel" "applications" "I", Cond.methodLink RX1 103 yX1_amountNow, Cond.instanceMethod yX1_amountNow, Cond.selects RX1 yX1_amountNow yX1_amountNow, Cond.code yX1_amountNow cX1_amountNow 3 (some .int), Cond.methodLink RX1 97 yX1_holdsThen, Cond.instanceMethod yX1_holdsThen, Cond.selects RX1 yX1_holdsThen yX1_holdsThen, Cond.code yX1_holdsThen cX1_holdsThen 3 (some .int), Cond.methodLink RL 137 yX0_nextAmount, Cond.methodLink RL 140 yX1_nextAmount, Cond.instanceMethod yX1_nextAmount, Cond.selects RX1 yX1_nextAmount yX1_nextAmount, Cond.code yX1_nextAmount cX1_nextAmount 1 (some .int), Cond.methodLink RL 141 yL_pay, Cond.static yL_pay, Cond.codeWith yL_pay cL_pay 4 (some .int) [(0, 9, 12, 21), (0, 9, 15, 15)]]
def wsL_law0_r14 : List Cond := [Cond.methodLink RL 45 yX0_pay, Cond.instanceMethod yX0_pay, Cond.selects RX0 yX0_pay yX0_pay, Cond.code yX0_pay cX0_pay 2 (some .int), Cond.methodLink RX0 132 yX0_requireApplication, Cond.instanceMethod yX0_requireApplication, Cond.selects RX0 yX0_requireApplication yX0_requireApplication, Cond.code yX0_requireApplication cX0_requireApplication 2 none, Cond.methodLink RX0 137 yX0_waiversGiven, Cond.instanceMethod yX0_waiversGiven, Cond.selects RX0 yX0_waiversGiven yX0_waiversGiven, Cond.code yX0_waiversGiven cX0_waiversGiven 3 (some .int), Cond.methodLink RL 143 yX1_pay, Cond.instanceMethod yX1_pay, Cond.selects RX1 yX1_pay yX1_pay, Cond.code yX1_pay cX1_pay 2 (some .int), Cond.methodLink RX1 106 yX1_isApplication, Cond.instanceMethod yX1_isApplication, Cond.selects RX1 yX1_isApplication yX1_isApplication, Cond.code yX1_isApplication cX1_isApplication 2 (some .boolean), Cond.methodLink RX1 109 yX1_waived, Cond.instanceMethod yX1_waived, Cond.selects RX1 yX1_waived yX1_waived, Cond.code yX1_waived cX1_waived 2 (some .int)]
def wsL_law0_r15 : List Cond := [Cond.methodLink RL 144 yL_waive, Cond.static yL_waive, Cond.codeWith yL_waive cL_waive 4 (some .int) [(0, 9, 12, 21), (0, 9, 15, 15)], Cond.methodLink RL 48 yX0_waive, Cond.instanceMethod yX0_waive, Cond.selects RX0 yX0_waive yX0_waive, Cond.code yX0_waive cX0_waive 2 (some .int), Cond.methodLink RL 146 yX1_waive, Cond.instanceMethod yX1_waive, Cond.selects RX1 yX1_waive yX1_waive, Cond.code yX1_waive cX1_waive 2 (some .int), Cond.methodLink RL 147 yX0_applications, Cond.instanceMethod yX0_applications, Cond.selects RX0 yX0_applications yX0_applications, Cond.code yX0_applications cX0_applications 1 (some .int), Cond.methodLink RL 150 yX1_applications, Cond.instanceMethod yX1_applications, Cond.selects RX1 yX1_applications yX1_applications, Cond.code yX1_applications cX1_applications 1 (some .int), Cond.methodLink RL 151 yL_state, Cond.static yL_state, Cond.codeWith yL_state cL_state 4 (some .int) [(0, 9, 12, 21)], Cond.methodLink RL 51 yX0_state, Cond.instanceMethod yX0_state]
def wsL_law0_r16 : List Cond := [Cond.selects RX0 yX0_state yX0_state, Cond.code yX0_state cX0_state 2 (some .int), Cond.methodLink RL 153 yX1_state, Cond.instanceMethod yX1_state, Cond.selects RX1 yX1_state yX1_state, Cond.code yX1_state cX1_state 2 (some .int), Cond.methodLink RX1 112 yX1_told, Cond.instanceMethod yX1_told, Cond.selects RX1 yX1_told yX1_told, Cond.code yX1_told cX1_told 3 (some .int), Cond.methodLink RL 154 yL_amount, Cond.static yL_amount, Cond.codeWith yL_amount cL_amount 4 (some .int) [(0, 9, 12, 21)], Cond.methodLink RL 54 yX0_amount, Cond.instanceMethod yX0_amount, Cond.selects RX0 yX0_amount yX0_amount, Cond.code yX0_amount cX0_amount 2 (some .int), Cond.methodLink RL 156 yX1_amount, Cond.instanceMethod yX1_amount, Cond.selects RX1 yX1_amount yX1_amount, Cond.code yX1_amount cX1_amount 2 (some .int), Cond.methodLink RL 157 yL_billedBehind, Cond.static yL_billedBehind, Cond.codeWith yL_billedBehind cL_billedBehind 4 (some .int) [(0, 9, 12, 21)]]
def wsL_law0_r17 : List Cond := [Cond.methodLink RL 57 yX0_billedBehind, Cond.instanceMethod yX0_billedBehind, Cond.selects RX0 yX0_billedBehind yX0_billedBehind, Cond.code yX0_billedBehind cX0_billedBehind 2 (some .int), Cond.methodLink RL 159 yX1_billedBehind, Cond.instanceMethod yX1_billedBehind, Cond.selects RX1 yX1_billedBehind yX1_billedBehind, Cond.code yX1_billedBehind cX1_billedBehind 2 (some .int), Cond.methodLink RL 160 yL_heldBehind, Cond.static yL_heldBehind, Cond.codeWith yL_heldBehind cL_heldBehind 4 (some .int) [(0, 9, 12, 21)], Cond.methodLink RL 60 yX0_heldBehind, Cond.instanceMethod yX0_heldBehind, Cond.selects RX0 yX0_heldBehind yX0_heldBehind, Cond.code yX0_heldBehind cX0_heldBehind 2 (some .int), Cond.methodLink RL 162 yX1_heldBehind, Cond.instanceMethod yX1_heldBehind, Cond.selects RX1 yX1_heldBehind yX1_heldBehind, Cond.code yX1_heldBehind cX1_heldBehind 2 (some .int), Cond.methodLink RL 163 yX0_lines, Cond.instanceMethod yX0_lines, Cond.selects RX0 yX0_lines yX0_lines, Cond.code yX0_lines cX0_lines 1 (some .int), Cond.methodLink RL 166 yX1_lines]
def wsL_law0_r18 : List Cond := [Cond.instanceMethod yX1_lines, Cond.selects RX1 yX1_lines yX1_lines, Cond.code yX1_lines cX1_lines 1 (some .int), Cond.methodLink RL 167 yL_value, Cond.static yL_value, Cond.codeWith yL_value cL_value 4 (some .int) [(0, 9, 12, 21)], Cond.methodLink RL 63 yX0_value, Cond.instanceMethod yX0_value, Cond.selects RX0 yX0_value yX0_value, Cond.code yX0_value cX0_value 2 (some .int), Cond.methodLink RL 169 yX1_value, Cond.instanceMethod yX1_value, Cond.selects RX1 yX1_value yX1_value, Cond.code yX1_value cX1_value 2 (some .int), Cond.methodLink RX1 116 yX1_noLine, Cond.instanceMethod yX1_noLine, Cond.selects RX1 yX1_noLine yX1_noLine, Cond.code yX1_noLine cX1_noLine 2 (some .boolean), Cond.methodLink RL 170 yL_work, Cond.static yL_work, Cond.codeWith yL_work cL_work 4 (some .int) [(0, 9, 12, 21)], Cond.methodLink RL 66 yX0_work, Cond.instanceMethod yX0_work, Cond.selects RX0 yX0_work yX0_work]
def wsL_law0_r19 : List Cond := [Cond.code yX0_work cX0_work 2 (some .int), Cond.methodLink RL 172 yX1_work, Cond.instanceMethod yX1_work, Cond.selects RX1 yX1_work yX1_work, Cond.code yX1_work cX1_work 2 (some .int), Cond.methodLink RL 173 yL_goods, Cond.static yL_goods, Cond.codeWith yL_goods cL_goods 4 (some .int) [(0, 9, 12, 21)], Cond.methodLink RL 69 yX0_goods, Cond.instanceMethod yX0_goods, Cond.selects RX0 yX0_goods yX0_goods, Cond.code yX0_goods cX0_goods 2 (some .int), Cond.methodLink RL 175 yX1_goods, Cond.instanceMethod yX1_goods, Cond.selects RX1 yX1_goods yX1_goods, Cond.code yX1_goods cX1_goods 2 (some .int), Cond.methodLink RL 176 yL_billed, Cond.static yL_billed, Cond.codeWith yL_billed cL_billed 4 (some .int) [(0, 9, 12, 21)], Cond.methodLink RL 72 yX0_billed, Cond.instanceMethod yX0_billed, Cond.selects RX0 yX0_billed yX0_billed, Cond.code yX0_billed cX0_billed 2 (some .int), Cond.methodLink RL 178 yX1_billed]
def wsL_law0_r20 : List Cond := [Cond.instanceMethod yX1_billed, Cond.selects RX1 yX1_billed yX1_billed, Cond.code yX1_billed cX1_billed 2 (some .int), Cond.methodLink RL 179 yL_held, Cond.static yL_held, Cond.codeWith yL_held cL_held 4 (some .int) [(0, 9, 12, 21)], Cond.methodLink RL 75 yX0_held, Cond.instanceMethod yX0_held, Cond.selects RX0 yX0_held yX0_held, Cond.code yX0_held cX0_held 2 (some .int), Cond.methodLink RL 181 yX1_held, Cond.instanceMethod yX1_held, Cond.selects RX1 yX1_held yX1_held, Cond.code yX1_held cX1_held 2 (some .int), Cond.methodLink RL 182 yL_lineByShare, Cond.static yL_lineByShare, Cond.codeWith yL_lineByShare cL_lineByShare 4 (some .int) [(0, 9, 12, 21)], Cond.methodLink RL 78 yX0_lineByShare, Cond.instanceMethod yX0_lineByShare, Cond.selects RX0 yX0_lineByShare yX0_lineByShare, Cond.code yX0_lineByShare cX0_lineByShare 3 (some .int), Cond.methodLink RX0 144 yX0_placeByShare, Cond.instanceMethod yX0_placeByShare, Cond.selects RX0 yX0_placeByShare yX0_placeByShare]
def wsL_law0_r21 : List Cond := [Cond.code yX0_placeByShare cX0_placeByShare 4 (some .int), Cond.methodLink RX0 168 yX0_isAhead, Cond.instanceMethod yX0_isAhead, Cond.selects RX0 yX0_isAhead yX0_isAhead, Cond.code yX0_isAhead cX0_isAhead 7 (some .boolean), Cond.methodLink RX0 172 yX0_shareDivisor, Cond.instanceMethod yX0_shareDivisor, Cond.selects RX0 yX0_shareDivisor yX0_shareDivisor, Cond.code yX0_shareDivisor cX0_shareDivisor 2 (some .int), Cond.methodLink RX0 175 Lib.Math.max.name, Cond.static Lib.Math.max.name, Cond.initialized "java/lang/Math", Cond.code Lib.Math.max.name Lib.Math.max.code 2 (some .int), Cond.methodLink RL 184 yX1_lineByShare, Cond.instanceMethod yX1_lineByShare, Cond.selects RX1 yX1_lineByShare yX1_lineByShare, Cond.code yX1_lineByShare cX1_lineByShare 6 (some .int), Cond.methodLink RX1 119 yX1_isAhead, Cond.instanceMethod yX1_isAhead, Cond.selects RX1 yX1_isAhead yX1_isAhead, Cond.code yX1_isAhead cX1_isAhead 7 (some .boolean), Cond.methodLink RL 185 yX0_contractSum, Cond.methodLink RL 188 yX1_contractSum, Cond.instanceMethod yX1_contractSum]
def wsL_law0_r22 : List Cond := [Cond.selects RX1 yX1_contractSum yX1_contractSum, Cond.code yX1_contractSum cX1_contractSum 1 (some .int), Cond.methodLink RL 189 yX0_paid, Cond.instanceMethod yX0_paid, Cond.selects RX0 yX0_paid yX0_paid, Cond.code yX0_paid cX0_paid 3 (some .int), Cond.methodLink RL 192 yX1_paid, Cond.instanceMethod yX1_paid, Cond.selects RX1 yX1_paid yX1_paid, Cond.code yX1_paid cX1_paid 1 (some .int), Cond.methodLink RX1 123 yX1_sumPaid, Cond.instanceMethod yX1_sumPaid, Cond.selects RX1 yX1_sumPaid yX1_sumPaid, Cond.code yX1_sumPaid cX1_sumPaid 3 (some .int), Cond.methodLink RL 193 yX0_toCome, Cond.instanceMethod yX0_toCome, Cond.selects RX0 yX0_toCome yX0_toCome, Cond.code yX0_toCome cX0_toCome 1 (some .int), Cond.methodLink RX0 147 yX0_paid, Cond.methodLink RL 196 yX1_toCome, Cond.instanceMethod yX1_toCome, Cond.selects RX1 yX1_toCome yX1_toCome, Cond.code yX1_toCome cX1_toCome 1 (some .int)]
def wsL_law0 : List Cond := (wsL_law0_r1 ++ (wsL_law0_r2 ++ (wsL_law0_r3 ++ (wsL_law0_r4 ++ (wsL_law0_r5 ++ (wsL_law0_r6 ++ (wsL_law0_r7 ++ (wsL_law0_r8 ++ (wsL_law0_r9 ++ (wsL_law0_r10 ++ (wsL_law0_r11 ++ (wsL_law0_r12 ++ (wsL_law0_r13 ++ (wsL_law0_r14 ++ (wsL_law0_r15 ++ (wsL_law0_r16 ++ (wsL_law0_r17 ++ (wsL_law0_r18 ++ (wsL_law0_r19 ++ (wsL_law0_r20 ++ (wsL_law0_r21 ++ wsL_law0_r22))))))))))))))))))))) ++ wsX00 ++ wsX10 ++ ([] : List Cond)
def wsL_law : List Cond := wsL_law0 ++ (vx_atS RX0 161 "java/lang/IllegalArgumentException" ["java/lang/RuntimeException", "java/lang/Exception"]).filter goodWord ++ (vx_atS RX0 66 "java/lang/IllegalStateException" ["java/lang/RuntimeException", "java/lang/Exception"]).filter goodWord ++ (vx_atS RX0 154 "java/lang/IndexOutOfBoundsException" ["java/lang/RuntimeException", "java/lang/Exception"]).filter goodWord
abbrev vwCl : List vw_C := [(RX0, TX0, 15), (RX1, TX1, 14)]
end
section
set_option maxRecDepth 20000 in
theorem wsL_law_m1 : ∀ w ∈ wsL_law0_r1, w ∈ lw_tbl := by decide +kernel
set_option maxRecDepth 20000 in
theorem wsL_law_m2 : ∀ w ∈ wsL_law0_r2, w ∈ lw_tbl := by decide +kernel
set_option maxRecDepth 20000 in
theorem wsL_law_m3 : ∀ w ∈ wsL_law0_r3, w ∈ lw_tbl := by decide +kernel
set_option maxRecDepth 20000 in
theorem wsL_law_m4 : ∀ w ∈ wsL_law0_r4, w ∈ lw_tbl := by decide +kernel
set_option maxRecDepth 20000 in
theorem wsL_law_m5 : ∀ w ∈ wsL_law0_r5, w ∈ lw_tbl := by decide +kernel
set_option maxRecDepth 20000 in
theorem wsL_law_m6 : ∀ w ∈ wsL_law0_r6, w ∈ lw_tbl := by decide +kernel
set_option maxRecDepth 20000 in
theorem wsL_law_m7 : ∀ w ∈ wsL_law0_r7, w ∈ lw_tbl := by decide +kernel
set_option maxRecDepth 20000 in
theorem wsL_law_m8 : ∀ w ∈ wsL_law0_r8, w ∈ lw_tbl := by decide +kernel
set_option maxRecDepth 20000 in
theorem wsL_law_m9 : ∀ w ∈ wsL_law0_r9, w ∈ lw_tbl := by decide +kernel
set_option maxRecDepth 20000 in
theorem wsL_law_m10 : ∀ w ∈ wsL_law0_r10, w ∈ lw_tbl := by decide +kernel
set_option maxRecDepth 20000 in
theorem wsL_law_m11 : ∀ w ∈ wsL_law0_r11, w ∈ lw_tbl := by decide +kernel
set_option maxRecDepth 20000 in
theorem wsL_law_m12 : ∀ w ∈ wsL_law0_r12, w ∈ lw_tbl := by decide +kernel
set_option maxRecDepth 20000 in
theorem wsL_law_m13 : ∀ w ∈ wsL_law0_r13, w ∈ lw_tbl := by decide +kernel
set_option maxRecDepth 20000 in
theorem wsL_law_m14 : ∀ w ∈ wsL_law0_r14, w ∈ lw_tbl := by decide +kernel
set_option maxRecDepth 20000 in
theorem wsL_law_m15 : ∀ w ∈ wsL_law0_r15, w ∈ lw_tbl := by decide +kernel
set_option maxRecDepth 20000 in
theorem wsL_law_m16 : ∀ w ∈ wsL_law0_r16, w ∈ lw_tbl := by decide +kernel
set_option maxRecDepth 20000 in
theorem wsL_law_m17 : ∀ w ∈ wsL_law0_r17, w ∈ lw_tbl := by decide +kernel
set_option maxRecDepth 20000 in
theorem wsL_law_m18 : ∀ w ∈ wsL_law0_r18, w ∈ lw_tbl := by decide +kernel
set_option maxRecDepth 20000 in
theorem wsL_law_m19 : ∀ w ∈ wsL_law0_r19, w ∈ lw_tbl := by decide +kernel
set_option maxRecDepth 20000 in
theorem wsL_law_m20 : ∀ w ∈ wsL_law0_r20, w ∈ lw_tbl := by decide +kernel
set_option maxRecDepth 20000 in
theorem wsL_law_m21 : ∀ w ∈ wsL_law0_r21, w ∈ lw_tbl := by decide +kernel
set_option maxRecDepth 20000 in
theorem wsL_law_m22 : ∀ w ∈ wsL_law0_r22, w ∈ lw_tbl := by decide +kernel
set_option maxRecDepth 20000 in
theorem wsL_law_mx0 : ∀ w ∈ wsX00, w ∈ lw_tbl := by decide +kernel
set_option maxRecDepth 20000 in
theorem wsL_law_mx1 : ∀ w ∈ wsX10, w ∈ lw_tbl := by decide +kernel
end
section
theorem wsL_law_in0 : ∀ w ∈ wsL_law0, w ∈ lw_tbl := List.forall_mem_append.mpr ⟨List.forall_mem_append.mpr ⟨List.forall_mem_append.mpr ⟨List.forall_mem_append.mpr ⟨wsL_law_m1, List.forall_mem_append.mpr ⟨wsL_law_m2, List.forall_mem_append.mpr ⟨wsL_law_m3, List.forall_mem_append.mpr ⟨wsL_law_m4, List.forall_mem_append.mpr ⟨wsL_law_m5, List.forall_mem_append.mpr ⟨wsL_law_m6, List.forall_mem_append.mpr ⟨wsL_law_m7, List.forall_mem_append.mpr ⟨wsL_law_m8, List.forall_mem_append.mpr ⟨wsL_law_m9, List.forall_mem_append.mpr ⟨wsL_law_m10, List.forall_mem_append.mpr ⟨wsL_law_m11, List.forall_mem_append.mpr ⟨wsL_law_m12, List.forall_mem_append.mpr ⟨wsL_law_m13, List.forall_mem_append.mpr ⟨wsL_law_m14, List.forall_mem_append.mpr ⟨wsL_law_m15, List.forall_mem_append.mpr ⟨wsL_law_m16, List.forall_mem_append.mpr ⟨wsL_law_m17, List.forall_mem_append.mpr ⟨wsL_law_m18, List.forall_mem_append.mpr ⟨wsL_law_m19, List.forall_mem_append.mpr ⟨wsL_law_m20, List.forall_mem_append.mpr ⟨wsL_law_m21, wsL_law_m22⟩⟩⟩⟩⟩⟩⟩⟩⟩⟩⟩⟩⟩⟩⟩⟩⟩⟩⟩⟩⟩, wsL_law_mx0⟩, wsL_law_mx1⟩, fun _ h => absurd h List.not_mem_nil⟩
theorem wsL_law_x0 : ∀ w ∈ (vx_atS RX0 161 "java/lang/IllegalArgumentException" ["java/lang/RuntimeException", "java/lang/Exception"]).filter goodWord, w ∈ lw_tbl := by decide +kernel
theorem wsL_law_x1 : ∀ w ∈ (vx_atS RX0 66 "java/lang/IllegalStateException" ["java/lang/RuntimeException", "java/lang/Exception"]).filter goodWord, w ∈ lw_tbl := by decide +kernel
theorem wsL_law_x2 : ∀ w ∈ (vx_atS RX0 154 "java/lang/IndexOutOfBoundsException" ["java/lang/RuntimeException", "java/lang/Exception"]).filter goodWord, w ∈ lw_tbl := by decide +kernel
theorem wsL_law_in : ∀ w ∈ wsL_law, w ∈ lw_tbl := fun w h => (List.mem_append.mp h).elim (fun h => (List.mem_append.mp h).elim (fun h => (List.mem_append.mp h).elim (fun h => wsL_law_in0 w h) (fun h => wsL_law_x0 w h)) (fun h => wsL_law_x1 w h)) (fun h => wsL_law_x2 w h)
theorem inlX0 : ∀ w ∈ wsX00, w ∈ wsL_law := fun _ h => List.mem_append_left _ (List.mem_append_left _ (List.mem_append_left _ (List.mem_append_left _ (List.mem_append_left _ (List.mem_append_right _ h)))))
theorem inX0 : ∀ w ∈ wsX00, w ∈ lw_tbl := fun w h => wsL_law_in w (inlX0 w h)
theorem inlX1 : ∀ w ∈ wsX10, w ∈ wsL_law := fun _ h => List.mem_append_left _ (List.mem_append_left _ (List.mem_append_left _ (List.mem_append_left _ (List.mem_append_right _ h))))
theorem inX1 : ∀ w ∈ wsX10, w ∈ lw_tbl := fun w h => wsL_law_in w (inlX1 w h)
theorem inJ9 : ∀ w ∈ wsJ90, w ∈ lw_tbl := by decide +kernel
theorem inJ0 : ∀ w ∈ wsJ00, w ∈ lw_tbl := by decide +kernel
end
section
theorem dX0_init_0 : decode cX0_init 0 = .ok (.aload_n 0, 1) := by decide +kernel
theorem dX0_init_1 : decode cX0_init 1 = .ok (.invokespecial 1, 3) := by decide +kernel
theorem dX0_init_4 : decode cX0_init 4 = .ok (.aload_n 0, 1) := by decide +kernel
theorem dX0_init_5 : decode cX0_init 5 = .ok (.bipush 16, 2) := by decide +kernel
theorem dX0_init_7 : decode cX0_init 7 = .ok (.newarray .int, 2) := by decide +kernel
theorem dX0_init_9 : decode cX0_init 9 = .ok (.putfield 9, 3) := by decide +kernel
theorem dX0_init_12 : decode cX0_init 12 = .ok (.aload_n 0, 1) := by decide +kernel
theorem dX0_init_13 : decode cX0_init 13 = .ok (.bipush 16, 2) := by decide +kernel
theorem dX0_init_15 : decode cX0_init 15 = .ok (.newarray .int, 2) := by decide +kernel
theorem dX0_init_17 : decode cX0_init 17 = .ok (.putfield 13, 3) := by decide +kernel
theorem dX0_init_20 : decode cX0_init 20 = .ok (.aload_n 0, 1) := by decide +kernel
theorem dX0_init_21 : decode cX0_init 21 = .ok (.bipush 16, 2) := by decide +kernel
theorem dX0_init_23 : decode cX0_init 23 = .ok (.newarray .int, 2) := by decide +kernel
theorem dX0_init_25 : decode cX0_init 25 = .ok (.putfield 16, 3) := by decide +kernel
theorem dX0_init_28 : decode cX0_init 28 = .ok (.aload_n 0, 1) := by decide +kernel
theorem dX0_init_29 : decode cX0_init 29 = .ok (.bipush 16, 2) := by decide +kernel
theorem dX0_init_31 : decode cX0_init 31 = .ok (.newarray .int, 2) := by decide +kernel
theorem dX0_init_33 : decode cX0_init 33 = .ok (.putfield 19, 3) := by decide +kernel
theorem dX0_init_36 : decode cX0_init 36 = .ok (.aload_n 0, 1) := by decide +kernel
theorem dX0_init_37 : decode cX0_init 37 = .ok (.bipush 16, 2) := by decide +kernel
theorem dX0_init_39 : decode cX0_init 39 = .ok (.newarray .int, 2) := by decide +kernel
theorem dX0_init_41 : decode cX0_init 41 = .ok (.putfield 22, 3) := by decide +kernel
theorem dX0_init_44 : decode cX0_init 44 = .ok (.aload_n 0, 1) := by decide +kernel
theorem dX0_init_45 : decode cX0_init 45 = .ok (.bipush 6, 2) := by decide +kernel
theorem dX0_init_47 : decode cX0_init 47 = .ok (.newarray .int, 2) := by decide +kernel
theorem dX0_init_49 : decode cX0_init 49 = .ok (.putfield 25, 3) := by decide +kernel
theorem dX0_init_52 : decode cX0_init 52 = .ok (.aload_n 0, 1) := by decide +kernel
theorem dX0_init_53 : decode cX0_init 53 = .ok (.bipush 6, 2) := by decide +kernel
theorem dX0_init_55 : decode cX0_init 55 = .ok (.newarray .int, 2) := by decide +kernel
theorem dX0_init_57 : decode cX0_init 57 = .ok (.putfield 28, 3) := by decide +kernel
theorem dX0_init_60 : decode cX0_init 60 = .ok (.aload_n 0, 1) := by decide +kernel
theorem dX0_init_61 : decode cX0_init 61 = .ok (.bipush 60, 2) := by decide +kernel
theorem dX0_init_63 : decode cX0_init 63 = .ok (.newarray .int, 2) := by decide +kernel
theorem dX0_init_65 : decode cX0_init 65 = .ok (.putfield 31, 3) := by decide +kernel
theorem dX0_init_68 : decode cX0_init 68 = .ok (.aload_n 0, 1) := by decide +kernel
theorem dX0_init_69 : decode cX0_init 69 = .ok (.bipush 60, 2) := by decide +kernel
theorem dX0_init_71 : decode cX0_init 71 = .ok (.newarray .int, 2) := by decide +kernel
theorem dX0_init_73 : decode cX0_init 73 = .ok (.putfield 34, 3) := by decide +kernel
theorem dX0_init_76 : decode cX0_init 76 = .ok (.aload_n 0, 1) := by decide +kernel
theorem dX0_init_77 : decode cX0_init 77 = .ok (.bipush 60, 2) := by decide +kernel
theorem dX0_init_79 : decode cX0_init 79 = .ok (.newarray .int, 2) := by decide +kernel
theorem dX0_init_81 : decode cX0_init 81 = .ok (.putfield 37, 3) := by decide +kernel
theorem dX0_init_84 : decode cX0_init 84 = .ok (.aload_n 0, 1) := by decide +kernel
theorem dX0_init_85 : decode cX0_init 85 = .ok (.bipush 60, 2) := by decide +kernel
theorem dX0_init_87 : decode cX0_init 87 = .ok (.newarray .int, 2) := by decide +kernel
theorem dX0_init_89 : decode cX0_init 89 = .ok (.putfield 40, 3) := by decide +kernel
theorem dX0_init_92 : decode cX0_init 92 = .ok (.aload_n 0, 1) := by decide +kernel
theorem dX0_init_93 : decode cX0_init 93 = .ok (.getfield 28, 3) := by decide +kernel
theorem dX0_init_96 : decode cX0_init 96 = .ok (.iconst 0, 1) := by decide +kernel
theorem dX0_init_97 : decode cX0_init 97 = .ok (.bipush 100, 2) := by decide +kernel
theorem dX0_init_99 : decode cX0_init 99 = .ok (.iastore, 1) := by decide +kernel
theorem dX0_init_100 : decode cX0_init 100 = .ok (.aload_n 0, 1) := by decide +kernel
theorem dX0_init_101 : decode cX0_init 101 = .ok (.iconst 1, 1) := by decide +kernel
theorem dX0_init_102 : decode cX0_init 102 = .ok (.putfield 43, 3) := by decide +kernel
theorem dX0_init_105 : decode cX0_init 105 = .ok (.return_, 1) := by decide +kernel
set_option maxRecDepth 20000 in
theorem ggX0_addLine_X0_requireBetween : GoodIn wsX0_addLine wsX0_requireBetween := goodIn_ca (goodIn_r _ [7, 8, 9] (by decide +kernel) (by decide +kernel)) (goodIn_sub (fun _ h => List.mem_cons_of_mem _ (List.mem_append_left _ (List.mem_append_right _ h))) (by decide +kernel))
set_option maxRecDepth 20000 in
theorem gX0_addLine_X0_requireBetween : GoodIn wsX0_addLine (va_wsS RX0 48 yX0_requireBetween wsX0_requireBetween) := goodIn_app (goodIn_of _ (by decide +kernel)) ggX0_addLine_X0_requireBetween
set_option maxRecDepth 20000 in
theorem ggX0_addLine_X0_requireRoomForLine : GoodIn wsX0_addLine wsX0_requireRoomForLine := goodIn_ca (goodIn_r _ [13, 14, 15, 2, 16, 17, 18, 19, 20, 21, 22, 23, 24, 25, 26, 27, 28, 29, 30] (by decide +kernel) (by decide +kernel)) (goodIn_sub (fun _ h => List.mem_cons_of_mem _ (List.mem_append_right _ h)) (by decide +kernel))
set_option maxRecDepth 20000 in
theorem gX0_addLine_X0_requireRoomForLine : GoodIn wsX0_addLine (wsV RX0 52 RX0 yX0_requireRoomForLine wsX0_requireRoomForLine) := goodIn_app (goodIn_of _ (by decide +kernel)) ggX0_addLine_X0_requireRoomForLine
theorem dX0_addLine_0 : decode cX0_addLine 0 = .ok (.iload_n 1, 1) := by decide +kernel
theorem dX0_addLine_1 : decode cX0_addLine 1 = .ok (.iconst 0, 1) := by decide +kernel
theorem dX0_addLine_2 : decode cX0_addLine 2 = .ok (.ldc 47, 2) := by decide +kernel
theorem dX0_addLine_4 : decode cX0_addLine 4 = .ok (.invokestatic 48, 3) := by decide +kernel
theorem dX0_addLine_7 : decode cX0_addLine 7 = .ok (.aload_n 0, 1) := by decide +kernel
theorem dX0_addLine_8 : decode cX0_addLine 8 = .ok (.invokevirtual 52, 3) := by decide +kernel
theorem dX0_addLine_11 : decode cX0_addLine 11 = .ok (.aload_n 0, 1) := by decide +kernel
theorem dX0_addLine_12 : decode cX0_addLine 12 = .ok (.getfield 55, 3) := by decide +kernel
theorem dX0_addLine_15 : decode cX0_addLine 15 = .ok (.istore_n 2, 1) := by decide +kernel
theorem dX0_addLine_16 : decode cX0_addLine 16 = .ok (.aload_n 0, 1) := by decide +kernel
theorem dX0_addLine_17 : decode cX0_addLine 17 = .ok (.getfield 9, 3) := by decide +kernel
theorem dX0_addLine_20 : decode cX0_addLine 20 = .ok (.iload_n 2, 1) := by decide +kernel
theorem dX0_addLine_21 : decode cX0_addLine 21 = .ok (.iload_n 1, 1) := by decide +kernel
theorem dX0_addLine_22 : decode cX0_addLine 22 = .ok (.iastore, 1) := by decide +kernel
theorem dX0_addLine_23 : decode cX0_addLine 23 = .ok (.aload_n 0, 1) := by decide +kernel
theorem dX0_addLine_24 : decode cX0_addLine 24 = .ok (.iload_n 2, 1) := by decide +kernel
theorem dX0_addLine_25 : decode cX0_addLine 25 = .ok (.iconst 1, 1) := by decide +kernel
theorem dX0_addLine_26 : decode cX0_addLine 26 = .ok (.iadd, 1) := by decide +kernel
theorem dX0_addLine_27 : decode cX0_addLine 27 = .ok (.putfield 55, 3) := by decide +kernel
theorem dX0_addLine_30 : decode cX0_addLine 30 = .ok (.iload_n 2, 1) := by decide +kernel
theorem dX0_addLine_31 : decode cX0_addLine 31 = .ok (.ireturn, 1) := by decide +kernel
set_option maxRecDepth 20000 in
theorem ggX0_changeValue_X0_requireLine : GoodIn wsX0_changeValue wsX0_requireLine := goodIn_ca (goodIn_r _ [10, 11, 12, 13, 19, 20, 21, 22, 23, 24, 25, 26, 27, 28, 29, 30, 31, 32, 33] (by decide +kernel) (by decide +kernel)) (goodIn_sub (fun _ h => List.mem_cons_of_mem _ (List.mem_append_left _ (List.mem_append_right _ h))) (by decide +kernel))
set_option maxRecDepth 20000 in
theorem gX0_changeValue_X0_requireLine : GoodIn wsX0_changeValue (wsV RX0 58 RX0 yX0_requireLine wsX0_requireLine) := goodIn_app (goodIn_of _ (by decide +kernel)) ggX0_changeValue_X0_requireLine
set_option maxRecDepth 20000 in
theorem ggX0_changeValue_X0_requireBetween : GoodIn wsX0_changeValue wsX0_requireBetween := goodIn_ca (goodIn_r _ [16, 17, 18] (by decide +kernel) (by decide +kernel)) (goodIn_sub (fun _ h => List.mem_cons_of_mem _ (List.mem_append_right _ h)) (by decide +kernel))
set_option maxRecDepth 20000 in
theorem gX0_changeValue_X0_requireBetween : GoodIn wsX0_changeValue (va_wsS RX0 48 yX0_requireBetween wsX0_requireBetween) := goodIn_app (goodIn_of _ (by decide +kernel)) ggX0_changeValue_X0_requireBetween
theorem dX0_changeValue_0 : decode cX0_changeValue 0 = .ok (.aload_n 0, 1) := by decide +kernel
theorem dX0_changeValue_1 : decode cX0_changeValue 1 = .ok (.iload_n 1, 1) := by decide +kernel
theorem dX0_changeValue_2 : decode cX0_changeValue 2 = .ok (.invokevirtual 58, 3) := by decide +kernel
theorem dX0_changeValue_5 : decode cX0_changeValue 5 = .ok (.iload_n 2, 1) := by decide +kernel
theorem dX0_changeValue_6 : decode cX0_changeValue 6 = .ok (.iconst 0, 1) := by decide +kernel
theorem dX0_changeValue_7 : decode cX0_changeValue 7 = .ok (.ldc 47, 2) := by decide +kernel
theorem dX0_changeValue_9 : decode cX0_changeValue 9 = .ok (.invokestatic 48, 3) := by decide +kernel
theorem dX0_changeValue_12 : decode cX0_changeValue 12 = .ok (.iload_n 2, 1) := by decide +kernel
theorem dX0_changeValue_13 : decode cX0_changeValue 13 = .ok (.aload_n 0, 1) := by decide +kernel
theorem dX0_changeValue_14 : decode cX0_changeValue 14 = .ok (.getfield 13, 3) := by decide +kernel
theorem dX0_changeValue_17 : decode cX0_changeValue 17 = .ok (.iload_n 1, 1) := by decide +kernel
theorem dX0_changeValue_18 : decode cX0_changeValue 18 = .ok (.iaload, 1) := by decide +kernel
theorem dX0_changeValue_19 : decode cX0_changeValue 19 = .ok (.if_icmp .ge 13, 3) := by decide +kernel
theorem dX0_changeValue_22 : decode cX0_changeValue 22 = .ok (.new 62, 3) := by decide +kernel
theorem dX0_changeValue_25 : decode cX0_changeValue 25 = .ok (.dup, 1) := by decide +kernel
theorem dX0_changeValue_26 : decode cX0_changeValue 26 = .ok (.ldc 64, 2) := by decide +kernel
theorem dX0_changeValue_28 : decode cX0_changeValue 28 = .ok (.invokespecial 66, 3) := by decide +kernel
theorem dX0_changeValue_31 : decode cX0_changeValue 31 = .ok (.athrow, 1) := by decide +kernel
theorem dX0_changeValue_32 : decode cX0_changeValue 32 = .ok (.iload_n 2, 1) := by decide +kernel
theorem dX0_changeValue_33 : decode cX0_changeValue 33 = .ok (.aload_n 0, 1) := by decide +kernel
theorem dX0_changeValue_34 : decode cX0_changeValue 34 = .ok (.getfield 9, 3) := by decide +kernel
theorem dX0_changeValue_37 : decode cX0_changeValue 37 = .ok (.iload_n 1, 1) := by decide +kernel
theorem dX0_changeValue_38 : decode cX0_changeValue 38 = .ok (.iaload, 1) := by decide +kernel
theorem dX0_changeValue_39 : decode cX0_changeValue 39 = .ok (.isub, 1) := by decide +kernel
theorem dX0_changeValue_40 : decode cX0_changeValue 40 = .ok (.istore_n 3, 1) := by decide +kernel
theorem dX0_changeValue_41 : decode cX0_changeValue 41 = .ok (.aload_n 0, 1) := by decide +kernel
theorem dX0_changeValue_42 : decode cX0_changeValue 42 = .ok (.getfield 9, 3) := by decide +kernel
theorem dX0_changeValue_45 : decode cX0_changeValue 45 = .ok (.iload_n 1, 1) := by decide +kernel
theorem dX0_changeValue_46 : decode cX0_changeValue 46 = .ok (.iload_n 2, 1) := by decide +kernel
theorem dX0_changeValue_47 : decode cX0_changeValue 47 = .ok (.iastore, 1) := by decide +kernel
theorem dX0_changeValue_48 : decode cX0_changeValue 48 = .ok (.iload_n 3, 1) := by decide +kernel
theorem dX0_changeValue_49 : decode cX0_changeValue 49 = .ok (.ireturn, 1) := by decide +kernel
set_option maxRecDepth 20000 in
theorem ggX0_split_X0_requireLine : GoodIn wsX0_split wsX0_requireLine := goodIn_ca (goodIn_r _ [11, 12, 13, 2, 35, 36, 37, 38, 39, 40, 41, 42, 43, 44, 45, 46, 47, 48, 49] (by decide +kernel) (by decide +kernel)) (goodIn_sub (fun _ h => List.mem_cons_of_mem _ (List.mem_append_left _ (List.mem_append_left _ (List.mem_append_right _ h)))) (by decide +kernel))
set_option maxRecDepth 20000 in
theorem gX0_split_X0_requireLine : GoodIn wsX0_split (wsV RX0 58 RX0 yX0_requireLine wsX0_requireLine) := goodIn_app (goodIn_of _ (by decide +kernel)) ggX0_split_X0_requireLine
set_option maxRecDepth 20000 in
theorem ggX0_split_X0_requireBetween : GoodIn wsX0_split wsX0_requireBetween := goodIn_ca (goodIn_r _ [16, 17, 18] (by decide +kernel) (by decide +kernel)) (goodIn_sub (fun _ h => List.mem_cons_of_mem _ (List.mem_append_left _ (List.mem_append_right _ h))) (by decide +kernel))
set_option maxRecDepth 20000 in
theorem gX0_split_X0_requireBetween : GoodIn wsX0_split (va_wsS RX0 48 yX0_requireBetween wsX0_requireBetween) := goodIn_app (goodIn_of _ (by decide +kernel)) ggX0_split_X0_requireBetween
set_option maxRecDepth 20000 in
theorem ggX0_split_X0_requireRoomForLine : GoodIn wsX0_split wsX0_requireRoomForLine := goodIn_ca (goodIn_r _ [22, 23, 24, 2, 35, 36, 37, 38, 39, 40, 41, 42, 43, 44, 45, 46, 47, 48, 49] (by decide +kernel) (by decide +kernel)) (goodIn_sub (fun _ h => List.mem_cons_of_mem _ (List.mem_append_right _ h)) (by decide +kernel))
set_option maxRecDepth 20000 in
theorem gX0_split_X0_requireRoomForLine : GoodIn wsX0_split (wsV RX0 52 RX0 yX0_requireRoomForLine wsX0_requireRoomForLine) := goodIn_app (goodIn_of _ (by decide +kernel)) ggX0_split_X0_requireRoomForLine
set_option maxRecDepth 20000 in
theorem ggX0_split_X0_moveShare : GoodIn wsX0_split wsX0_moveShare := goodIn_r _ [27, 28, 29, 10, 30, 31, 32, 33, 34] (by decide +kernel) (by decide +kernel)
set_option maxRecDepth 20000 in
theorem gX0_split_X0_moveShare : GoodIn wsX0_split (va_wsS RX0 69 yX0_moveShare wsX0_moveShare) := goodIn_app (goodIn_of _ (by decide +kernel)) ggX0_split_X0_moveShare
theorem dX0_split_0 : decode cX0_split 0 = .ok (.aload_n 0, 1) := by decide +kernel
theorem dX0_split_1 : decode cX0_split 1 = .ok (.iload_n 1, 1) := by decide +kernel
theorem dX0_split_2 : decode cX0_split 2 = .ok (.invokevirtual 58, 3) := by decide +kernel
theorem dX0_split_5 : decode cX0_split 5 = .ok (.aload_n 0, 1) := by decide +kernel
theorem dX0_split_6 : decode cX0_split 6 = .ok (.getfield 9, 3) := by decide +kernel
theorem dX0_split_9 : decode cX0_split 9 = .ok (.iload_n 1, 1) := by decide +kernel
theorem dX0_split_10 : decode cX0_split 10 = .ok (.iaload, 1) := by decide +kernel
theorem dX0_split_11 : decode cX0_split 11 = .ok (.istore_n 3, 1) := by decide +kernel
theorem dX0_split_12 : decode cX0_split 12 = .ok (.iload_n 2, 1) := by decide +kernel
theorem dX0_split_13 : decode cX0_split 13 = .ok (.iconst 1, 1) := by decide +kernel
theorem dX0_split_14 : decode cX0_split 14 = .ok (.iload_n 3, 1) := by decide +kernel
theorem dX0_split_15 : decode cX0_split 15 = .ok (.iconst 1, 1) := by decide +kernel
theorem dX0_split_16 : decode cX0_split 16 = .ok (.isub, 1) := by decide +kernel
theorem dX0_split_17 : decode cX0_split 17 = .ok (.invokestatic 48, 3) := by decide +kernel
theorem dX0_split_20 : decode cX0_split 20 = .ok (.aload_n 0, 1) := by decide +kernel
theorem dX0_split_21 : decode cX0_split 21 = .ok (.invokevirtual 52, 3) := by decide +kernel
theorem dX0_split_24 : decode cX0_split 24 = .ok (.aload_n 0, 1) := by decide +kernel
theorem dX0_split_25 : decode cX0_split 25 = .ok (.getfield 55, 3) := by decide +kernel
theorem dX0_split_28 : decode cX0_split 28 = .ok (.istore 4, 2) := by decide +kernel
theorem dX0_split_30 : decode cX0_split 30 = .ok (.aload_n 0, 1) := by decide +kernel
theorem dX0_split_31 : decode cX0_split 31 = .ok (.getfield 13, 3) := by decide +kernel
theorem dX0_split_34 : decode cX0_split 34 = .ok (.iload_n 1, 1) := by decide +kernel
theorem dX0_split_35 : decode cX0_split 35 = .ok (.iload 4, 2) := by decide +kernel
theorem dX0_split_37 : decode cX0_split 37 = .ok (.iload_n 2, 1) := by decide +kernel
theorem dX0_split_38 : decode cX0_split 38 = .ok (.iload_n 3, 1) := by decide +kernel
theorem dX0_split_39 : decode cX0_split 39 = .ok (.invokestatic 69, 3) := by decide +kernel
theorem dX0_split_42 : decode cX0_split 42 = .ok (.aload_n 0, 1) := by decide +kernel
theorem dX0_split_43 : decode cX0_split 43 = .ok (.getfield 16, 3) := by decide +kernel
theorem dX0_split_46 : decode cX0_split 46 = .ok (.iload_n 1, 1) := by decide +kernel
theorem dX0_split_47 : decode cX0_split 47 = .ok (.iload 4, 2) := by decide +kernel
theorem dX0_split_49 : decode cX0_split 49 = .ok (.iload_n 2, 1) := by decide +kernel
theorem dX0_split_50 : decode cX0_split 50 = .ok (.iload_n 3, 1) := by decide +kernel
theorem dX0_split_51 : decode cX0_split 51 = .ok (.invokestatic 69, 3) := by decide +kernel
theorem dX0_split_54 : decode cX0_split 54 = .ok (.aload_n 0, 1) := by decide +kernel
theorem dX0_split_55 : decode cX0_split 55 = .ok (.getfield 19, 3) := by decide +kernel
theorem dX0_split_58 : decode cX0_split 58 = .ok (.iload_n 1, 1) := by decide +kernel
theorem dX0_split_59 : decode cX0_split 59 = .ok (.iload 4, 2) := by decide +kernel
theorem dX0_split_61 : decode cX0_split 61 = .ok (.iload_n 2, 1) := by decide +kernel
theorem dX0_split_62 : decode cX0_split 62 = .ok (.iload_n 3, 1) := by decide +kernel
theorem dX0_split_63 : decode cX0_split 63 = .ok (.invokestatic 69, 3) := by decide +kernel
theorem dX0_split_66 : decode cX0_split 66 = .ok (.aload_n 0, 1) := by decide +kernel
theorem dX0_split_67 : decode cX0_split 67 = .ok (.getfield 22, 3) := by decide +kernel
theorem dX0_split_70 : decode cX0_split 70 = .ok (.iload_n 1, 1) := by decide +kernel
theorem dX0_split_71 : decode cX0_split 71 = .ok (.iload 4, 2) := by decide +kernel
theorem dX0_split_73 : decode cX0_split 73 = .ok (.iload_n 2, 1) := by decide +kernel
theorem dX0_split_74 : decode cX0_split 74 = .ok (.iload_n 3, 1) := by decide +kernel
theorem dX0_split_75 : decode cX0_split 75 = .ok (.invokestatic 69, 3) := by decide +kernel
theorem dX0_split_78 : decode cX0_split 78 = .ok (.aload_n 0, 1) := by decide +kernel
theorem dX0_split_79 : decode cX0_split 79 = .ok (.getfield 9, 3) := by decide +kernel
theorem dX0_split_82 : decode cX0_split 82 = .ok (.iload 4, 2) := by decide +kernel
theorem dX0_split_84 : decode cX0_split 84 = .ok (.iload_n 2, 1) := by decide +kernel
theorem dX0_split_85 : decode cX0_split 85 = .ok (.iastore, 1) := by decide +kernel
theorem dX0_split_86 : decode cX0_split 86 = .ok (.aload_n 0, 1) := by decide +kernel
theorem dX0_split_87 : decode cX0_split 87 = .ok (.getfield 9, 3) := by decide +kernel
theorem dX0_split_90 : decode cX0_split 90 = .ok (.iload_n 1, 1) := by decide +kernel
theorem dX0_split_91 : decode cX0_split 91 = .ok (.iload_n 3, 1) := by decide +kernel
theorem dX0_split_92 : decode cX0_split 92 = .ok (.iload_n 2, 1) := by decide +kernel
theorem dX0_split_93 : decode cX0_split 93 = .ok (.isub, 1) := by decide +kernel
theorem dX0_split_94 : decode cX0_split 94 = .ok (.iastore, 1) := by decide +kernel
theorem dX0_split_95 : decode cX0_split 95 = .ok (.aload_n 0, 1) := by decide +kernel
theorem dX0_split_96 : decode cX0_split 96 = .ok (.iload 4, 2) := by decide +kernel
theorem dX0_split_98 : decode cX0_split 98 = .ok (.iconst 1, 1) := by decide +kernel
theorem dX0_split_99 : decode cX0_split 99 = .ok (.iadd, 1) := by decide +kernel
theorem dX0_split_100 : decode cX0_split 100 = .ok (.putfield 55, 3) := by decide +kernel
theorem dX0_split_103 : decode cX0_split 103 = .ok (.iload 4, 2) := by decide +kernel
theorem dX0_split_105 : decode cX0_split 105 = .ok (.ireturn, 1) := by decide +kernel
set_option maxRecDepth 20000 in
theorem ggX0_setWork_X0_requireLine : GoodIn wsX0_setWork wsX0_requireLine := goodIn_ca (goodIn_r _ [10, 11, 12, 13, 32, 33, 34, 35, 36, 37, 38, 39, 40, 41, 42, 43, 44, 45, 46] (by decide +kernel) (by decide +kernel)) (goodIn_sub (fun _ h => List.mem_cons_of_mem _ (List.mem_append_left _ (List.mem_append_right _ h))) (by decide +kernel))
set_option maxRecDepth 20000 in
theorem gX0_setWork_X0_requireLine : GoodIn wsX0_setWork (wsV RX0 58 RX0 yX0_requireLine wsX0_requireLine) := goodIn_app (goodIn_of _ (by decide +kernel)) ggX0_setWork_X0_requireLine
set_option maxRecDepth 20000 in
theorem ggX0_setWork_X0_requireBetween : GoodIn wsX0_setWork wsX0_requireBetween := goodIn_ca (goodIn_r _ [16, 17, 18] (by decide +kernel) (by decide +kernel)) (goodIn_sub (fun _ h => List.mem_cons_of_mem _ (List.mem_append_right _ h)) (by decide +kernel))
set_option maxRecDepth 20000 in
theorem gX0_setWork_X0_requireBetween : GoodIn wsX0_setWork (va_wsS RX0 48 yX0_requireBetween wsX0_requireBetween) := goodIn_app (goodIn_of _ (by decide +kernel)) ggX0_setWork_X0_requireBetween
set_option maxRecDepth 20000 in
theorem ggX0_setWork_X0_thousandths : GoodIn wsX0_setWork wsX0_thousandths := goodIn_r _ [21, 22, 23, 24, 25, 26, 27] (by decide +kernel) (by decide +kernel)
set_option maxRecDepth 20000 in
theorem gX0_setWork_X0_thousandths : GoodIn wsX0_setWork (va_wsS RX0 73 yX0_thousandths wsX0_thousandths) := goodIn_app (goodIn_of _ (by decide +kernel)) ggX0_setWork_X0_thousandths
set_option maxRecDepth 20000 in
theorem ggX0_setWork_X0_requireValueFor : GoodIn wsX0_setWork wsX0_requireValueFor := goodIn_ca (goodIn_r _ [31, 1, 2, 5, 3, 32, 33, 34, 35, 36, 37, 38, 39, 40, 41, 42, 43, 44, 45, 46] (by decide +kernel) (by decide +kernel)) (goodIn_sub (fun _ h => List.mem_cons_of_mem _ (List.mem_append_left _ (List.mem_append_left _ (List.mem_append_right _ h)))) (by decide +kernel))
set_option maxRecDepth 20000 in
theorem gX0_setWork_X0_requireValueFor : GoodIn wsX0_setWork (wsV RX0 79 RX0 yX0_requireValueFor wsX0_requireValueFor) := goodIn_app (goodIn_of _ (by decide +kernel)) ggX0_setWork_X0_requireValueFor
theorem dX0_setWork_0 : decode cX0_setWork 0 = .ok (.aload_n 0, 1) := by decide +kernel
theorem dX0_setWork_1 : decode cX0_setWork 1 = .ok (.iload_n 1, 1) := by decide +kernel
theorem dX0_setWork_2 : decode cX0_setWork 2 = .ok (.invokevirtual 58, 3) := by decide +kernel
theorem dX0_setWork_5 : decode cX0_setWork 5 = .ok (.iload_n 2, 1) := by decide +kernel
theorem dX0_setWork_6 : decode cX0_setWork 6 = .ok (.iconst 0, 1) := by decide +kernel
theorem dX0_setWork_7 : decode cX0_setWork 7 = .ok (.sipush 1000, 3) := by decide +kernel
theorem dX0_setWork_10 : decode cX0_setWork 10 = .ok (.invokestatic 48, 3) := by decide +kernel
theorem dX0_setWork_13 : decode cX0_setWork 13 = .ok (.aload_n 0, 1) := by decide +kernel
theorem dX0_setWork_14 : decode cX0_setWork 14 = .ok (.getfield 9, 3) := by decide +kernel
theorem dX0_setWork_17 : decode cX0_setWork 17 = .ok (.iload_n 1, 1) := by decide +kernel
theorem dX0_setWork_18 : decode cX0_setWork 18 = .ok (.iaload, 1) := by decide +kernel
theorem dX0_setWork_19 : decode cX0_setWork 19 = .ok (.iload_n 2, 1) := by decide +kernel
theorem dX0_setWork_20 : decode cX0_setWork 20 = .ok (.invokestatic 73, 3) := by decide +kernel
theorem dX0_setWork_23 : decode cX0_setWork 23 = .ok (.aload_n 0, 1) := by decide +kernel
theorem dX0_setWork_24 : decode cX0_setWork 24 = .ok (.getfield 16, 3) := by decide +kernel
theorem dX0_setWork_27 : decode cX0_setWork 27 = .ok (.iload_n 1, 1) := by decide +kernel
theorem dX0_setWork_28 : decode cX0_setWork 28 = .ok (.iaload, 1) := by decide +kernel
theorem dX0_setWork_29 : decode cX0_setWork 29 = .ok (.isub, 1) := by decide +kernel
theorem dX0_setWork_30 : decode cX0_setWork 30 = .ok (.istore_n 3, 1) := by decide +kernel
theorem dX0_setWork_31 : decode cX0_setWork 31 = .ok (.iload_n 3, 1) := by decide +kernel
theorem dX0_setWork_32 : decode cX0_setWork 32 = .ok (.ifCond .ge 13, 3) := by decide +kernel
theorem dX0_setWork_35 : decode cX0_setWork 35 = .ok (.new 62, 3) := by decide +kernel
theorem dX0_setWork_38 : decode cX0_setWork 38 = .ok (.dup, 1) := by decide +kernel
theorem dX0_setWork_39 : decode cX0_setWork 39 = .ok (.ldc 77, 2) := by decide +kernel
theorem dX0_setWork_41 : decode cX0_setWork 41 = .ok (.invokespecial 66, 3) := by decide +kernel
theorem dX0_setWork_44 : decode cX0_setWork 44 = .ok (.athrow, 1) := by decide +kernel
theorem dX0_setWork_45 : decode cX0_setWork 45 = .ok (.aload_n 0, 1) := by decide +kernel
theorem dX0_setWork_46 : decode cX0_setWork 46 = .ok (.iload_n 1, 1) := by decide +kernel
theorem dX0_setWork_47 : decode cX0_setWork 47 = .ok (.iload_n 3, 1) := by decide +kernel
theorem dX0_setWork_48 : decode cX0_setWork 48 = .ok (.invokevirtual 79, 3) := by decide +kernel
theorem dX0_setWork_51 : decode cX0_setWork 51 = .ok (.aload_n 0, 1) := by decide +kernel
theorem dX0_setWork_52 : decode cX0_setWork 52 = .ok (.getfield 16, 3) := by decide +kernel
theorem dX0_setWork_55 : decode cX0_setWork 55 = .ok (.iload_n 1, 1) := by decide +kernel
theorem dX0_setWork_56 : decode cX0_setWork 56 = .ok (.dup2, 1) := by decide +kernel
theorem dX0_setWork_57 : decode cX0_setWork 57 = .ok (.iaload, 1) := by decide +kernel
theorem dX0_setWork_58 : decode cX0_setWork 58 = .ok (.iload_n 3, 1) := by decide +kernel
theorem dX0_setWork_59 : decode cX0_setWork 59 = .ok (.iadd, 1) := by decide +kernel
theorem dX0_setWork_60 : decode cX0_setWork 60 = .ok (.iastore, 1) := by decide +kernel
theorem dX0_setWork_61 : decode cX0_setWork 61 = .ok (.aload_n 0, 1) := by decide +kernel
theorem dX0_setWork_62 : decode cX0_setWork 62 = .ok (.getfield 13, 3) := by decide +kernel
theorem dX0_setWork_65 : decode cX0_setWork 65 = .ok (.iload_n 1, 1) := by decide +kernel
theorem dX0_setWork_66 : decode cX0_setWork 66 = .ok (.dup2, 1) := by decide +kernel
theorem dX0_setWork_67 : decode cX0_setWork 67 = .ok (.iaload, 1) := by decide +kernel
theorem dX0_setWork_68 : decode cX0_setWork 68 = .ok (.iload_n 3, 1) := by decide +kernel
theorem dX0_setWork_69 : decode cX0_setWork 69 = .ok (.iadd, 1) := by decide +kernel
theorem dX0_setWork_70 : decode cX0_setWork 70 = .ok (.iastore, 1) := by decide +kernel
theorem dX0_setWork_71 : decode cX0_setWork 71 = .ok (.iload_n 3, 1) := by decide +kernel
theorem dX0_setWork_72 : decode cX0_setWork 72 = .ok (.ireturn, 1) := by decide +kernel
set_option maxRecDepth 20000 in
theorem ggX0_store_X0_requireLine : GoodIn wsX0_store wsX0_requireLine := goodIn_ca (goodIn_r _ [8, 9, 10, 11, 24, 25, 26, 27, 28, 29, 30, 31, 32, 33, 34, 35, 36, 37, 38] (by decide +kernel) (by decide +kernel)) (goodIn_sub (fun _ h => List.mem_cons_of_mem _ (List.mem_append_left _ (List.mem_append_left _ (List.mem_append_right _ h)))) (by decide +kernel))
set_option maxRecDepth 20000 in
theorem gX0_store_X0_requireLine : GoodIn wsX0_store (wsV RX0 58 RX0 yX0_requireLine wsX0_requireLine) := goodIn_app (goodIn_of _ (by decide +kernel)) ggX0_store_X0_requireLine
set_option maxRecDepth 20000 in
theorem ggX0_store_X0_requireBetween : GoodIn wsX0_store wsX0_requireBetween := goodIn_ca (goodIn_r _ [14, 15, 16] (by decide +kernel) (by decide +kernel)) (goodIn_sub (fun _ h => List.mem_cons_of_mem _ (List.mem_append_left _ (List.mem_append_right _ h))) (by decide +kernel))
set_option maxRecDepth 20000 in
theorem gX0_store_X0_requireBetween : GoodIn wsX0_store (va_wsS RX0 48 yX0_requireBetween wsX0_requireBetween) := goodIn_app (goodIn_of _ (by decide +kernel)) ggX0_store_X0_requireBetween
set_option maxRecDepth 20000 in
theorem ggX0_store_X0_requireValueFor : GoodIn wsX0_store wsX0_requireValueFor := goodIn_ca (goodIn_r _ [20, 21, 22, 2, 23, 24, 25, 26, 27, 28, 29, 30, 31, 32, 33, 34, 35, 36, 37, 38] (by decide +kernel) (by decide +kernel)) (goodIn_sub (fun _ h => List.mem_cons_of_mem _ (List.mem_append_right _ h)) (by decide +kernel))
set_option maxRecDepth 20000 in
theorem gX0_store_X0_requireValueFor : GoodIn wsX0_store (wsV RX0 79 RX0 yX0_requireValueFor wsX0_requireValueFor) := goodIn_app (goodIn_of _ (by decide +kernel)) ggX0_store_X0_requireValueFor
theorem dX0_store_0 : decode cX0_store 0 = .ok (.aload_n 0, 1) := by decide +kernel
theorem dX0_store_1 : decode cX0_store 1 = .ok (.iload_n 1, 1) := by decide +kernel
theorem dX0_store_2 : decode cX0_store 2 = .ok (.invokevirtual 58, 3) := by decide +kernel
theorem dX0_store_5 : decode cX0_store 5 = .ok (.iload_n 2, 1) := by decide +kernel
theorem dX0_store_6 : decode cX0_store 6 = .ok (.iconst 1, 1) := by decide +kernel
theorem dX0_store_7 : decode cX0_store 7 = .ok (.ldc 47, 2) := by decide +kernel
theorem dX0_store_9 : decode cX0_store 9 = .ok (.invokestatic 48, 3) := by decide +kernel
theorem dX0_store_12 : decode cX0_store 12 = .ok (.aload_n 0, 1) := by decide +kernel
theorem dX0_store_13 : decode cX0_store 13 = .ok (.iload_n 1, 1) := by decide +kernel
theorem dX0_store_14 : decode cX0_store 14 = .ok (.iload_n 2, 1) := by decide +kernel
theorem dX0_store_15 : decode cX0_store 15 = .ok (.invokevirtual 79, 3) := by decide +kernel
theorem dX0_store_18 : decode cX0_store 18 = .ok (.aload_n 0, 1) := by decide +kernel
theorem dX0_store_19 : decode cX0_store 19 = .ok (.getfield 13, 3) := by decide +kernel
theorem dX0_store_22 : decode cX0_store 22 = .ok (.iload_n 1, 1) := by decide +kernel
theorem dX0_store_23 : decode cX0_store 23 = .ok (.dup2, 1) := by decide +kernel
theorem dX0_store_24 : decode cX0_store 24 = .ok (.iaload, 1) := by decide +kernel
theorem dX0_store_25 : decode cX0_store 25 = .ok (.iload_n 2, 1) := by decide +kernel
theorem dX0_store_26 : decode cX0_store 26 = .ok (.iadd, 1) := by decide +kernel
theorem dX0_store_27 : decode cX0_store 27 = .ok (.iastore, 1) := by decide +kernel
theorem dX0_store_28 : decode cX0_store 28 = .ok (.aload_n 0, 1) := by decide +kernel
theorem dX0_store_29 : decode cX0_store 29 = .ok (.getfield 13, 3) := by decide +kernel
theorem dX0_store_32 : decode cX0_store 32 = .ok (.iload_n 1, 1) := by decide +kernel
theorem dX0_store_33 : decode cX0_store 33 = .ok (.iaload, 1) := by decide +kernel
theorem dX0_store_34 : decode cX0_store 34 = .ok (.aload_n 0, 1) := by decide +kernel
theorem dX0_store_35 : decode cX0_store 35 = .ok (.getfield 16, 3) := by decide +kernel
theorem dX0_store_38 : decode cX0_store 38 = .ok (.iload_n 1, 1) := by decide +kernel
theorem dX0_store_39 : decode cX0_store 39 = .ok (.iaload, 1) := by decide +kernel
theorem dX0_store_40 : decode cX0_store 40 = .ok (.isub, 1) := by decide +kernel
theorem dX0_store_41 : decode cX0_store 41 = .ok (.ireturn, 1) := by decide +kernel
set_option maxRecDepth 20000 in
theorem ggX0_place_X0_requireLine : GoodIn wsX0_place wsX0_requireLine := goodIn_ca (goodIn_r _ [10, 11, 12, 13, 19, 20, 21, 22, 23, 24, 25, 26, 27, 28, 29, 30, 31, 32, 33] (by decide +kernel) (by decide +kernel)) (goodIn_sub (fun _ h => List.mem_cons_of_mem _ (List.mem_append_left _ (List.mem_append_right _ h))) (by decide +kernel))
set_option maxRecDepth 20000 in
theorem gX0_place_X0_requireLine : GoodIn wsX0_place (wsV RX0 58 RX0 yX0_requireLine wsX0_requireLine) := goodIn_app (goodIn_of _ (by decide +kernel)) ggX0_place_X0_requireLine
set_option maxRecDepth 20000 in
theorem ggX0_place_X0_requireBetween : GoodIn wsX0_place wsX0_requireBetween := goodIn_ca (goodIn_r _ [16, 17, 18] (by decide +kernel) (by decide +kernel)) (goodIn_sub (fun _ h => List.mem_cons_of_mem _ (List.mem_append_right _ h)) (by decide +kernel))
set_option maxRecDepth 20000 in
theorem gX0_place_X0_requireBetween : GoodIn wsX0_place (va_wsS RX0 48 yX0_requireBetween wsX0_requireBetween) := goodIn_app (goodIn_of _ (by decide +kernel)) ggX0_place_X0_requireBetween
theorem dX0_place_0 : decode cX0_place 0 = .ok (.aload_n 0, 1) := by decide +kernel
theorem dX0_place_1 : decode cX0_place 1 = .ok (.iload_n 1, 1) := by decide +kernel
theorem dX0_place_2 : decode cX0_place 2 = .ok (.invokevirtual 58, 3) := by decide +kernel
theorem dX0_place_5 : decode cX0_place 5 = .ok (.iload_n 2, 1) := by decide +kernel
theorem dX0_place_6 : decode cX0_place 6 = .ok (.iconst 1, 1) := by decide +kernel
theorem dX0_place_7 : decode cX0_place 7 = .ok (.ldc 47, 2) := by decide +kernel
theorem dX0_place_9 : decode cX0_place 9 = .ok (.invokestatic 48, 3) := by decide +kernel
theorem dX0_place_12 : decode cX0_place 12 = .ok (.iload_n 2, 1) := by decide +kernel
theorem dX0_place_13 : decode cX0_place 13 = .ok (.aload_n 0, 1) := by decide +kernel
theorem dX0_place_14 : decode cX0_place 14 = .ok (.getfield 13, 3) := by decide +kernel
theorem dX0_place_17 : decode cX0_place 17 = .ok (.iload_n 1, 1) := by decide +kernel
theorem dX0_place_18 : decode cX0_place 18 = .ok (.iaload, 1) := by decide +kernel
theorem dX0_place_19 : decode cX0_place 19 = .ok (.aload_n 0, 1) := by decide +kernel
theorem dX0_place_20 : decode cX0_place 20 = .ok (.getfield 16, 3) := by decide +kernel
theorem dX0_place_23 : decode cX0_place 23 = .ok (.iload_n 1, 1) := by decide +kernel
theorem dX0_place_24 : decode cX0_place 24 = .ok (.iaload, 1) := by decide +kernel
theorem dX0_place_25 : decode cX0_place 25 = .ok (.isub, 1) := by decide +kernel
theorem dX0_place_26 : decode cX0_place 26 = .ok (.if_icmp .le 13, 3) := by decide +kernel
theorem dX0_place_29 : decode cX0_place 29 = .ok (.new 62, 3) := by decide +kernel
theorem dX0_place_32 : decode cX0_place 32 = .ok (.dup, 1) := by decide +kernel
theorem dX0_place_33 : decode cX0_place 33 = .ok (.ldc 83, 2) := by decide +kernel
theorem dX0_place_35 : decode cX0_place 35 = .ok (.invokespecial 66, 3) := by decide +kernel
theorem dX0_place_38 : decode cX0_place 38 = .ok (.athrow, 1) := by decide +kernel
theorem dX0_place_39 : decode cX0_place 39 = .ok (.aload_n 0, 1) := by decide +kernel
theorem dX0_place_40 : decode cX0_place 40 = .ok (.getfield 16, 3) := by decide +kernel
theorem dX0_place_43 : decode cX0_place 43 = .ok (.iload_n 1, 1) := by decide +kernel
theorem dX0_place_44 : decode cX0_place 44 = .ok (.dup2, 1) := by decide +kernel
theorem dX0_place_45 : decode cX0_place 45 = .ok (.iaload, 1) := by decide +kernel
theorem dX0_place_46 : decode cX0_place 46 = .ok (.iload_n 2, 1) := by decide +kernel
theorem dX0_place_47 : decode cX0_place 47 = .ok (.iadd, 1) := by decide +kernel
theorem dX0_place_48 : decode cX0_place 48 = .ok (.iastore, 1) := by decide +kernel
theorem dX0_place_49 : decode cX0_place 49 = .ok (.aload_n 0, 1) := by decide +kernel
theorem dX0_place_50 : decode cX0_place 50 = .ok (.getfield 16, 3) := by decide +kernel
theorem dX0_place_53 : decode cX0_place 53 = .ok (.iload_n 1, 1) := by decide +kernel
theorem dX0_place_54 : decode cX0_place 54 = .ok (.iaload, 1) := by decide +kernel
theorem dX0_place_55 : decode cX0_place 55 = .ok (.ireturn, 1) := by decide +kernel
set_option maxRecDepth 20000 in
theorem ggX0_setStep_X0_requireBetween : GoodIn wsX0_setStep wsX0_requireBetween := goodIn_ca (goodIn_r _ [5, 6, 7] (by decide +kernel) (by decide +kernel)) (goodIn_sub (fun _ h => List.mem_cons_of_mem _ (List.mem_append_left _ (List.mem_append_right _ h))) (by decide +kernel))
set_option maxRecDepth 20000 in
theorem gX0_setStep_X0_requireBetween : GoodIn wsX0_setStep (va_wsS RX0 48 yX0_requireBetween wsX0_requireBetween) := goodIn_app (goodIn_of _ (by decide +kernel)) ggX0_setStep_X0_requireBetween
set_option maxRecDepth 20000 in
theorem ggX0_setStep_X0_stepWith : GoodIn wsX0_setStep wsX0_stepWith := goodIn_r _ [11, 12, 13, 20, 21, 22, 23, 24, 25, 26, 27, 28, 29, 30, 31, 32, 33, 34] (by decide +kernel) (by decide +kernel)
set_option maxRecDepth 20000 in
theorem gX0_setStep_X0_stepWith : GoodIn wsX0_setStep (wsV RX0 85 RX0 yX0_stepWith wsX0_stepWith) := goodIn_app (goodIn_of _ (by decide +kernel)) ggX0_setStep_X0_stepWith
set_option maxRecDepth 20000 in
theorem ggX0_setStep_X0_addStep : GoodIn wsX0_setStep wsX0_addStep := goodIn_ca (goodIn_r _ [17, 18, 19, 12, 13, 1, 20, 21, 22, 23, 24, 25, 26, 27, 28, 29, 30, 31, 32, 33, 34] (by decide +kernel) (by decide +kernel)) (goodIn_sub (fun _ h => List.mem_cons_of_mem _ (List.mem_append_right _ h)) (by decide +kernel))
set_option maxRecDepth 20000 in
theorem gX0_setStep_X0_addStep : GoodIn wsX0_setStep (wsV RX0 89 RX0 yX0_addStep wsX0_addStep) := goodIn_app (goodIn_of _ (by decide +kernel)) ggX0_setStep_X0_addStep
theorem dX0_setStep_0 : decode cX0_setStep 0 = .ok (.iload_n 1, 1) := by decide +kernel
theorem dX0_setStep_1 : decode cX0_setStep 1 = .ok (.iconst 0, 1) := by decide +kernel
theorem dX0_setStep_2 : decode cX0_setStep 2 = .ok (.sipush 1000, 3) := by decide +kernel
theorem dX0_setStep_5 : decode cX0_setStep 5 = .ok (.invokestatic 48, 3) := by decide +kernel
theorem dX0_setStep_8 : decode cX0_setStep 8 = .ok (.iload_n 2, 1) := by decide +kernel
theorem dX0_setStep_9 : decode cX0_setStep 9 = .ok (.iconst 0, 1) := by decide +kernel
theorem dX0_setStep_10 : decode cX0_setStep 10 = .ok (.sipush 1000, 3) := by decide +kernel
theorem dX0_setStep_13 : decode cX0_setStep 13 = .ok (.invokestatic 48, 3) := by decide +kernel
theorem dX0_setStep_16 : decode cX0_setStep 16 = .ok (.aload_n 0, 1) := by decide +kernel
theorem dX0_setStep_17 : decode cX0_setStep 17 = .ok (.iload_n 1, 1) := by decide +kernel
theorem dX0_setStep_18 : decode cX0_setStep 18 = .ok (.invokevirtual 85, 3) := by decide +kernel
theorem dX0_setStep_21 : decode cX0_setStep 21 = .ok (.istore_n 3, 1) := by decide +kernel
theorem dX0_setStep_22 : decode cX0_setStep 22 = .ok (.iload_n 3, 1) := by decide +kernel
theorem dX0_setStep_23 : decode cX0_setStep 23 = .ok (.ifCond .ge 11, 3) := by decide +kernel
theorem dX0_setStep_26 : decode cX0_setStep 26 = .ok (.aload_n 0, 1) := by decide +kernel
theorem dX0_setStep_27 : decode cX0_setStep 27 = .ok (.iload_n 1, 1) := by decide +kernel
theorem dX0_setStep_28 : decode cX0_setStep 28 = .ok (.iload_n 2, 1) := by decide +kernel
theorem dX0_setStep_29 : decode cX0_setStep 29 = .ok (.invokevirtual 89, 3) := by decide +kernel
theorem dX0_setStep_32 : decode cX0_setStep 32 = .ok (.iconst (-1), 1) := by decide +kernel
theorem dX0_setStep_33 : decode cX0_setStep 33 = .ok (.ireturn, 1) := by decide +kernel
theorem dX0_setStep_34 : decode cX0_setStep 34 = .ok (.aload_n 0, 1) := by decide +kernel
theorem dX0_setStep_35 : decode cX0_setStep 35 = .ok (.getfield 28, 3) := by decide +kernel
theorem dX0_setStep_38 : decode cX0_setStep 38 = .ok (.iload_n 3, 1) := by decide +kernel
theorem dX0_setStep_39 : decode cX0_setStep 39 = .ok (.iaload, 1) := by decide +kernel
theorem dX0_setStep_40 : decode cX0_setStep 40 = .ok (.istore 4, 2) := by decide +kernel
theorem dX0_setStep_42 : decode cX0_setStep 42 = .ok (.aload_n 0, 1) := by decide +kernel
theorem dX0_setStep_43 : decode cX0_setStep 43 = .ok (.getfield 28, 3) := by decide +kernel
theorem dX0_setStep_46 : decode cX0_setStep 46 = .ok (.iload_n 3, 1) := by decide +kernel
theorem dX0_setStep_47 : decode cX0_setStep 47 = .ok (.iload_n 2, 1) := by decide +kernel
theorem dX0_setStep_48 : decode cX0_setStep 48 = .ok (.iastore, 1) := by decide +kernel
theorem dX0_setStep_49 : decode cX0_setStep 49 = .ok (.iload 4, 2) := by decide +kernel
theorem dX0_setStep_51 : decode cX0_setStep 51 = .ok (.ireturn, 1) := by decide +kernel
set_option maxRecDepth 20000 in
theorem ggX0_dropStep_X0_requireBetween : GoodIn wsX0_dropStep wsX0_requireBetween := goodIn_ca (goodIn_r _ [9, 10, 11] (by decide +kernel) (by decide +kernel)) (goodIn_sub (fun _ h => List.mem_cons_of_mem _ (List.mem_append_right _ h)) (by decide +kernel))
set_option maxRecDepth 20000 in
theorem gX0_dropStep_X0_requireBetween : GoodIn wsX0_dropStep (va_wsS RX0 48 yX0_requireBetween wsX0_requireBetween) := goodIn_app (goodIn_of _ (by decide +kernel)) ggX0_dropStep_X0_requireBetween
set_option maxRecDepth 20000 in
theorem ggX0_dropStep_X0_stepWith : GoodIn wsX0_dropStep wsX0_stepWith := goodIn_r _ [15, 4, 5, 16, 17, 18, 19, 20, 21, 22, 23, 24, 25, 26, 27, 28, 29, 30] (by decide +kernel) (by decide +kernel)
set_option maxRecDepth 20000 in
theorem gX0_dropStep_X0_stepWith : GoodIn wsX0_dropStep (wsV RX0 85 RX0 yX0_stepWith wsX0_stepWith) := goodIn_app (goodIn_of _ (by decide +kernel)) ggX0_dropStep_X0_stepWith
theorem dX0_dropStep_0 : decode cX0_dropStep 0 = .ok (.iload_n 1, 1) := by decide +kernel
theorem dX0_dropStep_1 : decode cX0_dropStep 1 = .ok (.iconst 1, 1) := by decide +kernel
theorem dX0_dropStep_2 : decode cX0_dropStep 2 = .ok (.sipush 1000, 3) := by decide +kernel
theorem dX0_dropStep_5 : decode cX0_dropStep 5 = .ok (.invokestatic 48, 3) := by decide +kernel
theorem dX0_dropStep_8 : decode cX0_dropStep 8 = .ok (.aload_n 0, 1) := by decide +kernel
theorem dX0_dropStep_9 : decode cX0_dropStep 9 = .ok (.iload_n 1, 1) := by decide +kernel
theorem dX0_dropStep_10 : decode cX0_dropStep 10 = .ok (.invokevirtual 85, 3) := by decide +kernel
theorem dX0_dropStep_13 : decode cX0_dropStep 13 = .ok (.istore_n 2, 1) := by decide +kernel
theorem dX0_dropStep_14 : decode cX0_dropStep 14 = .ok (.iload_n 2, 1) := by decide +kernel
theorem dX0_dropStep_15 : decode cX0_dropStep 15 = .ok (.ifCond .ge 13, 3) := by decide +kernel
theorem dX0_dropStep_18 : decode cX0_dropStep 18 = .ok (.new 62, 3) := by decide +kernel
theorem dX0_dropStep_21 : decode cX0_dropStep 21 = .ok (.dup, 1) := by decide +kernel
theorem dX0_dropStep_22 : decode cX0_dropStep 22 = .ok (.ldc 92, 2) := by decide +kernel
theorem dX0_dropStep_24 : decode cX0_dropStep 24 = .ok (.invokespecial 66, 3) := by decide +kernel
theorem dX0_dropStep_27 : decode cX0_dropStep 27 = .ok (.athrow, 1) := by decide +kernel
theorem dX0_dropStep_28 : decode cX0_dropStep 28 = .ok (.aload_n 0, 1) := by decide +kernel
theorem dX0_dropStep_29 : decode cX0_dropStep 29 = .ok (.getfield 28, 3) := by decide +kernel
theorem dX0_dropStep_32 : decode cX0_dropStep 32 = .ok (.iload_n 2, 1) := by decide +kernel
theorem dX0_dropStep_33 : decode cX0_dropStep 33 = .ok (.iaload, 1) := by decide +kernel
theorem dX0_dropStep_34 : decode cX0_dropStep 34 = .ok (.istore_n 3, 1) := by decide +kernel
theorem dX0_dropStep_35 : decode cX0_dropStep 35 = .ok (.aload_n 0, 1) := by decide +kernel
theorem dX0_dropStep_36 : decode cX0_dropStep 36 = .ok (.getfield 43, 3) := by decide +kernel
theorem dX0_dropStep_39 : decode cX0_dropStep 39 = .ok (.iconst 1, 1) := by decide +kernel
theorem dX0_dropStep_40 : decode cX0_dropStep 40 = .ok (.isub, 1) := by decide +kernel
theorem dX0_dropStep_41 : decode cX0_dropStep 41 = .ok (.istore 4, 2) := by decide +kernel
theorem dX0_dropStep_43 : decode cX0_dropStep 43 = .ok (.aload_n 0, 1) := by decide +kernel
theorem dX0_dropStep_44 : decode cX0_dropStep 44 = .ok (.getfield 25, 3) := by decide +kernel
theorem dX0_dropStep_47 : decode cX0_dropStep 47 = .ok (.iload_n 2, 1) := by decide +kernel
theorem dX0_dropStep_48 : decode cX0_dropStep 48 = .ok (.aload_n 0, 1) := by decide +kernel
theorem dX0_dropStep_49 : decode cX0_dropStep 49 = .ok (.getfield 25, 3) := by decide +kernel
theorem dX0_dropStep_52 : decode cX0_dropStep 52 = .ok (.iload 4, 2) := by decide +kernel
theorem dX0_dropStep_54 : decode cX0_dropStep 54 = .ok (.iaload, 1) := by decide +kernel
theorem dX0_dropStep_55 : decode cX0_dropStep 55 = .ok (.iastore, 1) := by decide +kernel
theorem dX0_dropStep_56 : decode cX0_dropStep 56 = .ok (.aload_n 0, 1) := by decide +kernel
theorem dX0_dropStep_57 : decode cX0_dropStep 57 = .ok (.getfield 28, 3) := by decide +kernel
theorem dX0_dropStep_60 : decode cX0_dropStep 60 = .ok (.iload_n 2, 1) := by decide +kernel
theorem dX0_dropStep_61 : decode cX0_dropStep 61 = .ok (.aload_n 0, 1) := by decide +kernel
theorem dX0_dropStep_62 : decode cX0_dropStep 62 = .ok (.getfield 28, 3) := by decide +kernel
theorem dX0_dropStep_65 : decode cX0_dropStep 65 = .ok (.iload 4, 2) := by decide +kernel
theorem dX0_dropStep_67 : decode cX0_dropStep 67 = .ok (.iaload, 1) := by decide +kernel
theorem dX0_dropStep_68 : decode cX0_dropStep 68 = .ok (.iastore, 1) := by decide +kernel
theorem dX0_dropStep_69 : decode cX0_dropStep 69 = .ok (.aload_n 0, 1) := by decide +kernel
theorem dX0_dropStep_70 : decode cX0_dropStep 70 = .ok (.iload 4, 2) := by decide +kernel
theorem dX0_dropStep_72 : decode cX0_dropStep 72 = .ok (.putfield 43, 3) := by decide +kernel
theorem dX0_dropStep_75 : decode cX0_dropStep 75 = .ok (.iload_n 3, 1) := by decide +kernel
theorem dX0_dropStep_76 : decode cX0_dropStep 76 = .ok (.ireturn, 1) := by decide +kernel
theorem dX0_hold_0 : decode cX0_hold 0 = .ok (.aload_n 0, 1) := by decide +kernel
theorem dX0_hold_1 : decode cX0_hold 1 = .ok (.getfield 94, 3) := by decide +kernel
theorem dX0_hold_4 : decode cX0_hold 4 = .ok (.istore_n 2, 1) := by decide +kernel
theorem dX0_hold_5 : decode cX0_hold 5 = .ok (.aload_n 0, 1) := by decide +kernel
theorem dX0_hold_6 : decode cX0_hold 6 = .ok (.iload_n 1, 1) := by decide +kernel
theorem dX0_hold_7 : decode cX0_hold 7 = .ok (.putfield 94, 3) := by decide +kernel
theorem dX0_hold_10 : decode cX0_hold 10 = .ok (.iload_n 2, 1) := by decide +kernel
theorem dX0_hold_11 : decode cX0_hold 11 = .ok (.ireturn, 1) := by decide +kernel
theorem dX0_steps_0 : decode cX0_steps 0 = .ok (.aload_n 0, 1) := by decide +kernel
theorem dX0_steps_1 : decode cX0_steps 1 = .ok (.getfield 43, 3) := by decide +kernel
theorem dX0_steps_4 : decode cX0_steps 4 = .ok (.ireturn, 1) := by decide +kernel
set_option maxRecDepth 20000 in
theorem ggX0_progress_X0_sum : GoodIn wsX0_progress wsX0_sum := goodIn_r _ [6] (by decide +kernel) (by decide +kernel)
set_option maxRecDepth 20000 in
theorem gX0_progress_X0_sum : GoodIn wsX0_progress (va_wsS RX0 98 yX0_sum wsX0_sum) := goodIn_app (goodIn_of _ (by decide +kernel)) ggX0_progress_X0_sum
set_option maxRecDepth 20000 in
theorem ggX0_progress_X0_contractSum : GoodIn wsX0_progress wsX0_contractSum := goodIn_r _ [10, 11, 2, 3, 4, 5, 6, 19, 20, 21, 22, 23, 24, 25, 26, 27, 28, 29, 30, 31, 32, 33] (by decide +kernel) (by decide +kernel)
set_option maxRecDepth 20000 in
theorem gX0_progress_X0_contractSum : GoodIn wsX0_progress (wsV RX0 102 RX0 yX0_contractSum wsX0_contractSum) := goodIn_app (goodIn_of _ (by decide +kernel)) ggX0_progress_X0_contractSum
set_option maxRecDepth 20000 in
theorem ggX0_progress_X0_scaledDown : GoodIn wsX0_progress wsX0_scaledDown := goodIn_r _ [14, 15, 16, 17, 18] (by decide +kernel) (by decide +kernel)
set_option maxRecDepth 20000 in
theorem gX0_progress_X0_scaledDown : GoodIn wsX0_progress (va_wsS RX0 106 yX0_scaledDown wsX0_scaledDown) := goodIn_app (goodIn_of _ (by decide +kernel)) ggX0_progress_X0_scaledDown
theorem dX0_progress_0 : decode cX0_progress 0 = .ok (.aload_n 0, 1) := by decide +kernel
theorem dX0_progress_1 : decode cX0_progress 1 = .ok (.getfield 16, 3) := by decide +kernel
theorem dX0_progress_4 : decode cX0_progress 4 = .ok (.aload_n 0, 1) := by decide +kernel
theorem dX0_progress_5 : decode cX0_progress 5 = .ok (.getfield 55, 3) := by decide +kernel
theorem dX0_progress_8 : decode cX0_progress 8 = .ok (.invokestatic 98, 3) := by decide +kernel
theorem dX0_progress_11 : decode cX0_progress 11 = .ok (.sipush 1000, 3) := by decide +kernel
theorem dX0_progress_14 : decode cX0_progress 14 = .ok (.aload_n 0, 1) := by decide +kernel
theorem dX0_progress_15 : decode cX0_progress 15 = .ok (.invokevirtual 102, 3) := by decide +kernel
theorem dX0_progress_18 : decode cX0_progress 18 = .ok (.invokestatic 106, 3) := by decide +kernel
theorem dX0_progress_21 : decode cX0_progress 21 = .ok (.ireturn, 1) := by decide +kernel
set_option maxRecDepth 20000 in
theorem ggX0_rate_X0_progress : GoodIn wsX0_rate wsX0_progress := goodIn_r _ [8, 9, 10, 11, 12, 7, 13, 14, 15, 16, 17, 18, 19, 20, 21, 22, 23, 24, 25, 26, 27, 28, 29, 30, 31, 32, 33, 34, 35, 36, 37, 38, 39, 40] (by decide +kernel) (by decide +kernel)
set_option maxRecDepth 20000 in
theorem gX0_rate_X0_progress : GoodIn wsX0_rate (wsV RX0 110 RX0 yX0_progress wsX0_progress) := goodIn_app (goodIn_of _ (by decide +kernel)) ggX0_rate_X0_progress
theorem dX0_rate_0 : decode cX0_rate 0 = .ok (.aload_n 0, 1) := by decide +kernel
theorem dX0_rate_1 : decode cX0_rate 1 = .ok (.invokevirtual 110, 3) := by decide +kernel
theorem dX0_rate_4 : decode cX0_rate 4 = .ok (.istore_n 1, 1) := by decide +kernel
theorem dX0_rate_5 : decode cX0_rate 5 = .ok (.iconst 0, 1) := by decide +kernel
theorem dX0_rate_6 : decode cX0_rate 6 = .ok (.istore_n 2, 1) := by decide +kernel
theorem dX0_rate_7 : decode cX0_rate 7 = .ok (.iconst 1, 1) := by decide +kernel
theorem dX0_rate_8 : decode cX0_rate 8 = .ok (.istore_n 3, 1) := by decide +kernel
theorem dX0_rate_9 : decode cX0_rate 9 = .ok (.iload_n 3, 1) := by decide +kernel
theorem dX0_rate_10 : decode cX0_rate 10 = .ok (.aload_n 0, 1) := by decide +kernel
theorem dX0_rate_11 : decode cX0_rate 11 = .ok (.getfield 43, 3) := by decide +kernel
theorem dX0_rate_14 : decode cX0_rate 14 = .ok (.if_icmp .ge 36, 3) := by decide +kernel
theorem dX0_rate_17 : decode cX0_rate 17 = .ok (.aload_n 0, 1) := by decide +kernel
theorem dX0_rate_18 : decode cX0_rate 18 = .ok (.getfield 25, 3) := by decide +kernel
theorem dX0_rate_21 : decode cX0_rate 21 = .ok (.iload_n 3, 1) := by decide +kernel
theorem dX0_rate_22 : decode cX0_rate 22 = .ok (.iaload, 1) := by decide +kernel
theorem dX0_rate_23 : decode cX0_rate 23 = .ok (.iload_n 1, 1) := by decide +kernel
theorem dX0_rate_24 : decode cX0_rate 24 = .ok (.if_icmp .gt 20, 3) := by decide +kernel
theorem dX0_rate_27 : decode cX0_rate 27 = .ok (.aload_n 0, 1) := by decide +kernel
theorem dX0_rate_28 : decode cX0_rate 28 = .ok (.getfield 25, 3) := by decide +kernel
theorem dX0_rate_31 : decode cX0_rate 31 = .ok (.iload_n 3, 1) := by decide +kernel
theorem dX0_rate_32 : decode cX0_rate 32 = .ok (.iaload, 1) := by decide +kernel
theorem dX0_rate_33 : decode cX0_rate 33 = .ok (.aload_n 0, 1) := by decide +kernel
theorem dX0_rate_34 : decode cX0_rate 34 = .ok (.getfield 25, 3) := by decide +kernel
theorem dX0_rate_37 : decode cX0_rate 37 = .ok (.iload_n 2, 1) := by decide +kernel
theorem dX0_rate_38 : decode cX0_rate 38 = .ok (.iaload, 1) := by decide +kernel
theorem dX0_rate_39 : decode cX0_rate 39 = .ok (.if_icmp .le 5, 3) := by decide +kernel
theorem dX0_rate_42 : decode cX0_rate 42 = .ok (.iload_n 3, 1) := by decide +kernel
theorem dX0_rate_43 : decode cX0_rate 43 = .ok (.istore_n 2, 1) := by decide +kernel
theorem dX0_rate_44 : decode cX0_rate 44 = .ok (.iinc 3 1, 3) := by decide +kernel
theorem dX0_rate_47 : decode cX0_rate 47 = .ok (.goto (-38), 3) := by decide +kernel
theorem dX0_rate_50 : decode cX0_rate 50 = .ok (.aload_n 0, 1) := by decide +kernel
theorem dX0_rate_51 : decode cX0_rate 51 = .ok (.getfield 28, 3) := by decide +kernel
theorem dX0_rate_54 : decode cX0_rate 54 = .ok (.iload_n 2, 1) := by decide +kernel
theorem dX0_rate_55 : decode cX0_rate 55 = .ok (.iaload, 1) := by decide +kernel
theorem dX0_rate_56 : decode cX0_rate 56 = .ok (.ireturn, 1) := by decide +kernel
set_option maxRecDepth 20000 in
theorem ggX0_close_X0_nextAmount : GoodIn wsX0_close wsX0_nextAmount := goodIn_r _ [15, 16, 3, 5, 4, 17, 18, 19, 14, 20, 21, 22, 23, 24, 25, 26, 27, 28, 29, 30, 31, 32, 33, 34, 35, 36, 37, 38, 39, 40, 41, 42, 43, 44, 45, 46, 47, 48, 10, 8, 49, 50, 51, 52, 53, 58, 59, 60, 61, 62, 63, 64, 65, 66, 67, 68, 69, 70, 71, 72] (by decide +kernel) (by decide +kernel)
set_option maxRecDepth 20000 in
theorem gX0_close_X0_nextAmount : GoodIn wsX0_close (wsV RX0 120 RX0 yX0_nextAmount wsX0_nextAmount) := goodIn_app (goodIn_of _ (by decide +kernel)) ggX0_close_X0_nextAmount
set_option maxRecDepth 20000 in
theorem ggX0_close_X0_billLines : GoodIn wsX0_close wsX0_billLines := goodIn_r _ [57, 3, 10, 8, 16, 17, 18, 19, 14, 20, 21, 22, 23, 24, 25, 26, 27, 28, 29, 30, 31, 32, 33, 34, 35, 36, 37, 38, 39, 40, 41, 42, 43, 44, 45, 46, 47, 48, 49, 50, 51, 52, 53, 58, 59, 60, 61, 62, 63, 64, 65, 66, 67, 68, 69, 70, 71, 72] (by decide +kernel) (by decide +kernel)
set_option maxRecDepth 20000 in
theorem gX0_close_X0_billLines : GoodIn wsX0_close (wsV RX0 123 RX0 yX0_billLines wsX0_billLines) := goodIn_app (goodIn_of _ (by decide +kernel)) ggX0_close_X0_billLines
set_option maxRecDepth 20000 in
theorem ggX0_close_X0_sum : GoodIn wsX0_close wsX0_sum := goodIn_r _ [31] (by decide +kernel) (by decide +kernel)
set_option maxRecDepth 20000 in
theorem gX0_close_X0_sum : GoodIn wsX0_close (va_wsS RX0 98 yX0_sum wsX0_sum) := goodIn_app (goodIn_of _ (by decide +kernel)) ggX0_close_X0_sum
theorem dX0_close_0 : decode cX0_close 0 = .ok (.aload_n 0, 1) := by decide +kernel
theorem dX0_close_1 : decode cX0_close 1 = .ok (.getfield 55, 3) := by decide +kernel
theorem dX0_close_4 : decode cX0_close 4 = .ok (.ifCond .ne 13, 3) := by decide +kernel
theorem dX0_close_7 : decode cX0_close 7 = .ok (.new 62, 3) := by decide +kernel
theorem dX0_close_10 : decode cX0_close 10 = .ok (.dup, 1) := by decide +kernel
theorem dX0_close_11 : decode cX0_close 11 = .ok (.ldc 113, 2) := by decide +kernel
theorem dX0_close_13 : decode cX0_close 13 = .ok (.invokespecial 66, 3) := by decide +kernel
theorem dX0_close_16 : decode cX0_close 16 = .ok (.athrow, 1) := by decide +kernel
theorem dX0_close_17 : decode cX0_close 17 = .ok (.aload_n 0, 1) := by decide +kernel
theorem dX0_close_18 : decode cX0_close 18 = .ok (.getfield 115, 3) := by decide +kernel
theorem dX0_close_21 : decode cX0_close 21 = .ok (.bipush 60, 2) := by decide +kernel
theorem dX0_close_23 : decode cX0_close 23 = .ok (.if_icmp .lt 13, 3) := by decide +kernel
theorem dX0_close_26 : decode cX0_close 26 = .ok (.new 62, 3) := by decide +kernel
theorem dX0_close_29 : decode cX0_close 29 = .ok (.dup, 1) := by decide +kernel
theorem dX0_close_30 : decode cX0_close 30 = .ok (.ldc 118, 2) := by decide +kernel
theorem dX0_close_32 : decode cX0_close 32 = .ok (.invokespecial 66, 3) := by decide +kernel
theorem dX0_close_35 : decode cX0_close 35 = .ok (.athrow, 1) := by decide +kernel
theorem dX0_close_36 : decode cX0_close 36 = .ok (.aload_n 0, 1) := by decide +kernel
theorem dX0_close_37 : decode cX0_close 37 = .ok (.getfield 115, 3) := by decide +kernel
theorem dX0_close_40 : decode cX0_close 40 = .ok (.istore_n 1, 1) := by decide +kernel
theorem dX0_close_41 : decode cX0_close 41 = .ok (.aload_n 0, 1) := by decide +kernel
theorem dX0_close_42 : decode cX0_close 42 = .ok (.getfield 34, 3) := by decide +kernel
theorem dX0_close_45 : decode cX0_close 45 = .ok (.iload_n 1, 1) := by decide +kernel
theorem dX0_close_46 : decode cX0_close 46 = .ok (.aload_n 0, 1) := by decide +kernel
theorem dX0_close_47 : decode cX0_close 47 = .ok (.invokevirtual 120, 3) := by decide +kernel
theorem dX0_close_50 : decode cX0_close 50 = .ok (.iastore, 1) := by decide +kernel
theorem dX0_close_51 : decode cX0_close 51 = .ok (.aload_n 0, 1) := by decide +kernel
theorem dX0_close_52 : decode cX0_close 52 = .ok (.invokevirtual 123, 3) := by decide +kernel
theorem dX0_close_55 : decode cX0_close 55 = .ok (.aload_n 0, 1) := by decide +kernel
theorem dX0_close_56 : decode cX0_close 56 = .ok (.getfield 31, 3) := by decide +kernel
theorem dX0_close_59 : decode cX0_close 59 = .ok (.iload_n 1, 1) := by decide +kernel
theorem dX0_close_60 : decode cX0_close 60 = .ok (.iconst 0, 1) := by decide +kernel
theorem dX0_close_61 : decode cX0_close 61 = .ok (.iastore, 1) := by decide +kernel
theorem dX0_close_62 : decode cX0_close 62 = .ok (.aload_n 0, 1) := by decide +kernel
theorem dX0_close_63 : decode cX0_close 63 = .ok (.getfield 37, 3) := by decide +kernel
theorem dX0_close_66 : decode cX0_close 66 = .ok (.iload_n 1, 1) := by decide +kernel
theorem dX0_close_67 : decode cX0_close 67 = .ok (.aload_n 0, 1) := by decide +kernel
theorem dX0_close_68 : decode cX0_close 68 = .ok (.getfield 19, 3) := by decide +kernel
theorem dX0_close_71 : decode cX0_close 71 = .ok (.aload_n 0, 1) := by decide +kernel
theorem dX0_close_72 : decode cX0_close 72 = .ok (.getfield 55, 3) := by decide +kernel
theorem dX0_close_75 : decode cX0_close 75 = .ok (.invokestatic 98, 3) := by decide +kernel
theorem dX0_close_78 : decode cX0_close 78 = .ok (.iastore, 1) := by decide +kernel
theorem dX0_close_79 : decode cX0_close 79 = .ok (.aload_n 0, 1) := by decide +kernel
theorem dX0_close_80 : decode cX0_close 80 = .ok (.getfield 40, 3) := by decide +kernel
theorem dX0_close_83 : decode cX0_close 83 = .ok (.iload_n 1, 1) := by decide +kernel
theorem dX0_close_84 : decode cX0_close 84 = .ok (.aload_n 0, 1) := by decide +kernel
theorem dX0_close_85 : decode cX0_close 85 = .ok (.getfield 22, 3) := by decide +kernel
theorem dX0_close_88 : decode cX0_close 88 = .ok (.aload_n 0, 1) := by decide +kernel
theorem dX0_close_89 : decode cX0_close 89 = .ok (.getfield 55, 3) := by decide +kernel
theorem dX0_close_92 : decode cX0_close 92 = .ok (.invokestatic 98, 3) := by decide +kernel
theorem dX0_close_95 : decode cX0_close 95 = .ok (.iastore, 1) := by decide +kernel
theorem dX0_close_96 : decode cX0_close 96 = .ok (.aload_n 0, 1) := by decide +kernel
theorem dX0_close_97 : decode cX0_close 97 = .ok (.iload_n 1, 1) := by decide +kernel
theorem dX0_close_98 : decode cX0_close 98 = .ok (.iconst 1, 1) := by decide +kernel
theorem dX0_close_99 : decode cX0_close 99 = .ok (.iadd, 1) := by decide +kernel
theorem dX0_close_100 : decode cX0_close 100 = .ok (.putfield 115, 3) := by decide +kernel
theorem dX0_close_103 : decode cX0_close 103 = .ok (.iload_n 1, 1) := by decide +kernel
theorem dX0_close_104 : decode cX0_close 104 = .ok (.ireturn, 1) := by decide +kernel
set_option maxRecDepth 20000 in
theorem ggX0_nextAmount_X0_rate : GoodIn wsX0_nextAmount wsX0_rate := goodIn_r _ [9, 10, 11, 12, 13, 14, 15, 8, 16, 17, 2, 18, 19, 20, 21, 22, 23, 24, 25, 26, 27, 28, 29, 30, 31, 32, 45, 46, 47, 48, 49, 50, 51, 52, 53, 54, 55, 56, 57, 58, 59] (by decide +kernel) (by decide +kernel)
set_option maxRecDepth 20000 in
theorem gX0_nextAmount_X0_rate : GoodIn wsX0_nextAmount (wsV RX0 126 RX0 yX0_rate wsX0_rate) := goodIn_app (goodIn_of _ (by decide +kernel)) ggX0_nextAmount_X0_rate
set_option maxRecDepth 20000 in
theorem ggX0_nextAmount_X0_sum : GoodIn wsX0_nextAmount wsX0_sum := goodIn_r _ [20] (by decide +kernel) (by decide +kernel)
set_option maxRecDepth 20000 in
theorem gX0_nextAmount_X0_sum : GoodIn wsX0_nextAmount (va_wsS RX0 98 yX0_sum wsX0_sum) := goodIn_app (goodIn_of _ (by decide +kernel)) ggX0_nextAmount_X0_sum
set_option maxRecDepth 20000 in
theorem ggX0_nextAmount_X0_heldIfClosed : GoodIn wsX0_nextAmount wsX0_heldIfClosed := goodIn_r _ [36, 37, 38, 1, 39, 40, 41, 8, 42, 43, 44, 29, 30, 31, 32, 45, 46, 47, 48, 49, 50, 51, 52, 53, 54, 55, 56, 57, 58, 59] (by decide +kernel) (by decide +kernel)
set_option maxRecDepth 20000 in
theorem gX0_nextAmount_X0_heldIfClosed : GoodIn wsX0_nextAmount (wsV RX0 129 RX0 yX0_heldIfClosed wsX0_heldIfClosed) := goodIn_app (goodIn_of _ (by decide +kernel)) ggX0_nextAmount_X0_heldIfClosed
theorem dX0_nextAmount_0 : decode cX0_nextAmount 0 = .ok (.aload_n 0, 1) := by decide +kernel
theorem dX0_nextAmount_1 : decode cX0_nextAmount 1 = .ok (.invokevirtual 126, 3) := by decide +kernel
theorem dX0_nextAmount_4 : decode cX0_nextAmount 4 = .ok (.istore_n 1, 1) := by decide +kernel
theorem dX0_nextAmount_5 : decode cX0_nextAmount 5 = .ok (.aload_n 0, 1) := by decide +kernel
theorem dX0_nextAmount_6 : decode cX0_nextAmount 6 = .ok (.getfield 13, 3) := by decide +kernel
theorem dX0_nextAmount_9 : decode cX0_nextAmount 9 = .ok (.aload_n 0, 1) := by decide +kernel
theorem dX0_nextAmount_10 : decode cX0_nextAmount 10 = .ok (.getfield 55, 3) := by decide +kernel
theorem dX0_nextAmount_13 : decode cX0_nextAmount 13 = .ok (.invokestatic 98, 3) := by decide +kernel
theorem dX0_nextAmount_16 : decode cX0_nextAmount 16 = .ok (.aload_n 0, 1) := by decide +kernel
theorem dX0_nextAmount_17 : decode cX0_nextAmount 17 = .ok (.getfield 34, 3) := by decide +kernel
theorem dX0_nextAmount_20 : decode cX0_nextAmount 20 = .ok (.aload_n 0, 1) := by decide +kernel
theorem dX0_nextAmount_21 : decode cX0_nextAmount 21 = .ok (.getfield 115, 3) := by decide +kernel
theorem dX0_nextAmount_24 : decode cX0_nextAmount 24 = .ok (.invokestatic 98, 3) := by decide +kernel
theorem dX0_nextAmount_27 : decode cX0_nextAmount 27 = .ok (.isub, 1) := by decide +kernel
theorem dX0_nextAmount_28 : decode cX0_nextAmount 28 = .ok (.istore_n 2, 1) := by decide +kernel
theorem dX0_nextAmount_29 : decode cX0_nextAmount 29 = .ok (.iconst 0, 1) := by decide +kernel
theorem dX0_nextAmount_30 : decode cX0_nextAmount 30 = .ok (.istore_n 3, 1) := by decide +kernel
theorem dX0_nextAmount_31 : decode cX0_nextAmount 31 = .ok (.iload_n 3, 1) := by decide +kernel
theorem dX0_nextAmount_32 : decode cX0_nextAmount 32 = .ok (.aload_n 0, 1) := by decide +kernel
theorem dX0_nextAmount_33 : decode cX0_nextAmount 33 = .ok (.getfield 55, 3) := by decide +kernel
theorem dX0_nextAmount_36 : decode cX0_nextAmount 36 = .ok (.if_icmp .ge 18, 3) := by decide +kernel
theorem dX0_nextAmount_39 : decode cX0_nextAmount 39 = .ok (.iload_n 2, 1) := by decide +kernel
theorem dX0_nextAmount_40 : decode cX0_nextAmount 40 = .ok (.aload_n 0, 1) := by decide +kernel
theorem dX0_nextAmount_41 : decode cX0_nextAmount 41 = .ok (.iload_n 3, 1) := by decide +kernel
theorem dX0_nextAmount_42 : decode cX0_nextAmount 42 = .ok (.iload_n 1, 1) := by decide +kernel
theorem dX0_nextAmount_43 : decode cX0_nextAmount 43 = .ok (.invokevirtual 129, 3) := by decide +kernel
theorem dX0_nextAmount_46 : decode cX0_nextAmount 46 = .ok (.isub, 1) := by decide +kernel
theorem dX0_nextAmount_47 : decode cX0_nextAmount 47 = .ok (.istore_n 2, 1) := by decide +kernel
theorem dX0_nextAmount_48 : decode cX0_nextAmount 48 = .ok (.iinc 3 1, 3) := by decide +kernel
theorem dX0_nextAmount_51 : decode cX0_nextAmount 51 = .ok (.goto (-20), 3) := by decide +kernel
theorem dX0_nextAmount_54 : decode cX0_nextAmount 54 = .ok (.iload_n 2, 1) := by decide +kernel
theorem dX0_nextAmount_55 : decode cX0_nextAmount 55 = .ok (.ireturn, 1) := by decide +kernel
set_option maxRecDepth 20000 in
theorem ggX0_pay_X0_requireApplication : GoodIn wsX0_pay wsX0_requireApplication := goodIn_ca (goodIn_r _ [9, 10, 11, 12, 17, 18, 19, 20, 21, 22, 23, 24, 25, 26, 27, 28, 29, 30, 31] (by decide +kernel) (by decide +kernel)) (goodIn_sub (fun _ h => List.mem_cons_of_mem _ (List.mem_append_right _ h)) (by decide +kernel))
set_option maxRecDepth 20000 in
theorem gX0_pay_X0_requireApplication : GoodIn wsX0_pay (wsV RX0 132 RX0 yX0_requireApplication wsX0_requireApplication) := goodIn_app (goodIn_of _ (by decide +kernel)) ggX0_pay_X0_requireApplication
set_option maxRecDepth 20000 in
theorem ggX0_pay_X0_waiversGiven : GoodIn wsX0_pay wsX0_waiversGiven := goodIn_r _ [16, 12, 3, 17, 18, 19, 20, 21, 22, 23, 24, 25, 26, 27, 28, 29, 30, 31] (by decide +kernel) (by decide +kernel)
set_option maxRecDepth 20000 in
theorem gX0_pay_X0_waiversGiven : GoodIn wsX0_pay (wsV RX0 137 RX0 yX0_waiversGiven wsX0_waiversGiven) := goodIn_app (goodIn_of _ (by decide +kernel)) ggX0_pay_X0_waiversGiven
theorem dX0_pay_0 : decode cX0_pay 0 = .ok (.aload_n 0, 1) := by decide +kernel
theorem dX0_pay_1 : decode cX0_pay 1 = .ok (.iload_n 1, 1) := by decide +kernel
theorem dX0_pay_2 : decode cX0_pay 2 = .ok (.invokevirtual 132, 3) := by decide +kernel
theorem dX0_pay_5 : decode cX0_pay 5 = .ok (.aload_n 0, 1) := by decide +kernel
theorem dX0_pay_6 : decode cX0_pay 6 = .ok (.getfield 31, 3) := by decide +kernel
theorem dX0_pay_9 : decode cX0_pay 9 = .ok (.iload_n 1, 1) := by decide +kernel
theorem dX0_pay_10 : decode cX0_pay 10 = .ok (.iaload, 1) := by decide +kernel
theorem dX0_pay_11 : decode cX0_pay 11 = .ok (.ifCond .eq 13, 3) := by decide +kernel
theorem dX0_pay_14 : decode cX0_pay 14 = .ok (.new 62, 3) := by decide +kernel
theorem dX0_pay_17 : decode cX0_pay 17 = .ok (.dup, 1) := by decide +kernel
theorem dX0_pay_18 : decode cX0_pay 18 = .ok (.ldc 135, 2) := by decide +kernel
theorem dX0_pay_20 : decode cX0_pay 20 = .ok (.invokespecial 66, 3) := by decide +kernel
theorem dX0_pay_23 : decode cX0_pay 23 = .ok (.athrow, 1) := by decide +kernel
theorem dX0_pay_24 : decode cX0_pay 24 = .ok (.aload_n 0, 1) := by decide +kernel
theorem dX0_pay_25 : decode cX0_pay 25 = .ok (.invokevirtual 137, 3) := by decide +kernel
theorem dX0_pay_28 : decode cX0_pay 28 = .ok (.iload_n 1, 1) := by decide +kernel
theorem dX0_pay_29 : decode cX0_pay 29 = .ok (.if_icmp .ge 13, 3) := by decide +kernel
theorem dX0_pay_32 : decode cX0_pay 32 = .ok (.new 62, 3) := by decide +kernel
theorem dX0_pay_35 : decode cX0_pay 35 = .ok (.dup, 1) := by decide +kernel
theorem dX0_pay_36 : decode cX0_pay 36 = .ok (.ldc 140, 2) := by decide +kernel
theorem dX0_pay_38 : decode cX0_pay 38 = .ok (.invokespecial 66, 3) := by decide +kernel
theorem dX0_pay_41 : decode cX0_pay 41 = .ok (.athrow, 1) := by decide +kernel
theorem dX0_pay_42 : decode cX0_pay 42 = .ok (.aload_n 0, 1) := by decide +kernel
theorem dX0_pay_43 : decode cX0_pay 43 = .ok (.getfield 31, 3) := by decide +kernel
theorem dX0_pay_46 : decode cX0_pay 46 = .ok (.iload_n 1, 1) := by decide +kernel
theorem dX0_pay_47 : decode cX0_pay 47 = .ok (.iconst 1, 1) := by decide +kernel
theorem dX0_pay_48 : decode cX0_pay 48 = .ok (.iastore, 1) := by decide +kernel
theorem dX0_pay_49 : decode cX0_pay 49 = .ok (.aload_n 0, 1) := by decide +kernel
theorem dX0_pay_50 : decode cX0_pay 50 = .ok (.getfield 34, 3) := by decide +kernel
theorem dX0_pay_53 : decode cX0_pay 53 = .ok (.iload_n 1, 1) := by decide +kernel
theorem dX0_pay_54 : decode cX0_pay 54 = .ok (.iaload, 1) := by decide +kernel
theorem dX0_pay_55 : decode cX0_pay 55 = .ok (.ireturn, 1) := by decide +kernel
set_option maxRecDepth 20000 in
theorem ggX0_waive_X0_requireApplication : GoodIn wsX0_waive wsX0_requireApplication := goodIn_ca (goodIn_r _ [8, 9, 10, 11, 16, 17, 18, 19, 20, 21, 22, 23, 24, 25, 26, 27, 28, 29, 30] (by decide +kernel) (by decide +kernel)) (goodIn_sub (fun _ h => List.mem_cons_of_mem _ (List.mem_append_right _ h)) (by decide +kernel))
set_option maxRecDepth 20000 in
theorem gX0_waive_X0_requireApplication : GoodIn wsX0_waive (wsV RX0 132 RX0 yX0_requireApplication wsX0_requireApplication) := goodIn_app (goodIn_of _ (by decide +kernel)) ggX0_waive_X0_requireApplication
set_option maxRecDepth 20000 in
theorem ggX0_waive_X0_waiversGiven : GoodIn wsX0_waive wsX0_waiversGiven := goodIn_r _ [15, 11, 3, 16, 17, 18, 19, 20, 21, 22, 23, 24, 25, 26, 27, 28, 29, 30] (by decide +kernel) (by decide +kernel)
set_option maxRecDepth 20000 in
theorem gX0_waive_X0_waiversGiven : GoodIn wsX0_waive (wsV RX0 137 RX0 yX0_waiversGiven wsX0_waiversGiven) := goodIn_app (goodIn_of _ (by decide +kernel)) ggX0_waive_X0_waiversGiven
theorem dX0_waive_0 : decode cX0_waive 0 = .ok (.aload_n 0, 1) := by decide +kernel
theorem dX0_waive_1 : decode cX0_waive 1 = .ok (.iload_n 1, 1) := by decide +kernel
theorem dX0_waive_2 : decode cX0_waive 2 = .ok (.invokevirtual 132, 3) := by decide +kernel
theorem dX0_waive_5 : decode cX0_waive 5 = .ok (.aload_n 0, 1) := by decide +kernel
theorem dX0_waive_6 : decode cX0_waive 6 = .ok (.getfield 31, 3) := by decide +kernel
theorem dX0_waive_9 : decode cX0_waive 9 = .ok (.iload_n 1, 1) := by decide +kernel
theorem dX0_waive_10 : decode cX0_waive 10 = .ok (.iaload, 1) := by decide +kernel
theorem dX0_waive_11 : decode cX0_waive 11 = .ok (.iconst 1, 1) := by decide +kernel
theorem dX0_waive_12 : decode cX0_waive 12 = .ok (.if_icmp .eq 13, 3) := by decide +kernel
theorem dX0_waive_15 : decode cX0_waive 15 = .ok (.new 62, 3) := by decide +kernel
theorem dX0_waive_18 : decode cX0_waive 18 = .ok (.dup, 1) := by decide +kernel
theorem dX0_waive_19 : decode cX0_waive 19 = .ok (.ldc 142, 2) := by decide +kernel
theorem dX0_waive_21 : decode cX0_waive 21 = .ok (.invokespecial 66, 3) := by decide +kernel
theorem dX0_waive_24 : decode cX0_waive 24 = .ok (.athrow, 1) := by decide +kernel
theorem dX0_waive_25 : decode cX0_waive 25 = .ok (.aload_n 0, 1) := by decide +kernel
theorem dX0_waive_26 : decode cX0_waive 26 = .ok (.getfield 31, 3) := by decide +kernel
theorem dX0_waive_29 : decode cX0_waive 29 = .ok (.iload_n 1, 1) := by decide +kernel
theorem dX0_waive_30 : decode cX0_waive 30 = .ok (.iconst 2, 1) := by decide +kernel
theorem dX0_waive_31 : decode cX0_waive 31 = .ok (.iastore, 1) := by decide +kernel
theorem dX0_waive_32 : decode cX0_waive 32 = .ok (.aload_n 0, 1) := by decide +kernel
theorem dX0_waive_33 : decode cX0_waive 33 = .ok (.invokevirtual 137, 3) := by decide +kernel
theorem dX0_waive_36 : decode cX0_waive 36 = .ok (.ireturn, 1) := by decide +kernel
theorem dX0_applications_0 : decode cX0_applications 0 = .ok (.aload_n 0, 1) := by decide +kernel
theorem dX0_applications_1 : decode cX0_applications 1 = .ok (.getfield 115, 3) := by decide +kernel
theorem dX0_applications_4 : decode cX0_applications 4 = .ok (.ireturn, 1) := by decide +kernel
set_option maxRecDepth 20000 in
theorem ggX0_state_X0_requireApplication : GoodIn wsX0_state wsX0_requireApplication := goodIn_ca (goodIn_r _ [6, 7, 8, 9, 10, 11, 12, 13, 14, 15, 16, 17, 18, 19, 20, 21, 22, 23, 24] (by decide +kernel) (by decide +kernel)) (goodIn_sub (fun _ h => List.mem_cons_of_mem _ (List.mem_append_right _ h)) (by decide +kernel))
set_option maxRecDepth 20000 in
theorem gX0_state_X0_requireApplication : GoodIn wsX0_state (wsV RX0 132 RX0 yX0_requireApplication wsX0_requireApplication) := goodIn_app (goodIn_of _ (by decide +kernel)) ggX0_state_X0_requireApplication
theorem dX0_state_0 : decode cX0_state 0 = .ok (.aload_n 0, 1) := by decide +kernel
theorem dX0_state_1 : decode cX0_state 1 = .ok (.iload_n 1, 1) := by decide +kernel
theorem dX0_state_2 : decode cX0_state 2 = .ok (.invokevirtual 132, 3) := by decide +kernel
theorem dX0_state_5 : decode cX0_state 5 = .ok (.aload_n 0, 1) := by decide +kernel
theorem dX0_state_6 : decode cX0_state 6 = .ok (.getfield 31, 3) := by decide +kernel
theorem dX0_state_9 : decode cX0_state 9 = .ok (.iload_n 1, 1) := by decide +kernel
theorem dX0_state_10 : decode cX0_state 10 = .ok (.iaload, 1) := by decide +kernel
theorem dX0_state_11 : decode cX0_state 11 = .ok (.ireturn, 1) := by decide +kernel
set_option maxRecDepth 20000 in
theorem ggX0_amount_X0_requireApplication : GoodIn wsX0_amount wsX0_requireApplication := goodIn_ca (goodIn_r _ [6, 7, 8, 9, 10, 11, 12, 13, 14, 15, 16, 17, 18, 19, 20, 21, 22, 23, 24] (by decide +kernel) (by decide +kernel)) (goodIn_sub (fun _ h => List.mem_cons_of_mem _ (List.mem_append_right _ h)) (by decide +kernel))
set_option maxRecDepth 20000 in
theorem gX0_amount_X0_requireApplication : GoodIn wsX0_amount (wsV RX0 132 RX0 yX0_requireApplication wsX0_requireApplication) := goodIn_app (goodIn_of _ (by decide +kernel)) ggX0_amount_X0_requireApplication
theorem dX0_amount_0 : decode cX0_amount 0 = .ok (.aload_n 0, 1) := by decide +kernel
theorem dX0_amount_1 : decode cX0_amount 1 = .ok (.iload_n 1, 1) := by decide +kernel
theorem dX0_amount_2 : decode cX0_amount 2 = .ok (.invokevirtual 132, 3) := by decide +kernel
theorem dX0_amount_5 : decode cX0_amount 5 = .ok (.aload_n 0, 1) := by decide +kernel
theorem dX0_amount_6 : decode cX0_amount 6 = .ok (.getfield 34, 3) := by decide +kernel
theorem dX0_amount_9 : decode cX0_amount 9 = .ok (.iload_n 1, 1) := by decide +kernel
theorem dX0_amount_10 : decode cX0_amount 10 = .ok (.iaload, 1) := by decide +kernel
theorem dX0_amount_11 : decode cX0_amount 11 = .ok (.ireturn, 1) := by decide +kernel
set_option maxRecDepth 20000 in
theorem ggX0_billedBehind_X0_requireApplication : GoodIn wsX0_billedBehind wsX0_requireApplication := goodIn_ca (goodIn_r _ [6, 7, 8, 9, 10, 11, 12, 13, 14, 15, 16, 17, 18, 19, 20, 21, 22, 23, 24] (by decide +kernel) (by decide +kernel)) (goodIn_sub (fun _ h => List.mem_cons_of_mem _ (List.mem_append_right _ h)) (by decide +kernel))
set_option maxRecDepth 20000 in
theorem gX0_billedBehind_X0_requireApplication : GoodIn wsX0_billedBehind (wsV RX0 132 RX0 yX0_requireApplication wsX0_requireApplication) := goodIn_app (goodIn_of _ (by decide +kernel)) ggX0_billedBehind_X0_requireApplication
theorem dX0_billedBehind_0 : decode cX0_billedBehind 0 = .ok (.aload_n 0, 1) := by decide +kernel
theorem dX0_billedBehind_1 : decode cX0_billedBehind 1 = .ok (.iload_n 1, 1) := by decide +kernel
theorem dX0_billedBehind_2 : decode cX0_billedBehind 2 = .ok (.invokevirtual 132, 3) := by decide +kernel
theorem dX0_billedBehind_5 : decode cX0_billedBehind 5 = .ok (.aload_n 0, 1) := by decide +kernel
theorem dX0_billedBehind_6 : decode cX0_billedBehind 6 = .ok (.getfield 37, 3) := by decide +kernel
theorem dX0_billedBehind_9 : decode cX0_billedBehind 9 = .ok (.iload_n 1, 1) := by decide +kernel
theorem dX0_billedBehind_10 : decode cX0_billedBehind 10 = .ok (.iaload, 1) := by decide +kernel
theorem dX0_billedBehind_11 : decode cX0_billedBehind 11 = .ok (.ireturn, 1) := by decide +kernel
set_option maxRecDepth 20000 in
theorem ggX0_heldBehind_X0_requireApplication : GoodIn wsX0_heldBehind wsX0_requireApplication := goodIn_ca (goodIn_r _ [6, 7, 8, 9, 10, 11, 12, 13, 14, 15, 16, 17, 18, 19, 20, 21, 22, 23, 24] (by decide +kernel) (by decide +kernel)) (goodIn_sub (fun _ h => List.mem_cons_of_mem _ (List.mem_append_right _ h)) (by decide +kernel))
set_option maxRecDepth 20000 in
theorem gX0_heldBehind_X0_requireApplication : GoodIn wsX0_heldBehind (wsV RX0 132 RX0 yX0_requireApplication wsX0_requireApplication) := goodIn_app (goodIn_of _ (by decide +kernel)) ggX0_heldBehind_X0_requireApplication
theorem dX0_heldBehind_0 : decode cX0_heldBehind 0 = .ok (.aload_n 0, 1) := by decide +kernel
theorem dX0_heldBehind_1 : decode cX0_heldBehind 1 = .ok (.iload_n 1, 1) := by decide +kernel
theorem dX0_heldBehind_2 : decode cX0_heldBehind 2 = .ok (.invokevirtual 132, 3) := by decide +kernel
theorem dX0_heldBehind_5 : decode cX0_heldBehind 5 = .ok (.aload_n 0, 1) := by decide +kernel
theorem dX0_heldBehind_6 : decode cX0_heldBehind 6 = .ok (.getfield 40, 3) := by decide +kernel
theorem dX0_heldBehind_9 : decode cX0_heldBehind 9 = .ok (.iload_n 1, 1) := by decide +kernel
theorem dX0_heldBehind_10 : decode cX0_heldBehind 10 = .ok (.iaload, 1) := by decide +kernel
theorem dX0_heldBehind_11 : decode cX0_heldBehind 11 = .ok (.ireturn, 1) := by decide +kernel
theorem dX0_lines_0 : decode cX0_lines 0 = .ok (.aload_n 0, 1) := by decide +kernel
theorem dX0_lines_1 : decode cX0_lines 1 = .ok (.getfield 55, 3) := by decide +kernel
theorem dX0_lines_4 : decode cX0_lines 4 = .ok (.ireturn, 1) := by decide +kernel
set_option maxRecDepth 20000 in
theorem ggX0_value_X0_requireLine : GoodIn wsX0_value wsX0_requireLine := goodIn_ca (goodIn_r _ [6, 7, 8, 9, 10, 11, 12, 13, 14, 15, 16, 17, 18, 19, 20, 21, 22, 23, 24] (by decide +kernel) (by decide +kernel)) (goodIn_sub (fun _ h => List.mem_cons_of_mem _ (List.mem_append_right _ h)) (by decide +kernel))
set_option maxRecDepth 20000 in
theorem gX0_value_X0_requireLine : GoodIn wsX0_value (wsV RX0 58 RX0 yX0_requireLine wsX0_requireLine) := goodIn_app (goodIn_of _ (by decide +kernel)) ggX0_value_X0_requireLine
theorem dX0_value_0 : decode cX0_value 0 = .ok (.aload_n 0, 1) := by decide +kernel
theorem dX0_value_1 : decode cX0_value 1 = .ok (.iload_n 1, 1) := by decide +kernel
theorem dX0_value_2 : decode cX0_value 2 = .ok (.invokevirtual 58, 3) := by decide +kernel
theorem dX0_value_5 : decode cX0_value 5 = .ok (.aload_n 0, 1) := by decide +kernel
theorem dX0_value_6 : decode cX0_value 6 = .ok (.getfield 9, 3) := by decide +kernel
theorem dX0_value_9 : decode cX0_value 9 = .ok (.iload_n 1, 1) := by decide +kernel
theorem dX0_value_10 : decode cX0_value 10 = .ok (.iaload, 1) := by decide +kernel
theorem dX0_value_11 : decode cX0_value 11 = .ok (.ireturn, 1) := by decide +kernel
set_option maxRecDepth 20000 in
theorem ggX0_work_X0_requireLine : GoodIn wsX0_work wsX0_requireLine := goodIn_ca (goodIn_r _ [6, 7, 8, 9, 10, 11, 12, 13, 14, 15, 16, 17, 18, 19, 20, 21, 22, 23, 24] (by decide +kernel) (by decide +kernel)) (goodIn_sub (fun _ h => List.mem_cons_of_mem _ (List.mem_append_right _ h)) (by decide +kernel))
set_option maxRecDepth 20000 in
theorem gX0_work_X0_requireLine : GoodIn wsX0_work (wsV RX0 58 RX0 yX0_requireLine wsX0_requireLine) := goodIn_app (goodIn_of _ (by decide +kernel)) ggX0_work_X0_requireLine
theorem dX0_work_0 : decode cX0_work 0 = .ok (.aload_n 0, 1) := by decide +kernel
theorem dX0_work_1 : decode cX0_work 1 = .ok (.iload_n 1, 1) := by decide +kernel
theorem dX0_work_2 : decode cX0_work 2 = .ok (.invokevirtual 58, 3) := by decide +kernel
theorem dX0_work_5 : decode cX0_work 5 = .ok (.aload_n 0, 1) := by decide +kernel
theorem dX0_work_6 : decode cX0_work 6 = .ok (.getfield 16, 3) := by decide +kernel
theorem dX0_work_9 : decode cX0_work 9 = .ok (.iload_n 1, 1) := by decide +kernel
theorem dX0_work_10 : decode cX0_work 10 = .ok (.iaload, 1) := by decide +kernel
theorem dX0_work_11 : decode cX0_work 11 = .ok (.ireturn, 1) := by decide +kernel
set_option maxRecDepth 20000 in
theorem ggX0_goods_X0_requireLine : GoodIn wsX0_goods wsX0_requireLine := goodIn_ca (goodIn_r _ [7, 8, 9, 10, 11, 12, 13, 14, 15, 16, 17, 18, 19, 20, 21, 22, 23, 24, 25] (by decide +kernel) (by decide +kernel)) (goodIn_sub (fun _ h => List.mem_cons_of_mem _ (List.mem_append_right _ h)) (by decide +kernel))
set_option maxRecDepth 20000 in
theorem gX0_goods_X0_requireLine : GoodIn wsX0_goods (wsV RX0 58 RX0 yX0_requireLine wsX0_requireLine) := goodIn_app (goodIn_of _ (by decide +kernel)) ggX0_goods_X0_requireLine
theorem dX0_goods_0 : decode cX0_goods 0 = .ok (.aload_n 0, 1) := by decide +kernel
theorem dX0_goods_1 : decode cX0_goods 1 = .ok (.iload_n 1, 1) := by decide +kernel
theorem dX0_goods_2 : decode cX0_goods 2 = .ok (.invokevirtual 58, 3) := by decide +kernel
theorem dX0_goods_5 : decode cX0_goods 5 = .ok (.aload_n 0, 1) := by decide +kernel
theorem dX0_goods_6 : decode cX0_goods 6 = .ok (.getfield 13, 3) := by decide +kernel
theorem dX0_goods_9 : decode cX0_goods 9 = .ok (.iload_n 1, 1) := by decide +kernel
theorem dX0_goods_10 : decode cX0_goods 10 = .ok (.iaload, 1) := by decide +kernel
theorem dX0_goods_11 : decode cX0_goods 11 = .ok (.aload_n 0, 1) := by decide +kernel
theorem dX0_goods_12 : decode cX0_goods 12 = .ok (.getfield 16, 3) := by decide +kernel
theorem dX0_goods_15 : decode cX0_goods 15 = .ok (.iload_n 1, 1) := by decide +kernel
theorem dX0_goods_16 : decode cX0_goods 16 = .ok (.iaload, 1) := by decide +kernel
theorem dX0_goods_17 : decode cX0_goods 17 = .ok (.isub, 1) := by decide +kernel
theorem dX0_goods_18 : decode cX0_goods 18 = .ok (.ireturn, 1) := by decide +kernel
set_option maxRecDepth 20000 in
theorem ggX0_billed_X0_requireLine : GoodIn wsX0_billed wsX0_requireLine := goodIn_ca (goodIn_r _ [6, 7, 8, 9, 10, 11, 12, 13, 14, 15, 16, 17, 18, 19, 20, 21, 22, 23, 24] (by decide +kernel) (by decide +kernel)) (goodIn_sub (fun _ h => List.mem_cons_of_mem _ (List.mem_append_right _ h)) (by decide +kernel))
set_option maxRecDepth 20000 in
theorem gX0_billed_X0_requireLine : GoodIn wsX0_billed (wsV RX0 58 RX0 yX0_requireLine wsX0_requireLine) := goodIn_app (goodIn_of _ (by decide +kernel)) ggX0_billed_X0_requireLine
theorem dX0_billed_0 : decode cX0_billed 0 = .ok (.aload_n 0, 1) := by decide +kernel
theorem dX0_billed_1 : decode cX0_billed 1 = .ok (.iload_n 1, 1) := by decide +kernel
theorem dX0_billed_2 : decode cX0_billed 2 = .ok (.invokevirtual 58, 3) := by decide +kernel
theorem dX0_billed_5 : decode cX0_billed 5 = .ok (.aload_n 0, 1) := by decide +kernel
theorem dX0_billed_6 : decode cX0_billed 6 = .ok (.getfield 19, 3) := by decide +kernel
theorem dX0_billed_9 : decode cX0_billed 9 = .ok (.iload_n 1, 1) := by decide +kernel
theorem dX0_billed_10 : decode cX0_billed 10 = .ok (.iaload, 1) := by decide +kernel
theorem dX0_billed_11 : decode cX0_billed 11 = .ok (.ireturn, 1) := by decide +kernel
set_option maxRecDepth 20000 in
theorem ggX0_held_X0_requireLine : GoodIn wsX0_held wsX0_requireLine := goodIn_ca (goodIn_r _ [6, 7, 8, 9, 10, 11, 12, 13, 14, 15, 16, 17, 18, 19, 20, 21, 22, 23, 24] (by decide +kernel) (by decide +kernel)) (goodIn_sub (fun _ h => List.mem_cons_of_mem _ (List.mem_append_right _ h)) (by decide +kernel))
set_option maxRecDepth 20000 in
theorem gX0_held_X0_requireLine : GoodIn wsX0_held (wsV RX0 58 RX0 yX0_requireLine wsX0_requireLine) := goodIn_app (goodIn_of _ (by decide +kernel)) ggX0_held_X0_requireLine
theorem dX0_held_0 : decode cX0_held 0 = .ok (.aload_n 0, 1) := by decide +kernel
theorem dX0_held_1 : decode cX0_held 1 = .ok (.iload_n 1, 1) := by decide +kernel
theorem dX0_held_2 : decode cX0_held 2 = .ok (.invokevirtual 58, 3) := by decide +kernel
theorem dX0_held_5 : decode cX0_held 5 = .ok (.aload_n 0, 1) := by decide +kernel
theorem dX0_held_6 : decode cX0_held 6 = .ok (.getfield 22, 3) := by decide +kernel
theorem dX0_held_9 : decode cX0_held 9 = .ok (.iload_n 1, 1) := by decide +kernel
theorem dX0_held_10 : decode cX0_held 10 = .ok (.iaload, 1) := by decide +kernel
theorem dX0_held_11 : decode cX0_held 11 = .ok (.ireturn, 1) := by decide +kernel
set_option maxRecDepth 20000 in
theorem ggX0_lineByShare_X0_requireLine : GoodIn wsX0_lineByShare wsX0_requireLine := goodIn_ca (goodIn_r _ [6, 7, 8, 1, 27, 28, 29, 30, 31, 32, 33, 34, 35, 36, 37, 38, 39, 40, 41] (by decide +kernel) (by decide +kernel)) (goodIn_sub (fun _ h => List.mem_cons_of_mem _ (List.mem_append_right _ h)) (by decide +kernel))
set_option maxRecDepth 20000 in
theorem gX0_lineByShare_X0_requireLine : GoodIn wsX0_lineByShare (wsV RX0 58 RX0 yX0_requireLine wsX0_requireLine) := goodIn_app (goodIn_of _ (by decide +kernel)) ggX0_lineByShare_X0_requireLine
set_option maxRecDepth 20000 in
theorem ggX0_lineByShare_X0_placeByShare : GoodIn wsX0_lineByShare wsX0_placeByShare := goodIn_r _ [12, 1, 13, 14, 15, 5, 16, 17, 18, 19, 20, 21, 22, 23, 24, 25, 26, 27, 28, 29, 30, 31, 32, 33, 34, 35, 36, 37, 38, 39, 40, 41] (by decide +kernel) (by decide +kernel)
set_option maxRecDepth 20000 in
theorem gX0_lineByShare_X0_placeByShare : GoodIn wsX0_lineByShare (wsV RX0 144 RX0 yX0_placeByShare wsX0_placeByShare) := goodIn_app (goodIn_of _ (by decide +kernel)) ggX0_lineByShare_X0_placeByShare
theorem dX0_lineByShare_0 : decode cX0_lineByShare 0 = .ok (.aload_n 0, 1) := by decide +kernel
theorem dX0_lineByShare_1 : decode cX0_lineByShare 1 = .ok (.iload_n 1, 1) := by decide +kernel
theorem dX0_lineByShare_2 : decode cX0_lineByShare 2 = .ok (.invokevirtual 58, 3) := by decide +kernel
theorem dX0_lineByShare_5 : decode cX0_lineByShare 5 = .ok (.iconst 0, 1) := by decide +kernel
theorem dX0_lineByShare_6 : decode cX0_lineByShare 6 = .ok (.istore_n 2, 1) := by decide +kernel
theorem dX0_lineByShare_7 : decode cX0_lineByShare 7 = .ok (.iload_n 2, 1) := by decide +kernel
theorem dX0_lineByShare_8 : decode cX0_lineByShare 8 = .ok (.aload_n 0, 1) := by decide +kernel
theorem dX0_lineByShare_9 : decode cX0_lineByShare 9 = .ok (.getfield 55, 3) := by decide +kernel
theorem dX0_lineByShare_12 : decode cX0_lineByShare 12 = .ok (.iconst 1, 1) := by decide +kernel
theorem dX0_lineByShare_13 : decode cX0_lineByShare 13 = .ok (.isub, 1) := by decide +kernel
theorem dX0_lineByShare_14 : decode cX0_lineByShare 14 = .ok (.if_icmp .ge 18, 3) := by decide +kernel
theorem dX0_lineByShare_17 : decode cX0_lineByShare 17 = .ok (.aload_n 0, 1) := by decide +kernel
theorem dX0_lineByShare_18 : decode cX0_lineByShare 18 = .ok (.iload_n 2, 1) := by decide +kernel
theorem dX0_lineByShare_19 : decode cX0_lineByShare 19 = .ok (.invokevirtual 144, 3) := by decide +kernel
theorem dX0_lineByShare_22 : decode cX0_lineByShare 22 = .ok (.iload_n 1, 1) := by decide +kernel
theorem dX0_lineByShare_23 : decode cX0_lineByShare 23 = .ok (.if_icmp .eq 9, 3) := by decide +kernel
theorem dX0_lineByShare_26 : decode cX0_lineByShare 26 = .ok (.iinc 2 1, 3) := by decide +kernel
theorem dX0_lineByShare_29 : decode cX0_lineByShare 29 = .ok (.goto (-22), 3) := by decide +kernel
theorem dX0_lineByShare_32 : decode cX0_lineByShare 32 = .ok (.iload_n 2, 1) := by decide +kernel
theorem dX0_lineByShare_33 : decode cX0_lineByShare 33 = .ok (.ireturn, 1) := by decide +kernel
set_option maxRecDepth 20000 in
theorem ggX0_contractSum_X0_sum : GoodIn wsX0_contractSum wsX0_sum := goodIn_r _ [6] (by decide +kernel) (by decide +kernel)
set_option maxRecDepth 20000 in
theorem gX0_contractSum_X0_sum : GoodIn wsX0_contractSum (va_wsS RX0 98 yX0_sum wsX0_sum) := goodIn_app (goodIn_of _ (by decide +kernel)) ggX0_contractSum_X0_sum
theorem dX0_contractSum_0 : decode cX0_contractSum 0 = .ok (.aload_n 0, 1) := by decide +kernel
theorem dX0_contractSum_1 : decode cX0_contractSum 1 = .ok (.getfield 9, 3) := by decide +kernel
theorem dX0_contractSum_4 : decode cX0_contractSum 4 = .ok (.aload_n 0, 1) := by decide +kernel
theorem dX0_contractSum_5 : decode cX0_contractSum 5 = .ok (.getfield 55, 3) := by decide +kernel
theorem dX0_contractSum_8 : decode cX0_contractSum 8 = .ok (.invokestatic 98, 3) := by decide +kernel
theorem dX0_contractSum_11 : decode cX0_contractSum 11 = .ok (.ireturn, 1) := by decide +kernel
theorem dX0_paid_0 : decode cX0_paid 0 = .ok (.iconst 0, 1) := by decide +kernel
theorem dX0_paid_1 : decode cX0_paid 1 = .ok (.istore_n 1, 1) := by decide +kernel
theorem dX0_paid_2 : decode cX0_paid 2 = .ok (.iconst 0, 1) := by decide +kernel
theorem dX0_paid_3 : decode cX0_paid 3 = .ok (.istore_n 2, 1) := by decide +kernel
theorem dX0_paid_4 : decode cX0_paid 4 = .ok (.iload_n 2, 1) := by decide +kernel
theorem dX0_paid_5 : decode cX0_paid 5 = .ok (.aload_n 0, 1) := by decide +kernel
theorem dX0_paid_6 : decode cX0_paid 6 = .ok (.getfield 115, 3) := by decide +kernel
theorem dX0_paid_9 : decode cX0_paid 9 = .ok (.if_icmp .ge 27, 3) := by decide +kernel
theorem dX0_paid_12 : decode cX0_paid 12 = .ok (.aload_n 0, 1) := by decide +kernel
theorem dX0_paid_13 : decode cX0_paid 13 = .ok (.getfield 31, 3) := by decide +kernel
theorem dX0_paid_16 : decode cX0_paid 16 = .ok (.iload_n 2, 1) := by decide +kernel
theorem dX0_paid_17 : decode cX0_paid 17 = .ok (.iaload, 1) := by decide +kernel
theorem dX0_paid_18 : decode cX0_paid 18 = .ok (.ifCond .eq 12, 3) := by decide +kernel
theorem dX0_paid_21 : decode cX0_paid 21 = .ok (.iload_n 1, 1) := by decide +kernel
theorem dX0_paid_22 : decode cX0_paid 22 = .ok (.aload_n 0, 1) := by decide +kernel
theorem dX0_paid_23 : decode cX0_paid 23 = .ok (.getfield 34, 3) := by decide +kernel
theorem dX0_paid_26 : decode cX0_paid 26 = .ok (.iload_n 2, 1) := by decide +kernel
theorem dX0_paid_27 : decode cX0_paid 27 = .ok (.iaload, 1) := by decide +kernel
theorem dX0_paid_28 : decode cX0_paid 28 = .ok (.iadd, 1) := by decide +kernel
theorem dX0_paid_29 : decode cX0_paid 29 = .ok (.istore_n 1, 1) := by decide +kernel
theorem dX0_paid_30 : decode cX0_paid 30 = .ok (.iinc 2 1, 3) := by decide +kernel
theorem dX0_paid_33 : decode cX0_paid 33 = .ok (.goto (-29), 3) := by decide +kernel
theorem dX0_paid_36 : decode cX0_paid 36 = .ok (.iload_n 1, 1) := by decide +kernel
theorem dX0_paid_37 : decode cX0_paid 37 = .ok (.ireturn, 1) := by decide +kernel
set_option maxRecDepth 20000 in
theorem ggX0_toCome_X0_contractSum : GoodIn wsX0_toCome wsX0_contractSum := goodIn_r _ [5, 6, 7, 8, 9, 4, 10, 18, 19, 20, 21, 22, 23, 24, 25, 26, 27, 28, 29, 30, 31, 32] (by decide +kernel) (by decide +kernel)
set_option maxRecDepth 20000 in
theorem gX0_toCome_X0_contractSum : GoodIn wsX0_toCome (wsV RX0 102 RX0 yX0_contractSum wsX0_contractSum) := goodIn_app (goodIn_of _ (by decide +kernel)) ggX0_toCome_X0_contractSum
set_option maxRecDepth 20000 in
theorem ggX0_toCome_X0_paid : GoodIn wsX0_toCome wsX0_paid := goodIn_r _ [14, 15, 16, 17, 18, 19, 20, 21, 22, 23, 24, 25, 26, 27, 28, 29, 30, 31, 32] (by decide +kernel) (by decide +kernel)
set_option maxRecDepth 20000 in
theorem gX0_toCome_X0_paid : GoodIn wsX0_toCome (wsV RX0 147 RX0 yX0_paid wsX0_paid) := goodIn_app (goodIn_of _ (by decide +kernel)) ggX0_toCome_X0_paid
theorem dX0_toCome_0 : decode cX0_toCome 0 = .ok (.aload_n 0, 1) := by decide +kernel
theorem dX0_toCome_1 : decode cX0_toCome 1 = .ok (.invokevirtual 102, 3) := by decide +kernel
theorem dX0_toCome_4 : decode cX0_toCome 4 = .ok (.aload_n 0, 1) := by decide +kernel
theorem dX0_toCome_5 : decode cX0_toCome 5 = .ok (.invokevirtual 147, 3) := by decide +kernel
theorem dX0_toCome_8 : decode cX0_toCome 8 = .ok (.isub, 1) := by decide +kernel
theorem dX0_toCome_9 : decode cX0_toCome 9 = .ok (.ireturn, 1) := by decide +kernel
theorem dX0_requireLine_0 : decode cX0_requireLine 0 = .ok (.iload_n 1, 1) := by decide +kernel
theorem dX0_requireLine_1 : decode cX0_requireLine 1 = .ok (.ifCond .lt 11, 3) := by decide +kernel
theorem dX0_requireLine_4 : decode cX0_requireLine 4 = .ok (.iload_n 1, 1) := by decide +kernel
theorem dX0_requireLine_5 : decode cX0_requireLine 5 = .ok (.aload_n 0, 1) := by decide +kernel
theorem dX0_requireLine_6 : decode cX0_requireLine 6 = .ok (.getfield 55, 3) := by decide +kernel
theorem dX0_requireLine_9 : decode cX0_requireLine 9 = .ok (.if_icmp .lt 13, 3) := by decide +kernel
theorem dX0_requireLine_12 : decode cX0_requireLine 12 = .ok (.new 150, 3) := by decide +kernel
theorem dX0_requireLine_15 : decode cX0_requireLine 15 = .ok (.dup, 1) := by decide +kernel
theorem dX0_requireLine_16 : decode cX0_requireLine 16 = .ok (.ldc 152, 2) := by decide +kernel
theorem dX0_requireLine_18 : decode cX0_requireLine 18 = .ok (.invokespecial 154, 3) := by decide +kernel
theorem dX0_requireLine_21 : decode cX0_requireLine 21 = .ok (.athrow, 1) := by decide +kernel
theorem dX0_requireLine_22 : decode cX0_requireLine 22 = .ok (.return_, 1) := by decide +kernel
theorem dX0_requireApplication_0 : decode cX0_requireApplication 0 = .ok (.iload_n 1, 1) := by decide +kernel
theorem dX0_requireApplication_1 : decode cX0_requireApplication 1 = .ok (.ifCond .lt 11, 3) := by decide +kernel
theorem dX0_requireApplication_4 : decode cX0_requireApplication 4 = .ok (.iload_n 1, 1) := by decide +kernel
theorem dX0_requireApplication_5 : decode cX0_requireApplication 5 = .ok (.aload_n 0, 1) := by decide +kernel
theorem dX0_requireApplication_6 : decode cX0_requireApplication 6 = .ok (.getfield 115, 3) := by decide +kernel
theorem dX0_requireApplication_9 : decode cX0_requireApplication 9 = .ok (.if_icmp .lt 13, 3) := by decide +kernel
theorem dX0_requireApplication_12 : decode cX0_requireApplication 12 = .ok (.new 150, 3) := by decide +kernel
theorem dX0_requireApplication_15 : decode cX0_requireApplication 15 = .ok (.dup, 1) := by decide +kernel
theorem dX0_requireApplication_16 : decode cX0_requireApplication 16 = .ok (.ldc 155, 2) := by decide +kernel
theorem dX0_requireApplication_18 : decode cX0_requireApplication 18 = .ok (.invokespecial 154, 3) := by decide +kernel
theorem dX0_requireApplication_21 : decode cX0_requireApplication 21 = .ok (.athrow, 1) := by decide +kernel
theorem dX0_requireApplication_22 : decode cX0_requireApplication 22 = .ok (.return_, 1) := by decide +kernel
theorem dX0_requireBetween_0 : decode cX0_requireBetween 0 = .ok (.iload_n 0, 1) := by decide +kernel
theorem dX0_requireBetween_1 : decode cX0_requireBetween 1 = .ok (.iload_n 1, 1) := by decide +kernel
theorem dX0_requireBetween_2 : decode cX0_requireBetween 2 = .ok (.if_icmp .lt 8, 3) := by decide +kernel
theorem dX0_requireBetween_5 : decode cX0_requireBetween 5 = .ok (.iload_n 0, 1) := by decide +kernel
theorem dX0_requireBetween_6 : decode cX0_requireBetween 6 = .ok (.iload_n 2, 1) := by decide +kernel
theorem dX0_requireBetween_7 : decode cX0_requireBetween 7 = .ok (.if_icmp .le 13, 3) := by decide +kernel
theorem dX0_requireBetween_10 : decode cX0_requireBetween 10 = .ok (.new 157, 3) := by decide +kernel
theorem dX0_requireBetween_13 : decode cX0_requireBetween 13 = .ok (.dup, 1) := by decide +kernel
theorem dX0_requireBetween_14 : decode cX0_requireBetween 14 = .ok (.ldc 159, 2) := by decide +kernel
theorem dX0_requireBetween_16 : decode cX0_requireBetween 16 = .ok (.invokespecial 161, 3) := by decide +kernel
theorem dX0_requireBetween_19 : decode cX0_requireBetween 19 = .ok (.athrow, 1) := by decide +kernel
theorem dX0_requireBetween_20 : decode cX0_requireBetween 20 = .ok (.return_, 1) := by decide +kernel
theorem dX0_requireRoomForLine_0 : decode cX0_requireRoomForLine 0 = .ok (.aload_n 0, 1) := by decide +kernel
theorem dX0_requireRoomForLine_1 : decode cX0_requireRoomForLine 1 = .ok (.getfield 55, 3) := by decide +kernel
theorem dX0_requireRoomForLine_4 : decode cX0_requireRoomForLine 4 = .ok (.bipush 16, 2) := by decide +kernel
theorem dX0_requireRoomForLine_6 : decode cX0_requireRoomForLine 6 = .ok (.if_icmp .lt 13, 3) := by decide +kernel
theorem dX0_requireRoomForLine_9 : decode cX0_requireRoomForLine 9 = .ok (.new 62, 3) := by decide +kernel
theorem dX0_requireRoomForLine_12 : decode cX0_requireRoomForLine 12 = .ok (.dup, 1) := by decide +kernel
theorem dX0_requireRoomForLine_13 : decode cX0_requireRoomForLine 13 = .ok (.ldc 162, 2) := by decide +kernel
theorem dX0_requireRoomForLine_15 : decode cX0_requireRoomForLine 15 = .ok (.invokespecial 66, 3) := by decide +kernel
theorem dX0_requireRoomForLine_18 : decode cX0_requireRoomForLine 18 = .ok (.athrow, 1) := by decide +kernel
theorem dX0_requireRoomForLine_19 : decode cX0_requireRoomForLine 19 = .ok (.return_, 1) := by decide +kernel
theorem dX0_requireValueFor_0 : decode cX0_requireValueFor 0 = .ok (.aload_n 0, 1) := by decide +kernel
theorem dX0_requireValueFor_1 : decode cX0_requireValueFor 1 = .ok (.getfield 13, 3) := by decide +kernel
theorem dX0_requireValueFor_4 : decode cX0_requireValueFor 4 = .ok (.iload_n 1, 1) := by decide +kernel
theorem dX0_requireValueFor_5 : decode cX0_requireValueFor 5 = .ok (.iaload, 1) := by decide +kernel
theorem dX0_requireValueFor_6 : decode cX0_requireValueFor 6 = .ok (.iload_n 2, 1) := by decide +kernel
theorem dX0_requireValueFor_7 : decode cX0_requireValueFor 7 = .ok (.iadd, 1) := by decide +kernel
theorem dX0_requireValueFor_8 : decode cX0_requireValueFor 8 = .ok (.aload_n 0, 1) := by decide +kernel
theorem dX0_requireValueFor_9 : decode cX0_requireValueFor 9 = .ok (.getfield 9, 3) := by decide +kernel
theorem dX0_requireValueFor_12 : decode cX0_requireValueFor 12 = .ok (.iload_n 1, 1) := by decide +kernel
theorem dX0_requireValueFor_13 : decode cX0_requireValueFor 13 = .ok (.iaload, 1) := by decide +kernel
theorem dX0_requireValueFor_14 : decode cX0_requireValueFor 14 = .ok (.if_icmp .le 13, 3) := by decide +kernel
theorem dX0_requireValueFor_17 : decode cX0_requireValueFor 17 = .ok (.new 62, 3) := by decide +kernel
theorem dX0_requireValueFor_20 : decode cX0_requireValueFor 20 = .ok (.dup, 1) := by decide +kernel
theorem dX0_requireValueFor_21 : decode cX0_requireValueFor 21 = .ok (.ldc 164, 2) := by decide +kernel
theorem dX0_requireValueFor_23 : decode cX0_requireValueFor 23 = .ok (.invokespecial 66, 3) := by decide +kernel
theorem dX0_requireValueFor_26 : decode cX0_requireValueFor 26 = .ok (.athrow, 1) := by decide +kernel
theorem dX0_requireValueFor_27 : decode cX0_requireValueFor 27 = .ok (.return_, 1) := by decide +kernel
set_option maxRecDepth 20000 in
theorem ggX0_moveShare_X0_scaledDown : GoodIn wsX0_moveShare wsX0_scaledDown := goodIn_r _ [4, 5, 6, 7, 8] (by decide +kernel) (by decide +kernel)
set_option maxRecDepth 20000 in
theorem gX0_moveShare_X0_scaledDown : GoodIn wsX0_moveShare (va_wsS RX0 106 yX0_scaledDown wsX0_scaledDown) := goodIn_app (goodIn_of _ (by decide +kernel)) ggX0_moveShare_X0_scaledDown
theorem dX0_moveShare_0 : decode cX0_moveShare 0 = .ok (.aload_n 0, 1) := by decide +kernel
theorem dX0_moveShare_1 : decode cX0_moveShare 1 = .ok (.iload_n 1, 1) := by decide +kernel
theorem dX0_moveShare_2 : decode cX0_moveShare 2 = .ok (.iaload, 1) := by decide +kernel
theorem dX0_moveShare_3 : decode cX0_moveShare 3 = .ok (.iload_n 3, 1) := by decide +kernel
theorem dX0_moveShare_4 : decode cX0_moveShare 4 = .ok (.iload 4, 2) := by decide +kernel
theorem dX0_moveShare_6 : decode cX0_moveShare 6 = .ok (.invokestatic 106, 3) := by decide +kernel
theorem dX0_moveShare_9 : decode cX0_moveShare 9 = .ok (.istore 5, 2) := by decide +kernel
theorem dX0_moveShare_11 : decode cX0_moveShare 11 = .ok (.aload_n 0, 1) := by decide +kernel
theorem dX0_moveShare_12 : decode cX0_moveShare 12 = .ok (.iload_n 2, 1) := by decide +kernel
theorem dX0_moveShare_13 : decode cX0_moveShare 13 = .ok (.iload 5, 2) := by decide +kernel
theorem dX0_moveShare_15 : decode cX0_moveShare 15 = .ok (.iastore, 1) := by decide +kernel
theorem dX0_moveShare_16 : decode cX0_moveShare 16 = .ok (.aload_n 0, 1) := by decide +kernel
theorem dX0_moveShare_17 : decode cX0_moveShare 17 = .ok (.iload_n 1, 1) := by decide +kernel
theorem dX0_moveShare_18 : decode cX0_moveShare 18 = .ok (.dup2, 1) := by decide +kernel
theorem dX0_moveShare_19 : decode cX0_moveShare 19 = .ok (.iaload, 1) := by decide +kernel
theorem dX0_moveShare_20 : decode cX0_moveShare 20 = .ok (.iload 5, 2) := by decide +kernel
theorem dX0_moveShare_22 : decode cX0_moveShare 22 = .ok (.isub, 1) := by decide +kernel
theorem dX0_moveShare_23 : decode cX0_moveShare 23 = .ok (.iastore, 1) := by decide +kernel
theorem dX0_moveShare_24 : decode cX0_moveShare 24 = .ok (.return_, 1) := by decide +kernel
theorem dX0_stepWith_0 : decode cX0_stepWith 0 = .ok (.iconst 0, 1) := by decide +kernel
theorem dX0_stepWith_1 : decode cX0_stepWith 1 = .ok (.istore_n 2, 1) := by decide +kernel
theorem dX0_stepWith_2 : decode cX0_stepWith 2 = .ok (.iload_n 2, 1) := by decide +kernel
theorem dX0_stepWith_3 : decode cX0_stepWith 3 = .ok (.aload_n 0, 1) := by decide +kernel
theorem dX0_stepWith_4 : decode cX0_stepWith 4 = .ok (.getfield 43, 3) := by decide +kernel
theorem dX0_stepWith_7 : decode cX0_stepWith 7 = .ok (.if_icmp .ge 21, 3) := by decide +kernel
theorem dX0_stepWith_10 : decode cX0_stepWith 10 = .ok (.aload_n 0, 1) := by decide +kernel
theorem dX0_stepWith_11 : decode cX0_stepWith 11 = .ok (.getfield 25, 3) := by decide +kernel
theorem dX0_stepWith_14 : decode cX0_stepWith 14 = .ok (.iload_n 2, 1) := by decide +kernel
theorem dX0_stepWith_15 : decode cX0_stepWith 15 = .ok (.iaload, 1) := by decide +kernel
theorem dX0_stepWith_16 : decode cX0_stepWith 16 = .ok (.iload_n 1, 1) := by decide +kernel
theorem dX0_stepWith_17 : decode cX0_stepWith 17 = .ok (.if_icmp .ne 5, 3) := by decide +kernel
theorem dX0_stepWith_20 : decode cX0_stepWith 20 = .ok (.iload_n 2, 1) := by decide +kernel
theorem dX0_stepWith_21 : decode cX0_stepWith 21 = .ok (.ireturn, 1) := by decide +kernel
theorem dX0_stepWith_22 : decode cX0_stepWith 22 = .ok (.iinc 2 1, 3) := by decide +kernel
theorem dX0_stepWith_25 : decode cX0_stepWith 25 = .ok (.goto (-23), 3) := by decide +kernel
theorem dX0_stepWith_28 : decode cX0_stepWith 28 = .ok (.iconst (-1), 1) := by decide +kernel
theorem dX0_stepWith_29 : decode cX0_stepWith 29 = .ok (.ireturn, 1) := by decide +kernel
theorem dX0_addStep_0 : decode cX0_addStep 0 = .ok (.aload_n 0, 1) := by decide +kernel
theorem dX0_addStep_1 : decode cX0_addStep 1 = .ok (.getfield 43, 3) := by decide +kernel
theorem dX0_addStep_4 : decode cX0_addStep 4 = .ok (.bipush 6, 2) := by decide +kernel
theorem dX0_addStep_6 : decode cX0_addStep 6 = .ok (.if_icmp .lt 13, 3) := by decide +kernel
theorem dX0_addStep_9 : decode cX0_addStep 9 = .ok (.new 62, 3) := by decide +kernel
theorem dX0_addStep_12 : decode cX0_addStep 12 = .ok (.dup, 1) := by decide +kernel
theorem dX0_addStep_13 : decode cX0_addStep 13 = .ok (.ldc 166, 2) := by decide +kernel
theorem dX0_addStep_15 : decode cX0_addStep 15 = .ok (.invokespecial 66, 3) := by decide +kernel
theorem dX0_addStep_18 : decode cX0_addStep 18 = .ok (.athrow, 1) := by decide +kernel
theorem dX0_addStep_19 : decode cX0_addStep 19 = .ok (.aload_n 0, 1) := by decide +kernel
theorem dX0_addStep_20 : decode cX0_addStep 20 = .ok (.getfield 25, 3) := by decide +kernel
theorem dX0_addStep_23 : decode cX0_addStep 23 = .ok (.aload_n 0, 1) := by decide +kernel
theorem dX0_addStep_24 : decode cX0_addStep 24 = .ok (.getfield 43, 3) := by decide +kernel
theorem dX0_addStep_27 : decode cX0_addStep 27 = .ok (.iload_n 1, 1) := by decide +kernel
theorem dX0_addStep_28 : decode cX0_addStep 28 = .ok (.iastore, 1) := by decide +kernel
theorem dX0_addStep_29 : decode cX0_addStep 29 = .ok (.aload_n 0, 1) := by decide +kernel
theorem dX0_addStep_30 : decode cX0_addStep 30 = .ok (.getfield 28, 3) := by decide +kernel
theorem dX0_addStep_33 : decode cX0_addStep 33 = .ok (.aload_n 0, 1) := by decide +kernel
theorem dX0_addStep_34 : decode cX0_addStep 34 = .ok (.getfield 43, 3) := by decide +kernel
theorem dX0_addStep_37 : decode cX0_addStep 37 = .ok (.iload_n 2, 1) := by decide +kernel
theorem dX0_addStep_38 : decode cX0_addStep 38 = .ok (.iastore, 1) := by decide +kernel
theorem dX0_addStep_39 : decode cX0_addStep 39 = .ok (.aload_n 0, 1) := by decide +kernel
theorem dX0_addStep_40 : decode cX0_addStep 40 = .ok (.dup, 1) := by decide +kernel
theorem dX0_addStep_41 : decode cX0_addStep 41 = .ok (.getfield 43, 3) := by decide +kernel
theorem dX0_addStep_44 : decode cX0_addStep 44 = .ok (.iconst 1, 1) := by decide +kernel
theorem dX0_addStep_45 : decode cX0_addStep 45 = .ok (.iadd, 1) := by decide +kernel
theorem dX0_addStep_46 : decode cX0_addStep 46 = .ok (.putfield 43, 3) := by decide +kernel
theorem dX0_addStep_49 : decode cX0_addStep 49 = .ok (.return_, 1) := by decide +kernel
set_option maxRecDepth 20000 in
theorem ggX0_heldIfClosed_X0_thousandths : GoodIn wsX0_heldIfClosed wsX0_thousandths := goodIn_r _ [8, 9, 10, 11, 12, 13, 14] (by decide +kernel) (by decide +kernel)
set_option maxRecDepth 20000 in
theorem gX0_heldIfClosed_X0_thousandths : GoodIn wsX0_heldIfClosed (va_wsS RX0 73 yX0_thousandths wsX0_thousandths) := goodIn_app (goodIn_of _ (by decide +kernel)) ggX0_heldIfClosed_X0_thousandths
theorem dX0_heldIfClosed_0 : decode cX0_heldIfClosed 0 = .ok (.aload_n 0, 1) := by decide +kernel
theorem dX0_heldIfClosed_1 : decode cX0_heldIfClosed 1 = .ok (.getfield 94, 3) := by decide +kernel
theorem dX0_heldIfClosed_4 : decode cX0_heldIfClosed 4 = .ok (.ifCond .eq 28, 3) := by decide +kernel
theorem dX0_heldIfClosed_7 : decode cX0_heldIfClosed 7 = .ok (.aload_n 0, 1) := by decide +kernel
theorem dX0_heldIfClosed_8 : decode cX0_heldIfClosed 8 = .ok (.getfield 22, 3) := by decide +kernel
theorem dX0_heldIfClosed_11 : decode cX0_heldIfClosed 11 = .ok (.iload_n 1, 1) := by decide +kernel
theorem dX0_heldIfClosed_12 : decode cX0_heldIfClosed 12 = .ok (.iaload, 1) := by decide +kernel
theorem dX0_heldIfClosed_13 : decode cX0_heldIfClosed 13 = .ok (.aload_n 0, 1) := by decide +kernel
theorem dX0_heldIfClosed_14 : decode cX0_heldIfClosed 14 = .ok (.getfield 13, 3) := by decide +kernel
theorem dX0_heldIfClosed_17 : decode cX0_heldIfClosed 17 = .ok (.iload_n 1, 1) := by decide +kernel
theorem dX0_heldIfClosed_18 : decode cX0_heldIfClosed 18 = .ok (.iaload, 1) := by decide +kernel
theorem dX0_heldIfClosed_19 : decode cX0_heldIfClosed 19 = .ok (.aload_n 0, 1) := by decide +kernel
theorem dX0_heldIfClosed_20 : decode cX0_heldIfClosed 20 = .ok (.getfield 19, 3) := by decide +kernel
theorem dX0_heldIfClosed_23 : decode cX0_heldIfClosed 23 = .ok (.iload_n 1, 1) := by decide +kernel
theorem dX0_heldIfClosed_24 : decode cX0_heldIfClosed 24 = .ok (.iaload, 1) := by decide +kernel
theorem dX0_heldIfClosed_25 : decode cX0_heldIfClosed 25 = .ok (.isub, 1) := by decide +kernel
theorem dX0_heldIfClosed_26 : decode cX0_heldIfClosed 26 = .ok (.iload_n 2, 1) := by decide +kernel
theorem dX0_heldIfClosed_27 : decode cX0_heldIfClosed 27 = .ok (.invokestatic 73, 3) := by decide +kernel
theorem dX0_heldIfClosed_30 : decode cX0_heldIfClosed 30 = .ok (.iadd, 1) := by decide +kernel
theorem dX0_heldIfClosed_31 : decode cX0_heldIfClosed 31 = .ok (.ireturn, 1) := by decide +kernel
theorem dX0_heldIfClosed_32 : decode cX0_heldIfClosed 32 = .ok (.aload_n 0, 1) := by decide +kernel
theorem dX0_heldIfClosed_33 : decode cX0_heldIfClosed 33 = .ok (.getfield 13, 3) := by decide +kernel
theorem dX0_heldIfClosed_36 : decode cX0_heldIfClosed 36 = .ok (.iload_n 1, 1) := by decide +kernel
theorem dX0_heldIfClosed_37 : decode cX0_heldIfClosed 37 = .ok (.iaload, 1) := by decide +kernel
theorem dX0_heldIfClosed_38 : decode cX0_heldIfClosed 38 = .ok (.iload_n 2, 1) := by decide +kernel
theorem dX0_heldIfClosed_39 : decode cX0_heldIfClosed 39 = .ok (.invokestatic 73, 3) := by decide +kernel
theorem dX0_heldIfClosed_42 : decode cX0_heldIfClosed 42 = .ok (.ireturn, 1) := by decide +kernel
set_option maxRecDepth 20000 in
theorem ggX0_billLines_X0_rate : GoodIn wsX0_billLines wsX0_rate := goodIn_r _ [9, 10, 11, 12, 13, 14, 15, 8, 16, 17, 1, 18, 19, 20, 21, 22, 23, 24, 25, 26, 27, 28, 29, 30, 31, 32, 43, 44, 45, 46, 47, 48, 49, 50, 51, 52, 53, 54, 55, 56, 57] (by decide +kernel) (by decide +kernel)
set_option maxRecDepth 20000 in
theorem gX0_billLines_X0_rate : GoodIn wsX0_billLines (wsV RX0 126 RX0 yX0_rate wsX0_rate) := goodIn_app (goodIn_of _ (by decide +kernel)) ggX0_billLines_X0_rate
set_option maxRecDepth 20000 in
theorem ggX0_billLines_X0_heldIfClosed : GoodIn wsX0_billLines wsX0_heldIfClosed := goodIn_r _ [36, 37, 2, 4, 3, 38, 39, 8, 40, 41, 42, 29, 30, 31, 32, 43, 44, 45, 46, 47, 48, 49, 50, 51, 52, 53, 54, 55, 56, 57] (by decide +kernel) (by decide +kernel)
set_option maxRecDepth 20000 in
theorem gX0_billLines_X0_heldIfClosed : GoodIn wsX0_billLines (wsV RX0 129 RX0 yX0_heldIfClosed wsX0_heldIfClosed) := goodIn_app (goodIn_of _ (by decide +kernel)) ggX0_billLines_X0_heldIfClosed
theorem dX0_billLines_0 : decode cX0_billLines 0 = .ok (.aload_n 0, 1) := by decide +kernel
theorem dX0_billLines_1 : decode cX0_billLines 1 = .ok (.invokevirtual 126, 3) := by decide +kernel
theorem dX0_billLines_4 : decode cX0_billLines 4 = .ok (.istore_n 1, 1) := by decide +kernel
theorem dX0_billLines_5 : decode cX0_billLines 5 = .ok (.iconst 0, 1) := by decide +kernel
theorem dX0_billLines_6 : decode cX0_billLines 6 = .ok (.istore_n 2, 1) := by decide +kernel
theorem dX0_billLines_7 : decode cX0_billLines 7 = .ok (.iload_n 2, 1) := by decide +kernel
theorem dX0_billLines_8 : decode cX0_billLines 8 = .ok (.aload_n 0, 1) := by decide +kernel
theorem dX0_billLines_9 : decode cX0_billLines 9 = .ok (.getfield 55, 3) := by decide +kernel
theorem dX0_billLines_12 : decode cX0_billLines 12 = .ok (.if_icmp .ge 33, 3) := by decide +kernel
theorem dX0_billLines_15 : decode cX0_billLines 15 = .ok (.aload_n 0, 1) := by decide +kernel
theorem dX0_billLines_16 : decode cX0_billLines 16 = .ok (.getfield 22, 3) := by decide +kernel
theorem dX0_billLines_19 : decode cX0_billLines 19 = .ok (.iload_n 2, 1) := by decide +kernel
theorem dX0_billLines_20 : decode cX0_billLines 20 = .ok (.aload_n 0, 1) := by decide +kernel
theorem dX0_billLines_21 : decode cX0_billLines 21 = .ok (.iload_n 2, 1) := by decide +kernel
theorem dX0_billLines_22 : decode cX0_billLines 22 = .ok (.iload_n 1, 1) := by decide +kernel
theorem dX0_billLines_23 : decode cX0_billLines 23 = .ok (.invokevirtual 129, 3) := by decide +kernel
theorem dX0_billLines_26 : decode cX0_billLines 26 = .ok (.iastore, 1) := by decide +kernel
theorem dX0_billLines_27 : decode cX0_billLines 27 = .ok (.aload_n 0, 1) := by decide +kernel
theorem dX0_billLines_28 : decode cX0_billLines 28 = .ok (.getfield 19, 3) := by decide +kernel
theorem dX0_billLines_31 : decode cX0_billLines 31 = .ok (.iload_n 2, 1) := by decide +kernel
theorem dX0_billLines_32 : decode cX0_billLines 32 = .ok (.aload_n 0, 1) := by decide +kernel
theorem dX0_billLines_33 : decode cX0_billLines 33 = .ok (.getfield 13, 3) := by decide +kernel
theorem dX0_billLines_36 : decode cX0_billLines 36 = .ok (.iload_n 2, 1) := by decide +kernel
theorem dX0_billLines_37 : decode cX0_billLines 37 = .ok (.iaload, 1) := by decide +kernel
theorem dX0_billLines_38 : decode cX0_billLines 38 = .ok (.iastore, 1) := by decide +kernel
theorem dX0_billLines_39 : decode cX0_billLines 39 = .ok (.iinc 2 1, 3) := by decide +kernel
theorem dX0_billLines_42 : decode cX0_billLines 42 = .ok (.goto (-35), 3) := by decide +kernel
theorem dX0_billLines_45 : decode cX0_billLines 45 = .ok (.return_, 1) := by decide +kernel
theorem dX0_waiversGiven_0 : decode cX0_waiversGiven 0 = .ok (.iconst 0, 1) := by decide +kernel
theorem dX0_waiversGiven_1 : decode cX0_waiversGiven 1 = .ok (.istore_n 1, 1) := by decide +kernel
theorem dX0_waiversGiven_2 : decode cX0_waiversGiven 2 = .ok (.iconst 0, 1) := by decide +kernel
theorem dX0_waiversGiven_3 : decode cX0_waiversGiven 3 = .ok (.istore_n 2, 1) := by decide +kernel
theorem dX0_waiversGiven_4 : decode cX0_waiversGiven 4 = .ok (.iload_n 2, 1) := by decide +kernel
theorem dX0_waiversGiven_5 : decode cX0_waiversGiven 5 = .ok (.aload_n 0, 1) := by decide +kernel
theorem dX0_waiversGiven_6 : decode cX0_waiversGiven 6 = .ok (.getfield 115, 3) := by decide +kernel
theorem dX0_waiversGiven_9 : decode cX0_waiversGiven 9 = .ok (.if_icmp .ge 22, 3) := by decide +kernel
theorem dX0_waiversGiven_12 : decode cX0_waiversGiven 12 = .ok (.aload_n 0, 1) := by decide +kernel
theorem dX0_waiversGiven_13 : decode cX0_waiversGiven 13 = .ok (.getfield 31, 3) := by decide +kernel
theorem dX0_waiversGiven_16 : decode cX0_waiversGiven 16 = .ok (.iload_n 2, 1) := by decide +kernel
theorem dX0_waiversGiven_17 : decode cX0_waiversGiven 17 = .ok (.iaload, 1) := by decide +kernel
theorem dX0_waiversGiven_18 : decode cX0_waiversGiven 18 = .ok (.iconst 2, 1) := by decide +kernel
theorem dX0_waiversGiven_19 : decode cX0_waiversGiven 19 = .ok (.if_icmp .ne 6, 3) := by decide +kernel
theorem dX0_waiversGiven_22 : decode cX0_waiversGiven 22 = .ok (.iinc 1 1, 3) := by decide +kernel
theorem dX0_waiversGiven_25 : decode cX0_waiversGiven 25 = .ok (.iinc 2 1, 3) := by decide +kernel
theorem dX0_waiversGiven_28 : decode cX0_waiversGiven 28 = .ok (.goto (-24), 3) := by decide +kernel
theorem dX0_waiversGiven_31 : decode cX0_waiversGiven 31 = .ok (.iload_n 1, 1) := by decide +kernel
theorem dX0_waiversGiven_32 : decode cX0_waiversGiven 32 = .ok (.ireturn, 1) := by decide +kernel
set_option maxRecDepth 20000 in
theorem ggX0_placeByShare_X0_isAhead : GoodIn wsX0_placeByShare wsX0_isAhead := goodIn_r _ [6, 7, 8, 9, 10, 5, 11, 12, 13, 14, 15, 16, 17, 18, 19, 20, 21, 22, 23, 24, 25, 26, 27, 28, 29, 30, 31] (by decide +kernel) (by decide +kernel)
set_option maxRecDepth 20000 in
theorem gX0_placeByShare_X0_isAhead : GoodIn wsX0_placeByShare (wsV RX0 168 RX0 yX0_isAhead wsX0_isAhead) := goodIn_app (goodIn_of _ (by decide +kernel)) ggX0_placeByShare_X0_isAhead
theorem dX0_placeByShare_0 : decode cX0_placeByShare 0 = .ok (.iconst 0, 1) := by decide +kernel
theorem dX0_placeByShare_1 : decode cX0_placeByShare 1 = .ok (.istore_n 2, 1) := by decide +kernel
theorem dX0_placeByShare_2 : decode cX0_placeByShare 2 = .ok (.iconst 0, 1) := by decide +kernel
theorem dX0_placeByShare_3 : decode cX0_placeByShare 3 = .ok (.istore_n 3, 1) := by decide +kernel
theorem dX0_placeByShare_4 : decode cX0_placeByShare 4 = .ok (.iload_n 3, 1) := by decide +kernel
theorem dX0_placeByShare_5 : decode cX0_placeByShare 5 = .ok (.aload_n 0, 1) := by decide +kernel
theorem dX0_placeByShare_6 : decode cX0_placeByShare 6 = .ok (.getfield 55, 3) := by decide +kernel
theorem dX0_placeByShare_9 : decode cX0_placeByShare 9 = .ok (.if_icmp .ge 21, 3) := by decide +kernel
theorem dX0_placeByShare_12 : decode cX0_placeByShare 12 = .ok (.aload_n 0, 1) := by decide +kernel
theorem dX0_placeByShare_13 : decode cX0_placeByShare 13 = .ok (.iload_n 3, 1) := by decide +kernel
theorem dX0_placeByShare_14 : decode cX0_placeByShare 14 = .ok (.iload_n 1, 1) := by decide +kernel
theorem dX0_placeByShare_15 : decode cX0_placeByShare 15 = .ok (.invokevirtual 168, 3) := by decide +kernel
theorem dX0_placeByShare_18 : decode cX0_placeByShare 18 = .ok (.ifCond .eq 6, 3) := by decide +kernel
theorem dX0_placeByShare_21 : decode cX0_placeByShare 21 = .ok (.iinc 2 1, 3) := by decide +kernel
theorem dX0_placeByShare_24 : decode cX0_placeByShare 24 = .ok (.iinc 3 1, 3) := by decide +kernel
theorem dX0_placeByShare_27 : decode cX0_placeByShare 27 = .ok (.goto (-23), 3) := by decide +kernel
theorem dX0_placeByShare_30 : decode cX0_placeByShare 30 = .ok (.iload_n 2, 1) := by decide +kernel
theorem dX0_placeByShare_31 : decode cX0_placeByShare 31 = .ok (.ireturn, 1) := by decide +kernel
set_option maxRecDepth 20000 in
theorem ggX0_isAhead_X0_shareDivisor : GoodIn wsX0_isAhead wsX0_shareDivisor := goodIn_r _ [6, 7, 8, 9, 10, 11, 12, 13, 14, 15, 16, 17, 18, 19, 20, 21, 22, 23, 24, 25, 26] (by decide +kernel) (by decide +kernel)
set_option maxRecDepth 20000 in
theorem gX0_isAhead_X0_shareDivisor : GoodIn wsX0_isAhead (wsV RX0 172 RX0 yX0_shareDivisor wsX0_shareDivisor) := goodIn_app (goodIn_of _ (by decide +kernel)) ggX0_isAhead_X0_shareDivisor
theorem dX0_isAhead_0 : decode cX0_isAhead 0 = .ok (.aload_n 0, 1) := by decide +kernel
theorem dX0_isAhead_1 : decode cX0_isAhead 1 = .ok (.getfield 16, 3) := by decide +kernel
theorem dX0_isAhead_4 : decode cX0_isAhead 4 = .ok (.iload_n 1, 1) := by decide +kernel
theorem dX0_isAhead_5 : decode cX0_isAhead 5 = .ok (.iaload, 1) := by decide +kernel
theorem dX0_isAhead_6 : decode cX0_isAhead 6 = .ok (.i2l, 1) := by decide +kernel
theorem dX0_isAhead_7 : decode cX0_isAhead 7 = .ok (.aload_n 0, 1) := by decide +kernel
theorem dX0_isAhead_8 : decode cX0_isAhead 8 = .ok (.iload_n 2, 1) := by decide +kernel
theorem dX0_isAhead_9 : decode cX0_isAhead 9 = .ok (.invokevirtual 172, 3) := by decide +kernel
theorem dX0_isAhead_12 : decode cX0_isAhead 12 = .ok (.i2l, 1) := by decide +kernel
theorem dX0_isAhead_13 : decode cX0_isAhead 13 = .ok (.lmul, 1) := by decide +kernel
theorem dX0_isAhead_14 : decode cX0_isAhead 14 = .ok (.lstore_n 3, 1) := by decide +kernel
theorem dX0_isAhead_15 : decode cX0_isAhead 15 = .ok (.aload_n 0, 1) := by decide +kernel
theorem dX0_isAhead_16 : decode cX0_isAhead 16 = .ok (.getfield 16, 3) := by decide +kernel
theorem dX0_isAhead_19 : decode cX0_isAhead 19 = .ok (.iload_n 2, 1) := by decide +kernel
theorem dX0_isAhead_20 : decode cX0_isAhead 20 = .ok (.iaload, 1) := by decide +kernel
theorem dX0_isAhead_21 : decode cX0_isAhead 21 = .ok (.i2l, 1) := by decide +kernel
theorem dX0_isAhead_22 : decode cX0_isAhead 22 = .ok (.aload_n 0, 1) := by decide +kernel
theorem dX0_isAhead_23 : decode cX0_isAhead 23 = .ok (.iload_n 1, 1) := by decide +kernel
theorem dX0_isAhead_24 : decode cX0_isAhead 24 = .ok (.invokevirtual 172, 3) := by decide +kernel
theorem dX0_isAhead_27 : decode cX0_isAhead 27 = .ok (.i2l, 1) := by decide +kernel
theorem dX0_isAhead_28 : decode cX0_isAhead 28 = .ok (.lmul, 1) := by decide +kernel
theorem dX0_isAhead_29 : decode cX0_isAhead 29 = .ok (.lstore 5, 2) := by decide +kernel
theorem dX0_isAhead_31 : decode cX0_isAhead 31 = .ok (.lload_n 3, 1) := by decide +kernel
theorem dX0_isAhead_32 : decode cX0_isAhead 32 = .ok (.lload 5, 2) := by decide +kernel
theorem dX0_isAhead_34 : decode cX0_isAhead 34 = .ok (.lcmp, 1) := by decide +kernel
theorem dX0_isAhead_35 : decode cX0_isAhead 35 = .ok (.ifCond .gt 15, 3) := by decide +kernel
theorem dX0_isAhead_38 : decode cX0_isAhead 38 = .ok (.lload_n 3, 1) := by decide +kernel
theorem dX0_isAhead_39 : decode cX0_isAhead 39 = .ok (.lload 5, 2) := by decide +kernel
theorem dX0_isAhead_41 : decode cX0_isAhead 41 = .ok (.lcmp, 1) := by decide +kernel
theorem dX0_isAhead_42 : decode cX0_isAhead 42 = .ok (.ifCond .ne 12, 3) := by decide +kernel
theorem dX0_isAhead_45 : decode cX0_isAhead 45 = .ok (.iload_n 1, 1) := by decide +kernel
theorem dX0_isAhead_46 : decode cX0_isAhead 46 = .ok (.iload_n 2, 1) := by decide +kernel
theorem dX0_isAhead_47 : decode cX0_isAhead 47 = .ok (.if_icmp .ge 7, 3) := by decide +kernel
theorem dX0_isAhead_50 : decode cX0_isAhead 50 = .ok (.iconst 1, 1) := by decide +kernel
theorem dX0_isAhead_51 : decode cX0_isAhead 51 = .ok (.goto 4, 3) := by decide +kernel
theorem dX0_isAhead_54 : decode cX0_isAhead 54 = .ok (.iconst 0, 1) := by decide +kernel
theorem dX0_isAhead_55 : decode cX0_isAhead 55 = .ok (.ireturn, 1) := by decide +kernel
theorem dX0_shareDivisor_0 : decode cX0_shareDivisor 0 = .ok (.aload_n 0, 1) := by decide +kernel
theorem dX0_shareDivisor_1 : decode cX0_shareDivisor 1 = .ok (.getfield 9, 3) := by decide +kernel
theorem dX0_shareDivisor_4 : decode cX0_shareDivisor 4 = .ok (.iload_n 1, 1) := by decide +kernel
theorem dX0_shareDivisor_5 : decode cX0_shareDivisor 5 = .ok (.iaload, 1) := by decide +kernel
theorem dX0_shareDivisor_6 : decode cX0_shareDivisor 6 = .ok (.iconst 1, 1) := by decide +kernel
theorem dX0_shareDivisor_7 : decode cX0_shareDivisor 7 = .ok (.invokestatic 175, 3) := by decide +kernel
theorem dX0_shareDivisor_10 : decode cX0_shareDivisor 10 = .ok (.ireturn, 1) := by decide +kernel
theorem dX0_sum_0 : decode cX0_sum 0 = .ok (.iconst 0, 1) := by decide +kernel
theorem dX0_sum_1 : decode cX0_sum 1 = .ok (.istore_n 2, 1) := by decide +kernel
theorem dX0_sum_2 : decode cX0_sum 2 = .ok (.iconst 0, 1) := by decide +kernel
theorem dX0_sum_3 : decode cX0_sum 3 = .ok (.istore_n 3, 1) := by decide +kernel
theorem dX0_sum_4 : decode cX0_sum 4 = .ok (.iload_n 3, 1) := by decide +kernel
theorem dX0_sum_5 : decode cX0_sum 5 = .ok (.iload_n 1, 1) := by decide +kernel
theorem dX0_sum_6 : decode cX0_sum 6 = .ok (.if_icmp .ge 15, 3) := by decide +kernel
theorem dX0_sum_9 : decode cX0_sum 9 = .ok (.iload_n 2, 1) := by decide +kernel
theorem dX0_sum_10 : decode cX0_sum 10 = .ok (.aload_n 0, 1) := by decide +kernel
theorem dX0_sum_11 : decode cX0_sum 11 = .ok (.iload_n 3, 1) := by decide +kernel
theorem dX0_sum_12 : decode cX0_sum 12 = .ok (.iaload, 1) := by decide +kernel
theorem dX0_sum_13 : decode cX0_sum 13 = .ok (.iadd, 1) := by decide +kernel
theorem dX0_sum_14 : decode cX0_sum 14 = .ok (.istore_n 2, 1) := by decide +kernel
theorem dX0_sum_15 : decode cX0_sum 15 = .ok (.iinc 3 1, 3) := by decide +kernel
theorem dX0_sum_18 : decode cX0_sum 18 = .ok (.goto (-14), 3) := by decide +kernel
theorem dX0_sum_21 : decode cX0_sum 21 = .ok (.iload_n 2, 1) := by decide +kernel
theorem dX0_sum_22 : decode cX0_sum 22 = .ok (.ireturn, 1) := by decide +kernel
set_option maxRecDepth 20000 in
theorem ggX0_thousandths_J9_floorDiv_f86c9 : GoodIn wsX0_thousandths wsJ9_floorDiv_f86c9 := goodIn_r _ [6] (by decide +kernel) (by decide +kernel)
set_option maxRecDepth 20000 in
theorem gX0_thousandths_J9_floorDiv_f86c9 : GoodIn wsX0_thousandths (va_wsS RX0 184 yJ9_floorDiv_f86c9 wsJ9_floorDiv_f86c9) := goodIn_app (goodIn_of _ (by decide +kernel)) ggX0_thousandths_J9_floorDiv_f86c9
theorem dX0_thousandths_0 : decode cX0_thousandths 0 = .ok (.iload_n 0, 1) := by decide +kernel
theorem dX0_thousandths_1 : decode cX0_thousandths 1 = .ok (.i2l, 1) := by decide +kernel
theorem dX0_thousandths_2 : decode cX0_thousandths 2 = .ok (.iload_n 1, 1) := by decide +kernel
theorem dX0_thousandths_3 : decode cX0_thousandths 3 = .ok (.i2l, 1) := by decide +kernel
theorem dX0_thousandths_4 : decode cX0_thousandths 4 = .ok (.lmul, 1) := by decide +kernel
theorem dX0_thousandths_5 : decode cX0_thousandths 5 = .ok (.ldc2_w 180, 3) := by decide +kernel
theorem dX0_thousandths_8 : decode cX0_thousandths 8 = .ok (.ladd, 1) := by decide +kernel
theorem dX0_thousandths_9 : decode cX0_thousandths 9 = .ok (.ldc2_w 182, 3) := by decide +kernel
theorem dX0_thousandths_12 : decode cX0_thousandths 12 = .ok (.invokestatic 184, 3) := by decide +kernel
theorem dX0_thousandths_15 : decode cX0_thousandths 15 = .ok (.l2i, 1) := by decide +kernel
theorem dX0_thousandths_16 : decode cX0_thousandths 16 = .ok (.ireturn, 1) := by decide +kernel
set_option maxRecDepth 20000 in
theorem ggX0_scaledDown_J9_floorDiv_f86c9 : GoodIn wsX0_scaledDown wsJ9_floorDiv_f86c9 := goodIn_r _ [4] (by decide +kernel) (by decide +kernel)
set_option maxRecDepth 20000 in
theorem gX0_scaledDown_J9_floorDiv_f86c9 : GoodIn wsX0_scaledDown (va_wsS RX0 184 yJ9_floorDiv_f86c9 wsJ9_floorDiv_f86c9) := goodIn_app (goodIn_of _ (by decide +kernel)) ggX0_scaledDown_J9_floorDiv_f86c9
theorem dX0_scaledDown_0 : decode cX0_scaledDown 0 = .ok (.iload_n 2, 1) := by decide +kernel
theorem dX0_scaledDown_1 : decode cX0_scaledDown 1 = .ok (.ifCond .ne 5, 3) := by decide +kernel
theorem dX0_scaledDown_4 : decode cX0_scaledDown 4 = .ok (.iconst 0, 1) := by decide +kernel
theorem dX0_scaledDown_5 : decode cX0_scaledDown 5 = .ok (.ireturn, 1) := by decide +kernel
theorem dX0_scaledDown_6 : decode cX0_scaledDown 6 = .ok (.iload_n 0, 1) := by decide +kernel
theorem dX0_scaledDown_7 : decode cX0_scaledDown 7 = .ok (.i2l, 1) := by decide +kernel
theorem dX0_scaledDown_8 : decode cX0_scaledDown 8 = .ok (.iload_n 1, 1) := by decide +kernel
theorem dX0_scaledDown_9 : decode cX0_scaledDown 9 = .ok (.i2l, 1) := by decide +kernel
theorem dX0_scaledDown_10 : decode cX0_scaledDown 10 = .ok (.lmul, 1) := by decide +kernel
theorem dX0_scaledDown_11 : decode cX0_scaledDown 11 = .ok (.iload_n 2, 1) := by decide +kernel
theorem dX0_scaledDown_12 : decode cX0_scaledDown 12 = .ok (.i2l, 1) := by decide +kernel
theorem dX0_scaledDown_13 : decode cX0_scaledDown 13 = .ok (.invokestatic 184, 3) := by decide +kernel
theorem dX0_scaledDown_16 : decode cX0_scaledDown 16 = .ok (.l2i, 1) := by decide +kernel
theorem dX0_scaledDown_17 : decode cX0_scaledDown 17 = .ok (.ireturn, 1) := by decide +kernel
end
section
theorem dX1_init_0 : decode cX1_init 0 = .ok (.aload_n 0, 1) := by decide +kernel
theorem dX1_init_1 : decode cX1_init 1 = .ok (.invokespecial 1, 3) := by decide +kernel
theorem dX1_init_4 : decode cX1_init 4 = .ok (.aload_n 0, 1) := by decide +kernel
theorem dX1_init_5 : decode cX1_init 5 = .ok (.bipush 16, 2) := by decide +kernel
theorem dX1_init_7 : decode cX1_init 7 = .ok (.newarray .int, 2) := by decide +kernel
theorem dX1_init_9 : decode cX1_init 9 = .ok (.putfield 7, 3) := by decide +kernel
theorem dX1_init_12 : decode cX1_init 12 = .ok (.aload_n 0, 1) := by decide +kernel
theorem dX1_init_13 : decode cX1_init 13 = .ok (.bipush 16, 2) := by decide +kernel
theorem dX1_init_15 : decode cX1_init 15 = .ok (.newarray .int, 2) := by decide +kernel
theorem dX1_init_17 : decode cX1_init 17 = .ok (.putfield 13, 3) := by decide +kernel
theorem dX1_init_20 : decode cX1_init 20 = .ok (.aload_n 0, 1) := by decide +kernel
theorem dX1_init_21 : decode cX1_init 21 = .ok (.bipush 16, 2) := by decide +kernel
theorem dX1_init_23 : decode cX1_init 23 = .ok (.newarray .int, 2) := by decide +kernel
theorem dX1_init_25 : decode cX1_init 25 = .ok (.putfield 16, 3) := by decide +kernel
theorem dX1_init_28 : decode cX1_init 28 = .ok (.aload_n 0, 1) := by decide +kernel
theorem dX1_init_29 : decode cX1_init 29 = .ok (.bipush 16, 2) := by decide +kernel
theorem dX1_init_31 : decode cX1_init 31 = .ok (.newarray .int, 2) := by decide +kernel
theorem dX1_init_33 : decode cX1_init 33 = .ok (.putfield 19, 3) := by decide +kernel
theorem dX1_init_36 : decode cX1_init 36 = .ok (.aload_n 0, 1) := by decide +kernel
theorem dX1_init_37 : decode cX1_init 37 = .ok (.bipush 16, 2) := by decide +kernel
theorem dX1_init_39 : decode cX1_init 39 = .ok (.newarray .int, 2) := by decide +kernel
theorem dX1_init_41 : decode cX1_init 41 = .ok (.putfield 22, 3) := by decide +kernel
theorem dX1_init_44 : decode cX1_init 44 = .ok (.aload_n 0, 1) := by decide +kernel
theorem dX1_init_45 : decode cX1_init 45 = .ok (.sipush 1001, 3) := by decide +kernel
theorem dX1_init_48 : decode cX1_init 48 = .ok (.newarray .int, 2) := by decide +kernel
theorem dX1_init_50 : decode cX1_init 50 = .ok (.putfield 25, 3) := by decide +kernel
theorem dX1_init_53 : decode cX1_init 53 = .ok (.aload_n 0, 1) := by decide +kernel
theorem dX1_init_54 : decode cX1_init 54 = .ok (.bipush 60, 2) := by decide +kernel
theorem dX1_init_56 : decode cX1_init 56 = .ok (.newarray .int, 2) := by decide +kernel
theorem dX1_init_58 : decode cX1_init 58 = .ok (.putfield 28, 3) := by decide +kernel
theorem dX1_init_61 : decode cX1_init 61 = .ok (.aload_n 0, 1) := by decide +kernel
theorem dX1_init_62 : decode cX1_init 62 = .ok (.bipush 60, 2) := by decide +kernel
theorem dX1_init_64 : decode cX1_init 64 = .ok (.newarray .int, 2) := by decide +kernel
theorem dX1_init_66 : decode cX1_init 66 = .ok (.putfield 31, 3) := by decide +kernel
theorem dX1_init_69 : decode cX1_init 69 = .ok (.aload_n 0, 1) := by decide +kernel
theorem dX1_init_70 : decode cX1_init 70 = .ok (.bipush 60, 2) := by decide +kernel
theorem dX1_init_72 : decode cX1_init 72 = .ok (.newarray .int, 2) := by decide +kernel
theorem dX1_init_74 : decode cX1_init 74 = .ok (.putfield 34, 3) := by decide +kernel
theorem dX1_init_77 : decode cX1_init 77 = .ok (.aload_n 0, 1) := by decide +kernel
theorem dX1_init_78 : decode cX1_init 78 = .ok (.bipush 60, 2) := by decide +kernel
theorem dX1_init_80 : decode cX1_init 80 = .ok (.newarray .int, 2) := by decide +kernel
theorem dX1_init_82 : decode cX1_init 82 = .ok (.putfield 37, 3) := by decide +kernel
theorem dX1_init_85 : decode cX1_init 85 = .ok (.iconst 0, 1) := by decide +kernel
theorem dX1_init_86 : decode cX1_init 86 = .ok (.istore_n 1, 1) := by decide +kernel
theorem dX1_init_87 : decode cX1_init 87 = .ok (.iload_n 1, 1) := by decide +kernel
theorem dX1_init_88 : decode cX1_init 88 = .ok (.sipush 1000, 3) := by decide +kernel
theorem dX1_init_91 : decode cX1_init 91 = .ok (.if_icmp .gt 25, 3) := by decide +kernel
theorem dX1_init_94 : decode cX1_init 94 = .ok (.aload_n 0, 1) := by decide +kernel
theorem dX1_init_95 : decode cX1_init 95 = .ok (.getfield 25, 3) := by decide +kernel
theorem dX1_init_98 : decode cX1_init 98 = .ok (.iload_n 1, 1) := by decide +kernel
theorem dX1_init_99 : decode cX1_init 99 = .ok (.iload_n 1, 1) := by decide +kernel
theorem dX1_init_100 : decode cX1_init 100 = .ok (.ifCond .ne 8, 3) := by decide +kernel
theorem dX1_init_103 : decode cX1_init 103 = .ok (.bipush 100, 2) := by decide +kernel
theorem dX1_init_105 : decode cX1_init 105 = .ok (.goto 4, 3) := by decide +kernel
theorem dX1_init_108 : decode cX1_init 108 = .ok (.iconst (-1), 1) := by decide +kernel
theorem dX1_init_109 : decode cX1_init 109 = .ok (.iastore, 1) := by decide +kernel
theorem dX1_init_110 : decode cX1_init 110 = .ok (.iinc 1 1, 3) := by decide +kernel
theorem dX1_init_113 : decode cX1_init 113 = .ok (.goto (-26), 3) := by decide +kernel
theorem dX1_init_116 : decode cX1_init 116 = .ok (.return_, 1) := by decide +kernel
theorem dX1_thrown_0 : decode cX1_thrown 0 = .ok (.aload_n 0, 1) := by decide +kernel
theorem dX1_thrown_1 : decode cX1_thrown 1 = .ok (.getfield 40, 3) := by decide +kernel
theorem dX1_thrown_4 : decode cX1_thrown 4 = .ok (.ireturn, 1) := by decide +kernel
theorem dX1_refused_0 : decode cX1_refused 0 = .ok (.aload_n 0, 1) := by decide +kernel
theorem dX1_refused_1 : decode cX1_refused 1 = .ok (.iload_n 1, 1) := by decide +kernel
theorem dX1_refused_2 : decode cX1_refused 2 = .ok (.putfield 40, 3) := by decide +kernel
theorem dX1_refused_5 : decode cX1_refused 5 = .ok (.iload_n 1, 1) := by decide +kernel
theorem dX1_refused_6 : decode cX1_refused 6 = .ok (.ifCond .eq 7, 3) := by decide +kernel
theorem dX1_refused_9 : decode cX1_refused 9 = .ok (.iconst 1, 1) := by decide +kernel
theorem dX1_refused_10 : decode cX1_refused 10 = .ok (.goto 4, 3) := by decide +kernel
theorem dX1_refused_13 : decode cX1_refused 13 = .ok (.iconst 0, 1) := by decide +kernel
theorem dX1_refused_14 : decode cX1_refused 14 = .ok (.ireturn, 1) := by decide +kernel
theorem dX1_fine_0 : decode cX1_fine 0 = .ok (.aload_n 0, 1) := by decide +kernel
theorem dX1_fine_1 : decode cX1_fine 1 = .ok (.iconst 0, 1) := by decide +kernel
theorem dX1_fine_2 : decode cX1_fine 2 = .ok (.putfield 40, 3) := by decide +kernel
theorem dX1_fine_5 : decode cX1_fine 5 = .ok (.iload_n 1, 1) := by decide +kernel
theorem dX1_fine_6 : decode cX1_fine 6 = .ok (.ireturn, 1) := by decide +kernel
theorem dX1_in_0 : decode cX1_in 0 = .ok (.iload_n 0, 1) := by decide +kernel
theorem dX1_in_1 : decode cX1_in 1 = .ok (.iload_n 1, 1) := by decide +kernel
theorem dX1_in_2 : decode cX1_in 2 = .ok (.if_icmp .lt 12, 3) := by decide +kernel
theorem dX1_in_5 : decode cX1_in 5 = .ok (.iload_n 0, 1) := by decide +kernel
theorem dX1_in_6 : decode cX1_in 6 = .ok (.iload_n 2, 1) := by decide +kernel
theorem dX1_in_7 : decode cX1_in 7 = .ok (.if_icmp .gt 7, 3) := by decide +kernel
theorem dX1_in_10 : decode cX1_in 10 = .ok (.iconst 1, 1) := by decide +kernel
theorem dX1_in_11 : decode cX1_in 11 = .ok (.goto 4, 3) := by decide +kernel
theorem dX1_in_14 : decode cX1_in 14 = .ok (.iconst 0, 1) := by decide +kernel
theorem dX1_in_15 : decode cX1_in 15 = .ok (.ireturn, 1) := by decide +kernel
set_option maxRecDepth 20000 in
theorem ggX1_isLine_X1_in : GoodIn wsX1_isLine wsX1_in := goodIn_r _ [5] (by decide +kernel) (by decide +kernel)
set_option maxRecDepth 20000 in
theorem gX1_isLine_X1_in : GoodIn wsX1_isLine (va_wsS RX1 47 yX1_in wsX1_in) := goodIn_app (goodIn_of _ (by decide +kernel)) ggX1_isLine_X1_in
theorem dX1_isLine_0 : decode cX1_isLine 0 = .ok (.iload_n 1, 1) := by decide +kernel
theorem dX1_isLine_1 : decode cX1_isLine 1 = .ok (.iconst 0, 1) := by decide +kernel
theorem dX1_isLine_2 : decode cX1_isLine 2 = .ok (.aload_n 0, 1) := by decide +kernel
theorem dX1_isLine_3 : decode cX1_isLine 3 = .ok (.getfield 44, 3) := by decide +kernel
theorem dX1_isLine_6 : decode cX1_isLine 6 = .ok (.iconst 1, 1) := by decide +kernel
theorem dX1_isLine_7 : decode cX1_isLine 7 = .ok (.isub, 1) := by decide +kernel
theorem dX1_isLine_8 : decode cX1_isLine 8 = .ok (.invokestatic 47, 3) := by decide +kernel
theorem dX1_isLine_11 : decode cX1_isLine 11 = .ok (.ireturn, 1) := by decide +kernel
theorem dX1_thousandths_0 : decode cX1_thousandths 0 = .ok (.iload_n 0, 1) := by decide +kernel
theorem dX1_thousandths_1 : decode cX1_thousandths 1 = .ok (.i2l, 1) := by decide +kernel
theorem dX1_thousandths_2 : decode cX1_thousandths 2 = .ok (.iload_n 1, 1) := by decide +kernel
theorem dX1_thousandths_3 : decode cX1_thousandths 3 = .ok (.i2l, 1) := by decide +kernel
theorem dX1_thousandths_4 : decode cX1_thousandths 4 = .ok (.lmul, 1) := by decide +kernel
theorem dX1_thousandths_5 : decode cX1_thousandths 5 = .ok (.ldc2_w 51, 3) := by decide +kernel
theorem dX1_thousandths_8 : decode cX1_thousandths 8 = .ok (.ladd, 1) := by decide +kernel
theorem dX1_thousandths_9 : decode cX1_thousandths 9 = .ok (.ldc2_w 53, 3) := by decide +kernel
theorem dX1_thousandths_12 : decode cX1_thousandths 12 = .ok (.ldiv, 1) := by decide +kernel
theorem dX1_thousandths_13 : decode cX1_thousandths 13 = .ok (.l2i, 1) := by decide +kernel
theorem dX1_thousandths_14 : decode cX1_thousandths 14 = .ok (.ireturn, 1) := by decide +kernel
set_option maxRecDepth 20000 in
theorem ggX1_addLine_X1_in : GoodIn wsX1_addLine wsX1_in := goodIn_r _ [6] (by decide +kernel) (by decide +kernel)
set_option maxRecDepth 20000 in
theorem gX1_addLine_X1_in : GoodIn wsX1_addLine (va_wsS RX1 47 yX1_in wsX1_in) := goodIn_app (goodIn_of _ (by decide +kernel)) ggX1_addLine_X1_in
set_option maxRecDepth 20000 in
theorem ggX1_addLine_X1_refused : GoodIn wsX1_addLine wsX1_refused := goodIn_r _ [10, 11, 21, 22, 23, 24, 25, 26, 27, 28, 29, 30, 31, 32, 33, 34] (by decide +kernel) (by decide +kernel)
set_option maxRecDepth 20000 in
theorem gX1_addLine_X1_refused : GoodIn wsX1_addLine (wsV RX1 56 RX1 yX1_refused wsX1_refused) := goodIn_app (goodIn_of _ (by decide +kernel)) ggX1_addLine_X1_refused
set_option maxRecDepth 20000 in
theorem ggX1_addLine_X1_put : GoodIn wsX1_addLine wsX1_put := goodIn_r _ [15, 16, 17, 18, 19, 20, 21, 22, 23, 24, 25, 26, 27, 28, 29, 30, 31, 32, 33, 34] (by decide +kernel) (by decide +kernel)
set_option maxRecDepth 20000 in
theorem gX1_addLine_X1_put : GoodIn wsX1_addLine (wsV RX1 60 RX1 yX1_put wsX1_put) := goodIn_app (goodIn_of _ (by decide +kernel)) ggX1_addLine_X1_put
theorem dX1_addLine_0 : decode cX1_addLine 0 = .ok (.aload_n 0, 1) := by decide +kernel
theorem dX1_addLine_1 : decode cX1_addLine 1 = .ok (.iload_n 1, 1) := by decide +kernel
theorem dX1_addLine_2 : decode cX1_addLine 2 = .ok (.iconst 0, 1) := by decide +kernel
theorem dX1_addLine_3 : decode cX1_addLine 3 = .ok (.ldc 55, 2) := by decide +kernel
theorem dX1_addLine_5 : decode cX1_addLine 5 = .ok (.invokestatic 47, 3) := by decide +kernel
theorem dX1_addLine_8 : decode cX1_addLine 8 = .ok (.ifCond .ne 7, 3) := by decide +kernel
theorem dX1_addLine_11 : decode cX1_addLine 11 = .ok (.iconst 1, 1) := by decide +kernel
theorem dX1_addLine_12 : decode cX1_addLine 12 = .ok (.goto 17, 3) := by decide +kernel
theorem dX1_addLine_15 : decode cX1_addLine 15 = .ok (.aload_n 0, 1) := by decide +kernel
theorem dX1_addLine_16 : decode cX1_addLine 16 = .ok (.getfield 44, 3) := by decide +kernel
theorem dX1_addLine_19 : decode cX1_addLine 19 = .ok (.bipush 16, 2) := by decide +kernel
theorem dX1_addLine_21 : decode cX1_addLine 21 = .ok (.if_icmp .ne 7, 3) := by decide +kernel
theorem dX1_addLine_24 : decode cX1_addLine 24 = .ok (.iconst 2, 1) := by decide +kernel
theorem dX1_addLine_25 : decode cX1_addLine 25 = .ok (.goto 4, 3) := by decide +kernel
theorem dX1_addLine_28 : decode cX1_addLine 28 = .ok (.iconst 0, 1) := by decide +kernel
theorem dX1_addLine_29 : decode cX1_addLine 29 = .ok (.invokevirtual 56, 3) := by decide +kernel
theorem dX1_addLine_32 : decode cX1_addLine 32 = .ok (.ifCond .eq 5, 3) := by decide +kernel
theorem dX1_addLine_35 : decode cX1_addLine 35 = .ok (.iconst 0, 1) := by decide +kernel
theorem dX1_addLine_36 : decode cX1_addLine 36 = .ok (.ireturn, 1) := by decide +kernel
theorem dX1_addLine_37 : decode cX1_addLine 37 = .ok (.aload_n 0, 1) := by decide +kernel
theorem dX1_addLine_38 : decode cX1_addLine 38 = .ok (.aload_n 0, 1) := by decide +kernel
theorem dX1_addLine_39 : decode cX1_addLine 39 = .ok (.getfield 44, 3) := by decide +kernel
theorem dX1_addLine_42 : decode cX1_addLine 42 = .ok (.iload_n 1, 1) := by decide +kernel
theorem dX1_addLine_43 : decode cX1_addLine 43 = .ok (.iconst 0, 1) := by decide +kernel
theorem dX1_addLine_44 : decode cX1_addLine 44 = .ok (.iconst 0, 1) := by decide +kernel
theorem dX1_addLine_45 : decode cX1_addLine 45 = .ok (.iconst 0, 1) := by decide +kernel
theorem dX1_addLine_46 : decode cX1_addLine 46 = .ok (.iconst 0, 1) := by decide +kernel
theorem dX1_addLine_47 : decode cX1_addLine 47 = .ok (.invokevirtual 60, 3) := by decide +kernel
theorem dX1_addLine_50 : decode cX1_addLine 50 = .ok (.aload_n 0, 1) := by decide +kernel
theorem dX1_addLine_51 : decode cX1_addLine 51 = .ok (.dup, 1) := by decide +kernel
theorem dX1_addLine_52 : decode cX1_addLine 52 = .ok (.getfield 44, 3) := by decide +kernel
theorem dX1_addLine_55 : decode cX1_addLine 55 = .ok (.iconst 1, 1) := by decide +kernel
theorem dX1_addLine_56 : decode cX1_addLine 56 = .ok (.iadd, 1) := by decide +kernel
theorem dX1_addLine_57 : decode cX1_addLine 57 = .ok (.putfield 44, 3) := by decide +kernel
theorem dX1_addLine_60 : decode cX1_addLine 60 = .ok (.aload_n 0, 1) := by decide +kernel
theorem dX1_addLine_61 : decode cX1_addLine 61 = .ok (.getfield 44, 3) := by decide +kernel
theorem dX1_addLine_64 : decode cX1_addLine 64 = .ok (.iconst 1, 1) := by decide +kernel
theorem dX1_addLine_65 : decode cX1_addLine 65 = .ok (.isub, 1) := by decide +kernel
theorem dX1_addLine_66 : decode cX1_addLine 66 = .ok (.ireturn, 1) := by decide +kernel
theorem dX1_put_0 : decode cX1_put 0 = .ok (.aload_n 0, 1) := by decide +kernel
theorem dX1_put_1 : decode cX1_put 1 = .ok (.getfield 7, 3) := by decide +kernel
theorem dX1_put_4 : decode cX1_put 4 = .ok (.iload_n 1, 1) := by decide +kernel
theorem dX1_put_5 : decode cX1_put 5 = .ok (.iload_n 2, 1) := by decide +kernel
theorem dX1_put_6 : decode cX1_put 6 = .ok (.iastore, 1) := by decide +kernel
theorem dX1_put_7 : decode cX1_put 7 = .ok (.aload_n 0, 1) := by decide +kernel
theorem dX1_put_8 : decode cX1_put 8 = .ok (.getfield 13, 3) := by decide +kernel
theorem dX1_put_11 : decode cX1_put 11 = .ok (.iload_n 1, 1) := by decide +kernel
theorem dX1_put_12 : decode cX1_put 12 = .ok (.iload_n 3, 1) := by decide +kernel
theorem dX1_put_13 : decode cX1_put 13 = .ok (.iastore, 1) := by decide +kernel
theorem dX1_put_14 : decode cX1_put 14 = .ok (.aload_n 0, 1) := by decide +kernel
theorem dX1_put_15 : decode cX1_put 15 = .ok (.getfield 16, 3) := by decide +kernel
theorem dX1_put_18 : decode cX1_put 18 = .ok (.iload_n 1, 1) := by decide +kernel
theorem dX1_put_19 : decode cX1_put 19 = .ok (.iload 4, 2) := by decide +kernel
theorem dX1_put_21 : decode cX1_put 21 = .ok (.iastore, 1) := by decide +kernel
theorem dX1_put_22 : decode cX1_put 22 = .ok (.aload_n 0, 1) := by decide +kernel
theorem dX1_put_23 : decode cX1_put 23 = .ok (.getfield 19, 3) := by decide +kernel
theorem dX1_put_26 : decode cX1_put 26 = .ok (.iload_n 1, 1) := by decide +kernel
theorem dX1_put_27 : decode cX1_put 27 = .ok (.iload 5, 2) := by decide +kernel
theorem dX1_put_29 : decode cX1_put 29 = .ok (.iastore, 1) := by decide +kernel
theorem dX1_put_30 : decode cX1_put 30 = .ok (.aload_n 0, 1) := by decide +kernel
theorem dX1_put_31 : decode cX1_put 31 = .ok (.getfield 22, 3) := by decide +kernel
theorem dX1_put_34 : decode cX1_put 34 = .ok (.iload_n 1, 1) := by decide +kernel
theorem dX1_put_35 : decode cX1_put 35 = .ok (.iload 6, 2) := by decide +kernel
theorem dX1_put_37 : decode cX1_put 37 = .ok (.iastore, 1) := by decide +kernel
theorem dX1_put_38 : decode cX1_put 38 = .ok (.return_, 1) := by decide +kernel
set_option maxRecDepth 20000 in
theorem ggX1_changeValue_X1_isLine : GoodIn wsX1_changeValue wsX1_isLine := goodIn_r _ [8, 9, 10, 11, 7, 12, 18, 19, 20, 21, 22, 23, 24, 25, 26, 27, 28, 29, 30, 31] (by decide +kernel) (by decide +kernel)
set_option maxRecDepth 20000 in
theorem gX1_changeValue_X1_isLine : GoodIn wsX1_changeValue (wsV RX1 64 RX1 yX1_isLine wsX1_isLine) := goodIn_app (goodIn_of _ (by decide +kernel)) ggX1_changeValue_X1_isLine
set_option maxRecDepth 20000 in
theorem ggX1_changeValue_X1_in : GoodIn wsX1_changeValue wsX1_in := goodIn_r _ [12] (by decide +kernel) (by decide +kernel)
set_option maxRecDepth 20000 in
theorem gX1_changeValue_X1_in : GoodIn wsX1_changeValue (va_wsS RX1 47 yX1_in wsX1_in) := goodIn_app (goodIn_of _ (by decide +kernel)) ggX1_changeValue_X1_in
set_option maxRecDepth 20000 in
theorem ggX1_changeValue_X1_refused : GoodIn wsX1_changeValue wsX1_refused := goodIn_r _ [16, 17, 18, 19, 20, 21, 22, 23, 24, 25, 26, 27, 28, 29, 30, 31] (by decide +kernel) (by decide +kernel)
set_option maxRecDepth 20000 in
theorem gX1_changeValue_X1_refused : GoodIn wsX1_changeValue (wsV RX1 56 RX1 yX1_refused wsX1_refused) := goodIn_app (goodIn_of _ (by decide +kernel)) ggX1_changeValue_X1_refused
theorem dX1_changeValue_0 : decode cX1_changeValue 0 = .ok (.aload_n 0, 1) := by decide +kernel
theorem dX1_changeValue_1 : decode cX1_changeValue 1 = .ok (.aload_n 0, 1) := by decide +kernel
theorem dX1_changeValue_2 : decode cX1_changeValue 2 = .ok (.iload_n 1, 1) := by decide +kernel
theorem dX1_changeValue_3 : decode cX1_changeValue 3 = .ok (.invokevirtual 64, 3) := by decide +kernel
theorem dX1_changeValue_6 : decode cX1_changeValue 6 = .ok (.ifCond .ne 7, 3) := by decide +kernel
theorem dX1_changeValue_9 : decode cX1_changeValue 9 = .ok (.iconst 1, 1) := by decide +kernel
theorem dX1_changeValue_10 : decode cX1_changeValue 10 = .ok (.goto 32, 3) := by decide +kernel
theorem dX1_changeValue_13 : decode cX1_changeValue 13 = .ok (.iload_n 2, 1) := by decide +kernel
theorem dX1_changeValue_14 : decode cX1_changeValue 14 = .ok (.iconst 0, 1) := by decide +kernel
theorem dX1_changeValue_15 : decode cX1_changeValue 15 = .ok (.ldc 55, 2) := by decide +kernel
theorem dX1_changeValue_17 : decode cX1_changeValue 17 = .ok (.invokestatic 47, 3) := by decide +kernel
theorem dX1_changeValue_20 : decode cX1_changeValue 20 = .ok (.ifCond .ne 7, 3) := by decide +kernel
theorem dX1_changeValue_23 : decode cX1_changeValue 23 = .ok (.iconst 2, 1) := by decide +kernel
theorem dX1_changeValue_24 : decode cX1_changeValue 24 = .ok (.goto 18, 3) := by decide +kernel
theorem dX1_changeValue_27 : decode cX1_changeValue 27 = .ok (.iload_n 2, 1) := by decide +kernel
theorem dX1_changeValue_28 : decode cX1_changeValue 28 = .ok (.aload_n 0, 1) := by decide +kernel
theorem dX1_changeValue_29 : decode cX1_changeValue 29 = .ok (.getfield 13, 3) := by decide +kernel
theorem dX1_changeValue_32 : decode cX1_changeValue 32 = .ok (.iload_n 1, 1) := by decide +kernel
theorem dX1_changeValue_33 : decode cX1_changeValue 33 = .ok (.iaload, 1) := by decide +kernel
theorem dX1_changeValue_34 : decode cX1_changeValue 34 = .ok (.if_icmp .ge 7, 3) := by decide +kernel
theorem dX1_changeValue_37 : decode cX1_changeValue 37 = .ok (.iconst 3, 1) := by decide +kernel
theorem dX1_changeValue_38 : decode cX1_changeValue 38 = .ok (.goto 4, 3) := by decide +kernel
theorem dX1_changeValue_41 : decode cX1_changeValue 41 = .ok (.iconst 0, 1) := by decide +kernel
theorem dX1_changeValue_42 : decode cX1_changeValue 42 = .ok (.invokevirtual 56, 3) := by decide +kernel
theorem dX1_changeValue_45 : decode cX1_changeValue 45 = .ok (.ifCond .eq 5, 3) := by decide +kernel
theorem dX1_changeValue_48 : decode cX1_changeValue 48 = .ok (.iconst 0, 1) := by decide +kernel
theorem dX1_changeValue_49 : decode cX1_changeValue 49 = .ok (.ireturn, 1) := by decide +kernel
theorem dX1_changeValue_50 : decode cX1_changeValue 50 = .ok (.aload_n 0, 1) := by decide +kernel
theorem dX1_changeValue_51 : decode cX1_changeValue 51 = .ok (.getfield 7, 3) := by decide +kernel
theorem dX1_changeValue_54 : decode cX1_changeValue 54 = .ok (.iload_n 1, 1) := by decide +kernel
theorem dX1_changeValue_55 : decode cX1_changeValue 55 = .ok (.iaload, 1) := by decide +kernel
theorem dX1_changeValue_56 : decode cX1_changeValue 56 = .ok (.istore_n 3, 1) := by decide +kernel
theorem dX1_changeValue_57 : decode cX1_changeValue 57 = .ok (.aload_n 0, 1) := by decide +kernel
theorem dX1_changeValue_58 : decode cX1_changeValue 58 = .ok (.getfield 7, 3) := by decide +kernel
theorem dX1_changeValue_61 : decode cX1_changeValue 61 = .ok (.iload_n 1, 1) := by decide +kernel
theorem dX1_changeValue_62 : decode cX1_changeValue 62 = .ok (.iload_n 2, 1) := by decide +kernel
theorem dX1_changeValue_63 : decode cX1_changeValue 63 = .ok (.iastore, 1) := by decide +kernel
theorem dX1_changeValue_64 : decode cX1_changeValue 64 = .ok (.iload_n 2, 1) := by decide +kernel
theorem dX1_changeValue_65 : decode cX1_changeValue 65 = .ok (.iload_n 3, 1) := by decide +kernel
theorem dX1_changeValue_66 : decode cX1_changeValue 66 = .ok (.isub, 1) := by decide +kernel
theorem dX1_changeValue_67 : decode cX1_changeValue 67 = .ok (.ireturn, 1) := by decide +kernel
theorem dX1_share_0 : decode cX1_share 0 = .ok (.iload_n 0, 1) := by decide +kernel
theorem dX1_share_1 : decode cX1_share 1 = .ok (.i2l, 1) := by decide +kernel
theorem dX1_share_2 : decode cX1_share 2 = .ok (.iload_n 1, 1) := by decide +kernel
theorem dX1_share_3 : decode cX1_share 3 = .ok (.i2l, 1) := by decide +kernel
theorem dX1_share_4 : decode cX1_share 4 = .ok (.lmul, 1) := by decide +kernel
theorem dX1_share_5 : decode cX1_share 5 = .ok (.iload_n 2, 1) := by decide +kernel
theorem dX1_share_6 : decode cX1_share 6 = .ok (.i2l, 1) := by decide +kernel
theorem dX1_share_7 : decode cX1_share 7 = .ok (.ldiv, 1) := by decide +kernel
theorem dX1_share_8 : decode cX1_share 8 = .ok (.l2i, 1) := by decide +kernel
theorem dX1_share_9 : decode cX1_share 9 = .ok (.ireturn, 1) := by decide +kernel
set_option maxRecDepth 20000 in
theorem ggX1_split_X1_isLine : GoodIn wsX1_split wsX1_isLine := goodIn_r _ [11, 2, 12, 13, 10, 14, 27, 28, 29, 30, 31, 32, 33, 34, 35, 36, 37, 38, 39, 40] (by decide +kernel) (by decide +kernel)
set_option maxRecDepth 20000 in
theorem gX1_split_X1_isLine : GoodIn wsX1_split (wsV RX1 64 RX1 yX1_isLine wsX1_isLine) := goodIn_app (goodIn_of _ (by decide +kernel)) ggX1_split_X1_isLine
set_option maxRecDepth 20000 in
theorem ggX1_split_X1_in : GoodIn wsX1_split wsX1_in := goodIn_r _ [14] (by decide +kernel) (by decide +kernel)
set_option maxRecDepth 20000 in
theorem gX1_split_X1_in : GoodIn wsX1_split (va_wsS RX1 47 yX1_in wsX1_in) := goodIn_app (goodIn_of _ (by decide +kernel)) ggX1_split_X1_in
set_option maxRecDepth 20000 in
theorem ggX1_split_X1_refused : GoodIn wsX1_split wsX1_refused := goodIn_r _ [18, 19, 27, 28, 29, 30, 31, 32, 33, 34, 35, 36, 37, 38, 39, 40] (by decide +kernel) (by decide +kernel)
set_option maxRecDepth 20000 in
theorem gX1_split_X1_refused : GoodIn wsX1_split (wsV RX1 56 RX1 yX1_refused wsX1_refused) := goodIn_app (goodIn_of _ (by decide +kernel)) ggX1_split_X1_refused
set_option maxRecDepth 20000 in
theorem ggX1_split_X1_share : GoodIn wsX1_split wsX1_share := goodIn_r _ [22] (by decide +kernel) (by decide +kernel)
set_option maxRecDepth 20000 in
theorem gX1_split_X1_share : GoodIn wsX1_split (va_wsS RX1 67 yX1_share wsX1_share) := goodIn_app (goodIn_of _ (by decide +kernel)) ggX1_split_X1_share
set_option maxRecDepth 20000 in
theorem ggX1_split_X1_put : GoodIn wsX1_split wsX1_put := goodIn_r _ [26, 1, 3, 4, 5, 6, 27, 28, 29, 30, 31, 32, 33, 34, 35, 36, 37, 38, 39, 40] (by decide +kernel) (by decide +kernel)
set_option maxRecDepth 20000 in
theorem gX1_split_X1_put : GoodIn wsX1_split (wsV RX1 60 RX1 yX1_put wsX1_put) := goodIn_app (goodIn_of _ (by decide +kernel)) ggX1_split_X1_put
theorem dX1_split_0 : decode cX1_split 0 = .ok (.aload_n 0, 1) := by decide +kernel
theorem dX1_split_1 : decode cX1_split 1 = .ok (.aload_n 0, 1) := by decide +kernel
theorem dX1_split_2 : decode cX1_split 2 = .ok (.iload_n 1, 1) := by decide +kernel
theorem dX1_split_3 : decode cX1_split 3 = .ok (.invokevirtual 64, 3) := by decide +kernel
theorem dX1_split_6 : decode cX1_split 6 = .ok (.ifCond .ne 7, 3) := by decide +kernel
theorem dX1_split_9 : decode cX1_split 9 = .ok (.iconst 1, 1) := by decide +kernel
theorem dX1_split_10 : decode cX1_split 10 = .ok (.goto 37, 3) := by decide +kernel
theorem dX1_split_13 : decode cX1_split 13 = .ok (.iload_n 2, 1) := by decide +kernel
theorem dX1_split_14 : decode cX1_split 14 = .ok (.iconst 1, 1) := by decide +kernel
theorem dX1_split_15 : decode cX1_split 15 = .ok (.aload_n 0, 1) := by decide +kernel
theorem dX1_split_16 : decode cX1_split 16 = .ok (.getfield 7, 3) := by decide +kernel
theorem dX1_split_19 : decode cX1_split 19 = .ok (.iload_n 1, 1) := by decide +kernel
theorem dX1_split_20 : decode cX1_split 20 = .ok (.iaload, 1) := by decide +kernel
theorem dX1_split_21 : decode cX1_split 21 = .ok (.iconst 1, 1) := by decide +kernel
theorem dX1_split_22 : decode cX1_split 22 = .ok (.isub, 1) := by decide +kernel
theorem dX1_split_23 : decode cX1_split 23 = .ok (.invokestatic 47, 3) := by decide +kernel
theorem dX1_split_26 : decode cX1_split 26 = .ok (.ifCond .ne 7, 3) := by decide +kernel
theorem dX1_split_29 : decode cX1_split 29 = .ok (.iconst 2, 1) := by decide +kernel
theorem dX1_split_30 : decode cX1_split 30 = .ok (.goto 17, 3) := by decide +kernel
theorem dX1_split_33 : decode cX1_split 33 = .ok (.aload_n 0, 1) := by decide +kernel
theorem dX1_split_34 : decode cX1_split 34 = .ok (.getfield 44, 3) := by decide +kernel
theorem dX1_split_37 : decode cX1_split 37 = .ok (.bipush 16, 2) := by decide +kernel
theorem dX1_split_39 : decode cX1_split 39 = .ok (.if_icmp .ne 7, 3) := by decide +kernel
theorem dX1_split_42 : decode cX1_split 42 = .ok (.iconst 3, 1) := by decide +kernel
theorem dX1_split_43 : decode cX1_split 43 = .ok (.goto 4, 3) := by decide +kernel
theorem dX1_split_46 : decode cX1_split 46 = .ok (.iconst 0, 1) := by decide +kernel
theorem dX1_split_47 : decode cX1_split 47 = .ok (.invokevirtual 56, 3) := by decide +kernel
theorem dX1_split_50 : decode cX1_split 50 = .ok (.ifCond .eq 5, 3) := by decide +kernel
theorem dX1_split_53 : decode cX1_split 53 = .ok (.iconst 0, 1) := by decide +kernel
theorem dX1_split_54 : decode cX1_split 54 = .ok (.ireturn, 1) := by decide +kernel
theorem dX1_split_55 : decode cX1_split 55 = .ok (.aload_n 0, 1) := by decide +kernel
theorem dX1_split_56 : decode cX1_split 56 = .ok (.getfield 7, 3) := by decide +kernel
theorem dX1_split_59 : decode cX1_split 59 = .ok (.iload_n 1, 1) := by decide +kernel
theorem dX1_split_60 : decode cX1_split 60 = .ok (.iaload, 1) := by decide +kernel
theorem dX1_split_61 : decode cX1_split 61 = .ok (.istore_n 3, 1) := by decide +kernel
theorem dX1_split_62 : decode cX1_split 62 = .ok (.aload_n 0, 1) := by decide +kernel
theorem dX1_split_63 : decode cX1_split 63 = .ok (.aload_n 0, 1) := by decide +kernel
theorem dX1_split_64 : decode cX1_split 64 = .ok (.getfield 44, 3) := by decide +kernel
theorem dX1_split_67 : decode cX1_split 67 = .ok (.iload_n 2, 1) := by decide +kernel
theorem dX1_split_68 : decode cX1_split 68 = .ok (.aload_n 0, 1) := by decide +kernel
theorem dX1_split_69 : decode cX1_split 69 = .ok (.getfield 13, 3) := by decide +kernel
theorem dX1_split_72 : decode cX1_split 72 = .ok (.iload_n 1, 1) := by decide +kernel
theorem dX1_split_73 : decode cX1_split 73 = .ok (.iaload, 1) := by decide +kernel
theorem dX1_split_74 : decode cX1_split 74 = .ok (.iload_n 2, 1) := by decide +kernel
theorem dX1_split_75 : decode cX1_split 75 = .ok (.iload_n 3, 1) := by decide +kernel
theorem dX1_split_76 : decode cX1_split 76 = .ok (.invokestatic 67, 3) := by decide +kernel
theorem dX1_split_79 : decode cX1_split 79 = .ok (.aload_n 0, 1) := by decide +kernel
theorem dX1_split_80 : decode cX1_split 80 = .ok (.getfield 16, 3) := by decide +kernel
theorem dX1_split_83 : decode cX1_split 83 = .ok (.iload_n 1, 1) := by decide +kernel
theorem dX1_split_84 : decode cX1_split 84 = .ok (.iaload, 1) := by decide +kernel
theorem dX1_split_85 : decode cX1_split 85 = .ok (.iload_n 2, 1) := by decide +kernel
theorem dX1_split_86 : decode cX1_split 86 = .ok (.iload_n 3, 1) := by decide +kernel
theorem dX1_split_87 : decode cX1_split 87 = .ok (.invokestatic 67, 3) := by decide +kernel
theorem dX1_split_90 : decode cX1_split 90 = .ok (.aload_n 0, 1) := by decide +kernel
theorem dX1_split_91 : decode cX1_split 91 = .ok (.getfield 19, 3) := by decide +kernel
theorem dX1_split_94 : decode cX1_split 94 = .ok (.iload_n 1, 1) := by decide +kernel
theorem dX1_split_95 : decode cX1_split 95 = .ok (.iaload, 1) := by decide +kernel
theorem dX1_split_96 : decode cX1_split 96 = .ok (.iload_n 2, 1) := by decide +kernel
theorem dX1_split_97 : decode cX1_split 97 = .ok (.iload_n 3, 1) := by decide +kernel
theorem dX1_split_98 : decode cX1_split 98 = .ok (.invokestatic 67, 3) := by decide +kernel
theorem dX1_split_101 : decode cX1_split 101 = .ok (.aload_n 0, 1) := by decide +kernel
theorem dX1_split_102 : decode cX1_split 102 = .ok (.getfield 22, 3) := by decide +kernel
theorem dX1_split_105 : decode cX1_split 105 = .ok (.iload_n 1, 1) := by decide +kernel
theorem dX1_split_106 : decode cX1_split 106 = .ok (.iaload, 1) := by decide +kernel
theorem dX1_split_107 : decode cX1_split 107 = .ok (.iload_n 2, 1) := by decide +kernel
theorem dX1_split_108 : decode cX1_split 108 = .ok (.iload_n 3, 1) := by decide +kernel
theorem dX1_split_109 : decode cX1_split 109 = .ok (.invokestatic 67, 3) := by decide +kernel
theorem dX1_split_112 : decode cX1_split 112 = .ok (.invokevirtual 60, 3) := by decide +kernel
theorem dX1_split_115 : decode cX1_split 115 = .ok (.aload_n 0, 1) := by decide +kernel
theorem dX1_split_116 : decode cX1_split 116 = .ok (.iload_n 1, 1) := by decide +kernel
theorem dX1_split_117 : decode cX1_split 117 = .ok (.iload_n 3, 1) := by decide +kernel
theorem dX1_split_118 : decode cX1_split 118 = .ok (.iload_n 2, 1) := by decide +kernel
theorem dX1_split_119 : decode cX1_split 119 = .ok (.isub, 1) := by decide +kernel
theorem dX1_split_120 : decode cX1_split 120 = .ok (.aload_n 0, 1) := by decide +kernel
theorem dX1_split_121 : decode cX1_split 121 = .ok (.getfield 13, 3) := by decide +kernel
theorem dX1_split_124 : decode cX1_split 124 = .ok (.iload_n 1, 1) := by decide +kernel
theorem dX1_split_125 : decode cX1_split 125 = .ok (.iaload, 1) := by decide +kernel
theorem dX1_split_126 : decode cX1_split 126 = .ok (.aload_n 0, 1) := by decide +kernel
theorem dX1_split_127 : decode cX1_split 127 = .ok (.getfield 13, 3) := by decide +kernel
theorem dX1_split_130 : decode cX1_split 130 = .ok (.aload_n 0, 1) := by decide +kernel
theorem dX1_split_131 : decode cX1_split 131 = .ok (.getfield 44, 3) := by decide +kernel
theorem dX1_split_134 : decode cX1_split 134 = .ok (.iaload, 1) := by decide +kernel
theorem dX1_split_135 : decode cX1_split 135 = .ok (.isub, 1) := by decide +kernel
theorem dX1_split_136 : decode cX1_split 136 = .ok (.aload_n 0, 1) := by decide +kernel
theorem dX1_split_137 : decode cX1_split 137 = .ok (.getfield 16, 3) := by decide +kernel
theorem dX1_split_140 : decode cX1_split 140 = .ok (.iload_n 1, 1) := by decide +kernel
theorem dX1_split_141 : decode cX1_split 141 = .ok (.iaload, 1) := by decide +kernel
theorem dX1_split_142 : decode cX1_split 142 = .ok (.aload_n 0, 1) := by decide +kernel
theorem dX1_split_143 : decode cX1_split 143 = .ok (.getfield 16, 3) := by decide +kernel
theorem dX1_split_146 : decode cX1_split 146 = .ok (.aload_n 0, 1) := by decide +kernel
theorem dX1_split_147 : decode cX1_split 147 = .ok (.getfield 44, 3) := by decide +kernel
theorem dX1_split_150 : decode cX1_split 150 = .ok (.iaload, 1) := by decide +kernel
theorem dX1_split_151 : decode cX1_split 151 = .ok (.isub, 1) := by decide +kernel
theorem dX1_split_152 : decode cX1_split 152 = .ok (.aload_n 0, 1) := by decide +kernel
theorem dX1_split_153 : decode cX1_split 153 = .ok (.getfield 19, 3) := by decide +kernel
theorem dX1_split_156 : decode cX1_split 156 = .ok (.iload_n 1, 1) := by decide +kernel
theorem dX1_split_157 : decode cX1_split 157 = .ok (.iaload, 1) := by decide +kernel
theorem dX1_split_158 : decode cX1_split 158 = .ok (.aload_n 0, 1) := by decide +kernel
theorem dX1_split_159 : decode cX1_split 159 = .ok (.getfield 19, 3) := by decide +kernel
theorem dX1_split_162 : decode cX1_split 162 = .ok (.aload_n 0, 1) := by decide +kernel
theorem dX1_split_163 : decode cX1_split 163 = .ok (.getfield 44, 3) := by decide +kernel
theorem dX1_split_166 : decode cX1_split 166 = .ok (.iaload, 1) := by decide +kernel
theorem dX1_split_167 : decode cX1_split 167 = .ok (.isub, 1) := by decide +kernel
theorem dX1_split_168 : decode cX1_split 168 = .ok (.aload_n 0, 1) := by decide +kernel
theorem dX1_split_169 : decode cX1_split 169 = .ok (.getfield 22, 3) := by decide +kernel
theorem dX1_split_172 : decode cX1_split 172 = .ok (.iload_n 1, 1) := by decide +kernel
theorem dX1_split_173 : decode cX1_split 173 = .ok (.iaload, 1) := by decide +kernel
theorem dX1_split_174 : decode cX1_split 174 = .ok (.aload_n 0, 1) := by decide +kernel
theorem dX1_split_175 : decode cX1_split 175 = .ok (.getfield 22, 3) := by decide +kernel
theorem dX1_split_178 : decode cX1_split 178 = .ok (.aload_n 0, 1) := by decide +kernel
theorem dX1_split_179 : decode cX1_split 179 = .ok (.getfield 44, 3) := by decide +kernel
theorem dX1_split_182 : decode cX1_split 182 = .ok (.iaload, 1) := by decide +kernel
theorem dX1_split_183 : decode cX1_split 183 = .ok (.isub, 1) := by decide +kernel
theorem dX1_split_184 : decode cX1_split 184 = .ok (.invokevirtual 60, 3) := by decide +kernel
theorem dX1_split_187 : decode cX1_split 187 = .ok (.aload_n 0, 1) := by decide +kernel
theorem dX1_split_188 : decode cX1_split 188 = .ok (.dup, 1) := by decide +kernel
theorem dX1_split_189 : decode cX1_split 189 = .ok (.getfield 44, 3) := by decide +kernel
theorem dX1_split_192 : decode cX1_split 192 = .ok (.iconst 1, 1) := by decide +kernel
theorem dX1_split_193 : decode cX1_split 193 = .ok (.iadd, 1) := by decide +kernel
theorem dX1_split_194 : decode cX1_split 194 = .ok (.putfield 44, 3) := by decide +kernel
theorem dX1_split_197 : decode cX1_split 197 = .ok (.aload_n 0, 1) := by decide +kernel
theorem dX1_split_198 : decode cX1_split 198 = .ok (.getfield 44, 3) := by decide +kernel
theorem dX1_split_201 : decode cX1_split 201 = .ok (.iconst 1, 1) := by decide +kernel
theorem dX1_split_202 : decode cX1_split 202 = .ok (.isub, 1) := by decide +kernel
theorem dX1_split_203 : decode cX1_split 203 = .ok (.ireturn, 1) := by decide +kernel
set_option maxRecDepth 20000 in
theorem ggX1_setWork_X1_isLine : GoodIn wsX1_setWork wsX1_isLine := goodIn_r _ [8, 9, 10, 11, 7, 12, 23, 24, 25, 26, 27, 28, 29, 30, 31, 32, 33, 34, 35, 36] (by decide +kernel) (by decide +kernel)
set_option maxRecDepth 20000 in
theorem gX1_setWork_X1_isLine : GoodIn wsX1_setWork (wsV RX1 64 RX1 yX1_isLine wsX1_isLine) := goodIn_app (goodIn_of _ (by decide +kernel)) ggX1_setWork_X1_isLine
set_option maxRecDepth 20000 in
theorem ggX1_setWork_X1_in : GoodIn wsX1_setWork wsX1_in := goodIn_r _ [12] (by decide +kernel) (by decide +kernel)
set_option maxRecDepth 20000 in
theorem gX1_setWork_X1_in : GoodIn wsX1_setWork (va_wsS RX1 47 yX1_in wsX1_in) := goodIn_app (goodIn_of _ (by decide +kernel)) ggX1_setWork_X1_in
set_option maxRecDepth 20000 in
theorem ggX1_setWork_X1_thousandths : GoodIn wsX1_setWork wsX1_thousandths := goodIn_r _ [15, 16, 17] (by decide +kernel) (by decide +kernel)
set_option maxRecDepth 20000 in
theorem gX1_setWork_X1_thousandths : GoodIn wsX1_setWork (va_wsS RX1 71 yX1_thousandths wsX1_thousandths) := goodIn_app (goodIn_of _ (by decide +kernel)) ggX1_setWork_X1_thousandths
set_option maxRecDepth 20000 in
theorem ggX1_setWork_X1_refused : GoodIn wsX1_setWork wsX1_refused := goodIn_r _ [21, 22, 23, 24, 25, 26, 27, 28, 29, 30, 31, 32, 33, 34, 35, 36] (by decide +kernel) (by decide +kernel)
set_option maxRecDepth 20000 in
theorem gX1_setWork_X1_refused : GoodIn wsX1_setWork (wsV RX1 56 RX1 yX1_refused wsX1_refused) := goodIn_app (goodIn_of _ (by decide +kernel)) ggX1_setWork_X1_refused
theorem dX1_setWork_0 : decode cX1_setWork 0 = .ok (.aload_n 0, 1) := by decide +kernel
theorem dX1_setWork_1 : decode cX1_setWork 1 = .ok (.iload_n 1, 1) := by decide +kernel
theorem dX1_setWork_2 : decode cX1_setWork 2 = .ok (.invokevirtual 64, 3) := by decide +kernel
theorem dX1_setWork_5 : decode cX1_setWork 5 = .ok (.istore_n 3, 1) := by decide +kernel
theorem dX1_setWork_6 : decode cX1_setWork 6 = .ok (.iload_n 3, 1) := by decide +kernel
theorem dX1_setWork_7 : decode cX1_setWork 7 = .ok (.ifCond .eq 27, 3) := by decide +kernel
theorem dX1_setWork_10 : decode cX1_setWork 10 = .ok (.iload_n 2, 1) := by decide +kernel
theorem dX1_setWork_11 : decode cX1_setWork 11 = .ok (.iconst 0, 1) := by decide +kernel
theorem dX1_setWork_12 : decode cX1_setWork 12 = .ok (.sipush 1000, 3) := by decide +kernel
theorem dX1_setWork_15 : decode cX1_setWork 15 = .ok (.invokestatic 47, 3) := by decide +kernel
theorem dX1_setWork_18 : decode cX1_setWork 18 = .ok (.ifCond .eq 16, 3) := by decide +kernel
theorem dX1_setWork_21 : decode cX1_setWork 21 = .ok (.aload_n 0, 1) := by decide +kernel
theorem dX1_setWork_22 : decode cX1_setWork 22 = .ok (.getfield 7, 3) := by decide +kernel
theorem dX1_setWork_25 : decode cX1_setWork 25 = .ok (.iload_n 1, 1) := by decide +kernel
theorem dX1_setWork_26 : decode cX1_setWork 26 = .ok (.iaload, 1) := by decide +kernel
theorem dX1_setWork_27 : decode cX1_setWork 27 = .ok (.iload_n 2, 1) := by decide +kernel
theorem dX1_setWork_28 : decode cX1_setWork 28 = .ok (.invokestatic 71, 3) := by decide +kernel
theorem dX1_setWork_31 : decode cX1_setWork 31 = .ok (.goto 4, 3) := by decide +kernel
theorem dX1_setWork_34 : decode cX1_setWork 34 = .ok (.iconst 0, 1) := by decide +kernel
theorem dX1_setWork_35 : decode cX1_setWork 35 = .ok (.istore 4, 2) := by decide +kernel
theorem dX1_setWork_37 : decode cX1_setWork 37 = .ok (.iload_n 3, 1) := by decide +kernel
theorem dX1_setWork_38 : decode cX1_setWork 38 = .ok (.ifCond .eq 43, 3) := by decide +kernel
theorem dX1_setWork_41 : decode cX1_setWork 41 = .ok (.iload 4, 2) := by decide +kernel
theorem dX1_setWork_43 : decode cX1_setWork 43 = .ok (.aload_n 0, 1) := by decide +kernel
theorem dX1_setWork_44 : decode cX1_setWork 44 = .ok (.getfield 16, 3) := by decide +kernel
theorem dX1_setWork_47 : decode cX1_setWork 47 = .ok (.iload_n 1, 1) := by decide +kernel
theorem dX1_setWork_48 : decode cX1_setWork 48 = .ok (.iaload, 1) := by decide +kernel
theorem dX1_setWork_49 : decode cX1_setWork 49 = .ok (.if_icmp .lt 32, 3) := by decide +kernel
theorem dX1_setWork_52 : decode cX1_setWork 52 = .ok (.iload 4, 2) := by decide +kernel
theorem dX1_setWork_54 : decode cX1_setWork 54 = .ok (.aload_n 0, 1) := by decide +kernel
theorem dX1_setWork_55 : decode cX1_setWork 55 = .ok (.getfield 16, 3) := by decide +kernel
theorem dX1_setWork_58 : decode cX1_setWork 58 = .ok (.iload_n 1, 1) := by decide +kernel
theorem dX1_setWork_59 : decode cX1_setWork 59 = .ok (.iaload, 1) := by decide +kernel
theorem dX1_setWork_60 : decode cX1_setWork 60 = .ok (.isub, 1) := by decide +kernel
theorem dX1_setWork_61 : decode cX1_setWork 61 = .ok (.aload_n 0, 1) := by decide +kernel
theorem dX1_setWork_62 : decode cX1_setWork 62 = .ok (.getfield 7, 3) := by decide +kernel
theorem dX1_setWork_65 : decode cX1_setWork 65 = .ok (.iload_n 1, 1) := by decide +kernel
theorem dX1_setWork_66 : decode cX1_setWork 66 = .ok (.iaload, 1) := by decide +kernel
theorem dX1_setWork_67 : decode cX1_setWork 67 = .ok (.aload_n 0, 1) := by decide +kernel
theorem dX1_setWork_68 : decode cX1_setWork 68 = .ok (.getfield 13, 3) := by decide +kernel
theorem dX1_setWork_71 : decode cX1_setWork 71 = .ok (.iload_n 1, 1) := by decide +kernel
theorem dX1_setWork_72 : decode cX1_setWork 72 = .ok (.iaload, 1) := by decide +kernel
theorem dX1_setWork_73 : decode cX1_setWork 73 = .ok (.isub, 1) := by decide +kernel
theorem dX1_setWork_74 : decode cX1_setWork 74 = .ok (.if_icmp .gt 7, 3) := by decide +kernel
theorem dX1_setWork_77 : decode cX1_setWork 77 = .ok (.iconst 1, 1) := by decide +kernel
theorem dX1_setWork_78 : decode cX1_setWork 78 = .ok (.goto 4, 3) := by decide +kernel
theorem dX1_setWork_81 : decode cX1_setWork 81 = .ok (.iconst 0, 1) := by decide +kernel
theorem dX1_setWork_82 : decode cX1_setWork 82 = .ok (.istore 5, 2) := by decide +kernel
theorem dX1_setWork_84 : decode cX1_setWork 84 = .ok (.aload_n 0, 1) := by decide +kernel
theorem dX1_setWork_85 : decode cX1_setWork 85 = .ok (.iload_n 3, 1) := by decide +kernel
theorem dX1_setWork_86 : decode cX1_setWork 86 = .ok (.ifCond .ne 7, 3) := by decide +kernel
theorem dX1_setWork_89 : decode cX1_setWork 89 = .ok (.iconst 1, 1) := by decide +kernel
theorem dX1_setWork_90 : decode cX1_setWork 90 = .ok (.goto 28, 3) := by decide +kernel
theorem dX1_setWork_93 : decode cX1_setWork 93 = .ok (.iload_n 2, 1) := by decide +kernel
theorem dX1_setWork_94 : decode cX1_setWork 94 = .ok (.iconst 0, 1) := by decide +kernel
theorem dX1_setWork_95 : decode cX1_setWork 95 = .ok (.sipush 1000, 3) := by decide +kernel
theorem dX1_setWork_98 : decode cX1_setWork 98 = .ok (.invokestatic 47, 3) := by decide +kernel
theorem dX1_setWork_101 : decode cX1_setWork 101 = .ok (.ifCond .ne 7, 3) := by decide +kernel
theorem dX1_setWork_104 : decode cX1_setWork 104 = .ok (.iconst 2, 1) := by decide +kernel
theorem dX1_setWork_105 : decode cX1_setWork 105 = .ok (.goto 13, 3) := by decide +kernel
theorem dX1_setWork_108 : decode cX1_setWork 108 = .ok (.iload 5, 2) := by decide +kernel
theorem dX1_setWork_110 : decode cX1_setWork 110 = .ok (.ifCond .eq 7, 3) := by decide +kernel
theorem dX1_setWork_113 : decode cX1_setWork 113 = .ok (.iconst 0, 1) := by decide +kernel
theorem dX1_setWork_114 : decode cX1_setWork 114 = .ok (.goto 4, 3) := by decide +kernel
theorem dX1_setWork_117 : decode cX1_setWork 117 = .ok (.iconst 3, 1) := by decide +kernel
theorem dX1_setWork_118 : decode cX1_setWork 118 = .ok (.invokevirtual 56, 3) := by decide +kernel
theorem dX1_setWork_121 : decode cX1_setWork 121 = .ok (.ifCond .eq 5, 3) := by decide +kernel
theorem dX1_setWork_124 : decode cX1_setWork 124 = .ok (.iconst 0, 1) := by decide +kernel
theorem dX1_setWork_125 : decode cX1_setWork 125 = .ok (.ireturn, 1) := by decide +kernel
theorem dX1_setWork_126 : decode cX1_setWork 126 = .ok (.iload 4, 2) := by decide +kernel
theorem dX1_setWork_128 : decode cX1_setWork 128 = .ok (.aload_n 0, 1) := by decide +kernel
theorem dX1_setWork_129 : decode cX1_setWork 129 = .ok (.getfield 16, 3) := by decide +kernel
theorem dX1_setWork_132 : decode cX1_setWork 132 = .ok (.iload_n 1, 1) := by decide +kernel
theorem dX1_setWork_133 : decode cX1_setWork 133 = .ok (.iaload, 1) := by decide +kernel
theorem dX1_setWork_134 : decode cX1_setWork 134 = .ok (.isub, 1) := by decide +kernel
theorem dX1_setWork_135 : decode cX1_setWork 135 = .ok (.istore 6, 2) := by decide +kernel
theorem dX1_setWork_137 : decode cX1_setWork 137 = .ok (.aload_n 0, 1) := by decide +kernel
theorem dX1_setWork_138 : decode cX1_setWork 138 = .ok (.getfield 16, 3) := by decide +kernel
theorem dX1_setWork_141 : decode cX1_setWork 141 = .ok (.iload_n 1, 1) := by decide +kernel
theorem dX1_setWork_142 : decode cX1_setWork 142 = .ok (.iload 4, 2) := by decide +kernel
theorem dX1_setWork_144 : decode cX1_setWork 144 = .ok (.iastore, 1) := by decide +kernel
theorem dX1_setWork_145 : decode cX1_setWork 145 = .ok (.aload_n 0, 1) := by decide +kernel
theorem dX1_setWork_146 : decode cX1_setWork 146 = .ok (.getfield 13, 3) := by decide +kernel
theorem dX1_setWork_149 : decode cX1_setWork 149 = .ok (.iload_n 1, 1) := by decide +kernel
theorem dX1_setWork_150 : decode cX1_setWork 150 = .ok (.dup2, 1) := by decide +kernel
theorem dX1_setWork_151 : decode cX1_setWork 151 = .ok (.iaload, 1) := by decide +kernel
theorem dX1_setWork_152 : decode cX1_setWork 152 = .ok (.iload 6, 2) := by decide +kernel
theorem dX1_setWork_154 : decode cX1_setWork 154 = .ok (.iadd, 1) := by decide +kernel
theorem dX1_setWork_155 : decode cX1_setWork 155 = .ok (.iastore, 1) := by decide +kernel
theorem dX1_setWork_156 : decode cX1_setWork 156 = .ok (.iload 6, 2) := by decide +kernel
theorem dX1_setWork_158 : decode cX1_setWork 158 = .ok (.ireturn, 1) := by decide +kernel
set_option maxRecDepth 20000 in
theorem ggX1_store_X1_isLine : GoodIn wsX1_store wsX1_isLine := goodIn_r _ [9, 10, 11, 12, 8, 13, 19, 20, 21, 22, 23, 24, 25, 26, 27, 28, 29, 30, 31, 32] (by decide +kernel) (by decide +kernel)
set_option maxRecDepth 20000 in
theorem gX1_store_X1_isLine : GoodIn wsX1_store (wsV RX1 64 RX1 yX1_isLine wsX1_isLine) := goodIn_app (goodIn_of _ (by decide +kernel)) ggX1_store_X1_isLine
set_option maxRecDepth 20000 in
theorem ggX1_store_X1_in : GoodIn wsX1_store wsX1_in := goodIn_r _ [13] (by decide +kernel) (by decide +kernel)
set_option maxRecDepth 20000 in
theorem gX1_store_X1_in : GoodIn wsX1_store (va_wsS RX1 47 yX1_in wsX1_in) := goodIn_app (goodIn_of _ (by decide +kernel)) ggX1_store_X1_in
set_option maxRecDepth 20000 in
theorem ggX1_store_X1_refused : GoodIn wsX1_store wsX1_refused := goodIn_r _ [17, 18, 19, 20, 21, 22, 23, 24, 25, 26, 27, 28, 29, 30, 31, 32] (by decide +kernel) (by decide +kernel)
set_option maxRecDepth 20000 in
theorem gX1_store_X1_refused : GoodIn wsX1_store (wsV RX1 56 RX1 yX1_refused wsX1_refused) := goodIn_app (goodIn_of _ (by decide +kernel)) ggX1_store_X1_refused
theorem dX1_store_0 : decode cX1_store 0 = .ok (.aload_n 0, 1) := by decide +kernel
theorem dX1_store_1 : decode cX1_store 1 = .ok (.aload_n 0, 1) := by decide +kernel
theorem dX1_store_2 : decode cX1_store 2 = .ok (.iload_n 1, 1) := by decide +kernel
theorem dX1_store_3 : decode cX1_store 3 = .ok (.invokevirtual 64, 3) := by decide +kernel
theorem dX1_store_6 : decode cX1_store 6 = .ok (.ifCond .ne 7, 3) := by decide +kernel
theorem dX1_store_9 : decode cX1_store 9 = .ok (.iconst 1, 1) := by decide +kernel
theorem dX1_store_10 : decode cX1_store 10 = .ok (.goto 39, 3) := by decide +kernel
theorem dX1_store_13 : decode cX1_store 13 = .ok (.iload_n 2, 1) := by decide +kernel
theorem dX1_store_14 : decode cX1_store 14 = .ok (.iconst 1, 1) := by decide +kernel
theorem dX1_store_15 : decode cX1_store 15 = .ok (.ldc 55, 2) := by decide +kernel
theorem dX1_store_17 : decode cX1_store 17 = .ok (.invokestatic 47, 3) := by decide +kernel
theorem dX1_store_20 : decode cX1_store 20 = .ok (.ifCond .ne 7, 3) := by decide +kernel
theorem dX1_store_23 : decode cX1_store 23 = .ok (.iconst 2, 1) := by decide +kernel
theorem dX1_store_24 : decode cX1_store 24 = .ok (.goto 25, 3) := by decide +kernel
theorem dX1_store_27 : decode cX1_store 27 = .ok (.iload_n 2, 1) := by decide +kernel
theorem dX1_store_28 : decode cX1_store 28 = .ok (.aload_n 0, 1) := by decide +kernel
theorem dX1_store_29 : decode cX1_store 29 = .ok (.getfield 7, 3) := by decide +kernel
theorem dX1_store_32 : decode cX1_store 32 = .ok (.iload_n 1, 1) := by decide +kernel
theorem dX1_store_33 : decode cX1_store 33 = .ok (.iaload, 1) := by decide +kernel
theorem dX1_store_34 : decode cX1_store 34 = .ok (.aload_n 0, 1) := by decide +kernel
theorem dX1_store_35 : decode cX1_store 35 = .ok (.getfield 13, 3) := by decide +kernel
theorem dX1_store_38 : decode cX1_store 38 = .ok (.iload_n 1, 1) := by decide +kernel
theorem dX1_store_39 : decode cX1_store 39 = .ok (.iaload, 1) := by decide +kernel
theorem dX1_store_40 : decode cX1_store 40 = .ok (.isub, 1) := by decide +kernel
theorem dX1_store_41 : decode cX1_store 41 = .ok (.if_icmp .le 7, 3) := by decide +kernel
theorem dX1_store_44 : decode cX1_store 44 = .ok (.iconst 3, 1) := by decide +kernel
theorem dX1_store_45 : decode cX1_store 45 = .ok (.goto 4, 3) := by decide +kernel
theorem dX1_store_48 : decode cX1_store 48 = .ok (.iconst 0, 1) := by decide +kernel
theorem dX1_store_49 : decode cX1_store 49 = .ok (.invokevirtual 56, 3) := by decide +kernel
theorem dX1_store_52 : decode cX1_store 52 = .ok (.ifCond .eq 5, 3) := by decide +kernel
theorem dX1_store_55 : decode cX1_store 55 = .ok (.iconst 0, 1) := by decide +kernel
theorem dX1_store_56 : decode cX1_store 56 = .ok (.ireturn, 1) := by decide +kernel
theorem dX1_store_57 : decode cX1_store 57 = .ok (.aload_n 0, 1) := by decide +kernel
theorem dX1_store_58 : decode cX1_store 58 = .ok (.getfield 13, 3) := by decide +kernel
theorem dX1_store_61 : decode cX1_store 61 = .ok (.iload_n 1, 1) := by decide +kernel
theorem dX1_store_62 : decode cX1_store 62 = .ok (.dup2, 1) := by decide +kernel
theorem dX1_store_63 : decode cX1_store 63 = .ok (.iaload, 1) := by decide +kernel
theorem dX1_store_64 : decode cX1_store 64 = .ok (.iload_n 2, 1) := by decide +kernel
theorem dX1_store_65 : decode cX1_store 65 = .ok (.iadd, 1) := by decide +kernel
theorem dX1_store_66 : decode cX1_store 66 = .ok (.iastore, 1) := by decide +kernel
theorem dX1_store_67 : decode cX1_store 67 = .ok (.aload_n 0, 1) := by decide +kernel
theorem dX1_store_68 : decode cX1_store 68 = .ok (.getfield 13, 3) := by decide +kernel
theorem dX1_store_71 : decode cX1_store 71 = .ok (.iload_n 1, 1) := by decide +kernel
theorem dX1_store_72 : decode cX1_store 72 = .ok (.iaload, 1) := by decide +kernel
theorem dX1_store_73 : decode cX1_store 73 = .ok (.aload_n 0, 1) := by decide +kernel
theorem dX1_store_74 : decode cX1_store 74 = .ok (.getfield 16, 3) := by decide +kernel
theorem dX1_store_77 : decode cX1_store 77 = .ok (.iload_n 1, 1) := by decide +kernel
theorem dX1_store_78 : decode cX1_store 78 = .ok (.iaload, 1) := by decide +kernel
theorem dX1_store_79 : decode cX1_store 79 = .ok (.isub, 1) := by decide +kernel
theorem dX1_store_80 : decode cX1_store 80 = .ok (.ireturn, 1) := by decide +kernel
set_option maxRecDepth 20000 in
theorem ggX1_place_X1_isLine : GoodIn wsX1_place wsX1_isLine := goodIn_r _ [8, 9, 10, 11, 7, 12, 18, 19, 20, 21, 22, 23, 24, 25, 26, 27, 28, 29, 30, 31] (by decide +kernel) (by decide +kernel)
set_option maxRecDepth 20000 in
theorem gX1_place_X1_isLine : GoodIn wsX1_place (wsV RX1 64 RX1 yX1_isLine wsX1_isLine) := goodIn_app (goodIn_of _ (by decide +kernel)) ggX1_place_X1_isLine
set_option maxRecDepth 20000 in
theorem ggX1_place_X1_in : GoodIn wsX1_place wsX1_in := goodIn_r _ [12] (by decide +kernel) (by decide +kernel)
set_option maxRecDepth 20000 in
theorem gX1_place_X1_in : GoodIn wsX1_place (va_wsS RX1 47 yX1_in wsX1_in) := goodIn_app (goodIn_of _ (by decide +kernel)) ggX1_place_X1_in
set_option maxRecDepth 20000 in
theorem ggX1_place_X1_refused : GoodIn wsX1_place wsX1_refused := goodIn_r _ [16, 17, 18, 19, 20, 21, 22, 23, 24, 25, 26, 27, 28, 29, 30, 31] (by decide +kernel) (by decide +kernel)
set_option maxRecDepth 20000 in
theorem gX1_place_X1_refused : GoodIn wsX1_place (wsV RX1 56 RX1 yX1_refused wsX1_refused) := goodIn_app (goodIn_of _ (by decide +kernel)) ggX1_place_X1_refused
theorem dX1_place_0 : decode cX1_place 0 = .ok (.aload_n 0, 1) := by decide +kernel
theorem dX1_place_1 : decode cX1_place 1 = .ok (.aload_n 0, 1) := by decide +kernel
theorem dX1_place_2 : decode cX1_place 2 = .ok (.iload_n 1, 1) := by decide +kernel
theorem dX1_place_3 : decode cX1_place 3 = .ok (.invokevirtual 64, 3) := by decide +kernel
theorem dX1_place_6 : decode cX1_place 6 = .ok (.ifCond .ne 7, 3) := by decide +kernel
theorem dX1_place_9 : decode cX1_place 9 = .ok (.iconst 1, 1) := by decide +kernel
theorem dX1_place_10 : decode cX1_place 10 = .ok (.goto 39, 3) := by decide +kernel
theorem dX1_place_13 : decode cX1_place 13 = .ok (.iload_n 2, 1) := by decide +kernel
theorem dX1_place_14 : decode cX1_place 14 = .ok (.iconst 1, 1) := by decide +kernel
theorem dX1_place_15 : decode cX1_place 15 = .ok (.ldc 55, 2) := by decide +kernel
theorem dX1_place_17 : decode cX1_place 17 = .ok (.invokestatic 47, 3) := by decide +kernel
theorem dX1_place_20 : decode cX1_place 20 = .ok (.ifCond .ne 7, 3) := by decide +kernel
theorem dX1_place_23 : decode cX1_place 23 = .ok (.iconst 2, 1) := by decide +kernel
theorem dX1_place_24 : decode cX1_place 24 = .ok (.goto 25, 3) := by decide +kernel
theorem dX1_place_27 : decode cX1_place 27 = .ok (.iload_n 2, 1) := by decide +kernel
theorem dX1_place_28 : decode cX1_place 28 = .ok (.aload_n 0, 1) := by decide +kernel
theorem dX1_place_29 : decode cX1_place 29 = .ok (.getfield 13, 3) := by decide +kernel
theorem dX1_place_32 : decode cX1_place 32 = .ok (.iload_n 1, 1) := by decide +kernel
theorem dX1_place_33 : decode cX1_place 33 = .ok (.iaload, 1) := by decide +kernel
theorem dX1_place_34 : decode cX1_place 34 = .ok (.aload_n 0, 1) := by decide +kernel
theorem dX1_place_35 : decode cX1_place 35 = .ok (.getfield 16, 3) := by decide +kernel
theorem dX1_place_38 : decode cX1_place 38 = .ok (.iload_n 1, 1) := by decide +kernel
theorem dX1_place_39 : decode cX1_place 39 = .ok (.iaload, 1) := by decide +kernel
theorem dX1_place_40 : decode cX1_place 40 = .ok (.isub, 1) := by decide +kernel
theorem dX1_place_41 : decode cX1_place 41 = .ok (.if_icmp .le 7, 3) := by decide +kernel
theorem dX1_place_44 : decode cX1_place 44 = .ok (.iconst 3, 1) := by decide +kernel
theorem dX1_place_45 : decode cX1_place 45 = .ok (.goto 4, 3) := by decide +kernel
theorem dX1_place_48 : decode cX1_place 48 = .ok (.iconst 0, 1) := by decide +kernel
theorem dX1_place_49 : decode cX1_place 49 = .ok (.invokevirtual 56, 3) := by decide +kernel
theorem dX1_place_52 : decode cX1_place 52 = .ok (.ifCond .eq 5, 3) := by decide +kernel
theorem dX1_place_55 : decode cX1_place 55 = .ok (.iconst 0, 1) := by decide +kernel
theorem dX1_place_56 : decode cX1_place 56 = .ok (.ireturn, 1) := by decide +kernel
theorem dX1_place_57 : decode cX1_place 57 = .ok (.aload_n 0, 1) := by decide +kernel
theorem dX1_place_58 : decode cX1_place 58 = .ok (.getfield 16, 3) := by decide +kernel
theorem dX1_place_61 : decode cX1_place 61 = .ok (.iload_n 1, 1) := by decide +kernel
theorem dX1_place_62 : decode cX1_place 62 = .ok (.dup2, 1) := by decide +kernel
theorem dX1_place_63 : decode cX1_place 63 = .ok (.iaload, 1) := by decide +kernel
theorem dX1_place_64 : decode cX1_place 64 = .ok (.iload_n 2, 1) := by decide +kernel
theorem dX1_place_65 : decode cX1_place 65 = .ok (.iadd, 1) := by decide +kernel
theorem dX1_place_66 : decode cX1_place 66 = .ok (.iastore, 1) := by decide +kernel
theorem dX1_place_67 : decode cX1_place 67 = .ok (.aload_n 0, 1) := by decide +kernel
theorem dX1_place_68 : decode cX1_place 68 = .ok (.getfield 16, 3) := by decide +kernel
theorem dX1_place_71 : decode cX1_place 71 = .ok (.iload_n 1, 1) := by decide +kernel
theorem dX1_place_72 : decode cX1_place 72 = .ok (.iaload, 1) := by decide +kernel
theorem dX1_place_73 : decode cX1_place 73 = .ok (.ireturn, 1) := by decide +kernel
theorem dX1_countSteps_0 : decode cX1_countSteps 0 = .ok (.iconst 0, 1) := by decide +kernel
theorem dX1_countSteps_1 : decode cX1_countSteps 1 = .ok (.istore_n 1, 1) := by decide +kernel
theorem dX1_countSteps_2 : decode cX1_countSteps 2 = .ok (.iconst 0, 1) := by decide +kernel
theorem dX1_countSteps_3 : decode cX1_countSteps 3 = .ok (.istore_n 2, 1) := by decide +kernel
theorem dX1_countSteps_4 : decode cX1_countSteps 4 = .ok (.iload_n 2, 1) := by decide +kernel
theorem dX1_countSteps_5 : decode cX1_countSteps 5 = .ok (.sipush 1000, 3) := by decide +kernel
theorem dX1_countSteps_8 : decode cX1_countSteps 8 = .ok (.if_icmp .gt 27, 3) := by decide +kernel
theorem dX1_countSteps_11 : decode cX1_countSteps 11 = .ok (.iload_n 1, 1) := by decide +kernel
theorem dX1_countSteps_12 : decode cX1_countSteps 12 = .ok (.aload_n 0, 1) := by decide +kernel
theorem dX1_countSteps_13 : decode cX1_countSteps 13 = .ok (.getfield 25, 3) := by decide +kernel
theorem dX1_countSteps_16 : decode cX1_countSteps 16 = .ok (.iload_n 2, 1) := by decide +kernel
theorem dX1_countSteps_17 : decode cX1_countSteps 17 = .ok (.iaload, 1) := by decide +kernel
theorem dX1_countSteps_18 : decode cX1_countSteps 18 = .ok (.iconst (-1), 1) := by decide +kernel
theorem dX1_countSteps_19 : decode cX1_countSteps 19 = .ok (.if_icmp .ne 7, 3) := by decide +kernel
theorem dX1_countSteps_22 : decode cX1_countSteps 22 = .ok (.iconst 0, 1) := by decide +kernel
theorem dX1_countSteps_23 : decode cX1_countSteps 23 = .ok (.goto 4, 3) := by decide +kernel
theorem dX1_countSteps_26 : decode cX1_countSteps 26 = .ok (.iconst 1, 1) := by decide +kernel
theorem dX1_countSteps_27 : decode cX1_countSteps 27 = .ok (.iadd, 1) := by decide +kernel
theorem dX1_countSteps_28 : decode cX1_countSteps 28 = .ok (.istore_n 1, 1) := by decide +kernel
theorem dX1_countSteps_29 : decode cX1_countSteps 29 = .ok (.iinc 2 1, 3) := by decide +kernel
theorem dX1_countSteps_32 : decode cX1_countSteps 32 = .ok (.goto (-28), 3) := by decide +kernel
theorem dX1_countSteps_35 : decode cX1_countSteps 35 = .ok (.iload_n 1, 1) := by decide +kernel
theorem dX1_countSteps_36 : decode cX1_countSteps 36 = .ok (.ireturn, 1) := by decide +kernel
set_option maxRecDepth 20000 in
theorem ggX1_setStep_X1_in : GoodIn wsX1_setStep wsX1_in := goodIn_r _ [5] (by decide +kernel) (by decide +kernel)
set_option maxRecDepth 20000 in
theorem gX1_setStep_X1_in : GoodIn wsX1_setStep (va_wsS RX1 47 yX1_in wsX1_in) := goodIn_app (goodIn_of _ (by decide +kernel)) ggX1_setStep_X1_in
set_option maxRecDepth 20000 in
theorem ggX1_setStep_X1_countSteps : GoodIn wsX1_setStep wsX1_countSteps := goodIn_r _ [9, 1, 15, 16, 17, 18, 19, 20, 21, 22, 23, 24, 25, 26, 27, 28] (by decide +kernel) (by decide +kernel)
set_option maxRecDepth 20000 in
theorem gX1_setStep_X1_countSteps : GoodIn wsX1_setStep (wsV RX1 75 RX1 yX1_countSteps wsX1_countSteps) := goodIn_app (goodIn_of _ (by decide +kernel)) ggX1_setStep_X1_countSteps
set_option maxRecDepth 20000 in
theorem ggX1_setStep_X1_refused : GoodIn wsX1_setStep wsX1_refused := goodIn_r _ [13, 14, 15, 16, 17, 18, 19, 20, 21, 22, 23, 24, 25, 26, 27, 28] (by decide +kernel) (by decide +kernel)
set_option maxRecDepth 20000 in
theorem gX1_setStep_X1_refused : GoodIn wsX1_setStep (wsV RX1 56 RX1 yX1_refused wsX1_refused) := goodIn_app (goodIn_of _ (by decide +kernel)) ggX1_setStep_X1_refused
theorem dX1_setStep_0 : decode cX1_setStep 0 = .ok (.iload_n 1, 1) := by decide +kernel
theorem dX1_setStep_1 : decode cX1_setStep 1 = .ok (.iconst 0, 1) := by decide +kernel
theorem dX1_setStep_2 : decode cX1_setStep 2 = .ok (.sipush 1000, 3) := by decide +kernel
theorem dX1_setStep_5 : decode cX1_setStep 5 = .ok (.invokestatic 47, 3) := by decide +kernel
theorem dX1_setStep_8 : decode cX1_setStep 8 = .ok (.ifCond .eq 18, 3) := by decide +kernel
theorem dX1_setStep_11 : decode cX1_setStep 11 = .ok (.iload_n 2, 1) := by decide +kernel
theorem dX1_setStep_12 : decode cX1_setStep 12 = .ok (.iconst 0, 1) := by decide +kernel
theorem dX1_setStep_13 : decode cX1_setStep 13 = .ok (.sipush 1000, 3) := by decide +kernel
theorem dX1_setStep_16 : decode cX1_setStep 16 = .ok (.invokestatic 47, 3) := by decide +kernel
theorem dX1_setStep_19 : decode cX1_setStep 19 = .ok (.ifCond .eq 7, 3) := by decide +kernel
theorem dX1_setStep_22 : decode cX1_setStep 22 = .ok (.iconst 1, 1) := by decide +kernel
theorem dX1_setStep_23 : decode cX1_setStep 23 = .ok (.goto 4, 3) := by decide +kernel
theorem dX1_setStep_26 : decode cX1_setStep 26 = .ok (.iconst 0, 1) := by decide +kernel
theorem dX1_setStep_27 : decode cX1_setStep 27 = .ok (.istore_n 3, 1) := by decide +kernel
theorem dX1_setStep_28 : decode cX1_setStep 28 = .ok (.aload_n 0, 1) := by decide +kernel
theorem dX1_setStep_29 : decode cX1_setStep 29 = .ok (.iload_n 3, 1) := by decide +kernel
theorem dX1_setStep_30 : decode cX1_setStep 30 = .ok (.ifCond .ne 7, 3) := by decide +kernel
theorem dX1_setStep_33 : decode cX1_setStep 33 = .ok (.iconst 1, 1) := by decide +kernel
theorem dX1_setStep_34 : decode cX1_setStep 34 = .ok (.goto 27, 3) := by decide +kernel
theorem dX1_setStep_37 : decode cX1_setStep 37 = .ok (.aload_n 0, 1) := by decide +kernel
theorem dX1_setStep_38 : decode cX1_setStep 38 = .ok (.getfield 25, 3) := by decide +kernel
theorem dX1_setStep_41 : decode cX1_setStep 41 = .ok (.iload_n 1, 1) := by decide +kernel
theorem dX1_setStep_42 : decode cX1_setStep 42 = .ok (.iaload, 1) := by decide +kernel
theorem dX1_setStep_43 : decode cX1_setStep 43 = .ok (.iconst (-1), 1) := by decide +kernel
theorem dX1_setStep_44 : decode cX1_setStep 44 = .ok (.if_icmp .ne 16, 3) := by decide +kernel
theorem dX1_setStep_47 : decode cX1_setStep 47 = .ok (.aload_n 0, 1) := by decide +kernel
theorem dX1_setStep_48 : decode cX1_setStep 48 = .ok (.invokevirtual 75, 3) := by decide +kernel
theorem dX1_setStep_51 : decode cX1_setStep 51 = .ok (.bipush 6, 2) := by decide +kernel
theorem dX1_setStep_53 : decode cX1_setStep 53 = .ok (.if_icmp .ne 7, 3) := by decide +kernel
theorem dX1_setStep_56 : decode cX1_setStep 56 = .ok (.iconst 2, 1) := by decide +kernel
theorem dX1_setStep_57 : decode cX1_setStep 57 = .ok (.goto 4, 3) := by decide +kernel
theorem dX1_setStep_60 : decode cX1_setStep 60 = .ok (.iconst 0, 1) := by decide +kernel
theorem dX1_setStep_61 : decode cX1_setStep 61 = .ok (.invokevirtual 56, 3) := by decide +kernel
theorem dX1_setStep_64 : decode cX1_setStep 64 = .ok (.ifCond .eq 5, 3) := by decide +kernel
theorem dX1_setStep_67 : decode cX1_setStep 67 = .ok (.iconst 0, 1) := by decide +kernel
theorem dX1_setStep_68 : decode cX1_setStep 68 = .ok (.ireturn, 1) := by decide +kernel
theorem dX1_setStep_69 : decode cX1_setStep 69 = .ok (.aload_n 0, 1) := by decide +kernel
theorem dX1_setStep_70 : decode cX1_setStep 70 = .ok (.getfield 25, 3) := by decide +kernel
theorem dX1_setStep_73 : decode cX1_setStep 73 = .ok (.iload_n 1, 1) := by decide +kernel
theorem dX1_setStep_74 : decode cX1_setStep 74 = .ok (.iaload, 1) := by decide +kernel
theorem dX1_setStep_75 : decode cX1_setStep 75 = .ok (.istore 4, 2) := by decide +kernel
theorem dX1_setStep_77 : decode cX1_setStep 77 = .ok (.aload_n 0, 1) := by decide +kernel
theorem dX1_setStep_78 : decode cX1_setStep 78 = .ok (.getfield 25, 3) := by decide +kernel
theorem dX1_setStep_81 : decode cX1_setStep 81 = .ok (.iload_n 1, 1) := by decide +kernel
theorem dX1_setStep_82 : decode cX1_setStep 82 = .ok (.iload_n 2, 1) := by decide +kernel
theorem dX1_setStep_83 : decode cX1_setStep 83 = .ok (.iastore, 1) := by decide +kernel
theorem dX1_setStep_84 : decode cX1_setStep 84 = .ok (.iload 4, 2) := by decide +kernel
theorem dX1_setStep_86 : decode cX1_setStep 86 = .ok (.ireturn, 1) := by decide +kernel
set_option maxRecDepth 20000 in
theorem ggX1_dropStep_X1_in : GoodIn wsX1_dropStep wsX1_in := goodIn_r _ [5] (by decide +kernel) (by decide +kernel)
set_option maxRecDepth 20000 in
theorem gX1_dropStep_X1_in : GoodIn wsX1_dropStep (va_wsS RX1 47 yX1_in wsX1_in) := goodIn_app (goodIn_of _ (by decide +kernel)) ggX1_dropStep_X1_in
set_option maxRecDepth 20000 in
theorem ggX1_dropStep_X1_refused : GoodIn wsX1_dropStep wsX1_refused := goodIn_r _ [9, 10, 11, 12, 13, 14, 15, 16, 17, 18, 19, 20, 21, 22, 23, 24] (by decide +kernel) (by decide +kernel)
set_option maxRecDepth 20000 in
theorem gX1_dropStep_X1_refused : GoodIn wsX1_dropStep (wsV RX1 56 RX1 yX1_refused wsX1_refused) := goodIn_app (goodIn_of _ (by decide +kernel)) ggX1_dropStep_X1_refused
theorem dX1_dropStep_0 : decode cX1_dropStep 0 = .ok (.iload_n 1, 1) := by decide +kernel
theorem dX1_dropStep_1 : decode cX1_dropStep 1 = .ok (.iconst 1, 1) := by decide +kernel
theorem dX1_dropStep_2 : decode cX1_dropStep 2 = .ok (.sipush 1000, 3) := by decide +kernel
theorem dX1_dropStep_5 : decode cX1_dropStep 5 = .ok (.invokestatic 47, 3) := by decide +kernel
theorem dX1_dropStep_8 : decode cX1_dropStep 8 = .ok (.istore_n 2, 1) := by decide +kernel
theorem dX1_dropStep_9 : decode cX1_dropStep 9 = .ok (.aload_n 0, 1) := by decide +kernel
theorem dX1_dropStep_10 : decode cX1_dropStep 10 = .ok (.iload_n 2, 1) := by decide +kernel
theorem dX1_dropStep_11 : decode cX1_dropStep 11 = .ok (.ifCond .ne 7, 3) := by decide +kernel
theorem dX1_dropStep_14 : decode cX1_dropStep 14 = .ok (.iconst 1, 1) := by decide +kernel
theorem dX1_dropStep_15 : decode cX1_dropStep 15 = .ok (.goto 18, 3) := by decide +kernel
theorem dX1_dropStep_18 : decode cX1_dropStep 18 = .ok (.aload_n 0, 1) := by decide +kernel
theorem dX1_dropStep_19 : decode cX1_dropStep 19 = .ok (.getfield 25, 3) := by decide +kernel
theorem dX1_dropStep_22 : decode cX1_dropStep 22 = .ok (.iload_n 1, 1) := by decide +kernel
theorem dX1_dropStep_23 : decode cX1_dropStep 23 = .ok (.iaload, 1) := by decide +kernel
theorem dX1_dropStep_24 : decode cX1_dropStep 24 = .ok (.iconst (-1), 1) := by decide +kernel
theorem dX1_dropStep_25 : decode cX1_dropStep 25 = .ok (.if_icmp .ne 7, 3) := by decide +kernel
theorem dX1_dropStep_28 : decode cX1_dropStep 28 = .ok (.iconst 2, 1) := by decide +kernel
theorem dX1_dropStep_29 : decode cX1_dropStep 29 = .ok (.goto 4, 3) := by decide +kernel
theorem dX1_dropStep_32 : decode cX1_dropStep 32 = .ok (.iconst 0, 1) := by decide +kernel
theorem dX1_dropStep_33 : decode cX1_dropStep 33 = .ok (.invokevirtual 56, 3) := by decide +kernel
theorem dX1_dropStep_36 : decode cX1_dropStep 36 = .ok (.ifCond .eq 5, 3) := by decide +kernel
theorem dX1_dropStep_39 : decode cX1_dropStep 39 = .ok (.iconst 0, 1) := by decide +kernel
theorem dX1_dropStep_40 : decode cX1_dropStep 40 = .ok (.ireturn, 1) := by decide +kernel
theorem dX1_dropStep_41 : decode cX1_dropStep 41 = .ok (.aload_n 0, 1) := by decide +kernel
theorem dX1_dropStep_42 : decode cX1_dropStep 42 = .ok (.getfield 25, 3) := by decide +kernel
theorem dX1_dropStep_45 : decode cX1_dropStep 45 = .ok (.iload_n 1, 1) := by decide +kernel
theorem dX1_dropStep_46 : decode cX1_dropStep 46 = .ok (.iaload, 1) := by decide +kernel
theorem dX1_dropStep_47 : decode cX1_dropStep 47 = .ok (.istore_n 3, 1) := by decide +kernel
theorem dX1_dropStep_48 : decode cX1_dropStep 48 = .ok (.aload_n 0, 1) := by decide +kernel
theorem dX1_dropStep_49 : decode cX1_dropStep 49 = .ok (.getfield 25, 3) := by decide +kernel
theorem dX1_dropStep_52 : decode cX1_dropStep 52 = .ok (.iload_n 1, 1) := by decide +kernel
theorem dX1_dropStep_53 : decode cX1_dropStep 53 = .ok (.iconst (-1), 1) := by decide +kernel
theorem dX1_dropStep_54 : decode cX1_dropStep 54 = .ok (.iastore, 1) := by decide +kernel
theorem dX1_dropStep_55 : decode cX1_dropStep 55 = .ok (.iload_n 3, 1) := by decide +kernel
theorem dX1_dropStep_56 : decode cX1_dropStep 56 = .ok (.ireturn, 1) := by decide +kernel
theorem dX1_hold_0 : decode cX1_hold 0 = .ok (.aload_n 0, 1) := by decide +kernel
theorem dX1_hold_1 : decode cX1_hold 1 = .ok (.iconst 0, 1) := by decide +kernel
theorem dX1_hold_2 : decode cX1_hold 2 = .ok (.putfield 40, 3) := by decide +kernel
theorem dX1_hold_5 : decode cX1_hold 5 = .ok (.aload_n 0, 1) := by decide +kernel
theorem dX1_hold_6 : decode cX1_hold 6 = .ok (.getfield 79, 3) := by decide +kernel
theorem dX1_hold_9 : decode cX1_hold 9 = .ok (.istore_n 2, 1) := by decide +kernel
theorem dX1_hold_10 : decode cX1_hold 10 = .ok (.aload_n 0, 1) := by decide +kernel
theorem dX1_hold_11 : decode cX1_hold 11 = .ok (.iload_n 1, 1) := by decide +kernel
theorem dX1_hold_12 : decode cX1_hold 12 = .ok (.putfield 79, 3) := by decide +kernel
theorem dX1_hold_15 : decode cX1_hold 15 = .ok (.iload_n 2, 1) := by decide +kernel
theorem dX1_hold_16 : decode cX1_hold 16 = .ok (.ireturn, 1) := by decide +kernel
set_option maxRecDepth 20000 in
theorem ggX1_steps_X1_countSteps : GoodIn wsX1_steps wsX1_countSteps := goodIn_r _ [5, 6, 12, 13, 14, 15, 16, 17, 18, 19, 20, 21, 22, 23, 24, 25] (by decide +kernel) (by decide +kernel)
set_option maxRecDepth 20000 in
theorem gX1_steps_X1_countSteps : GoodIn wsX1_steps (wsV RX1 75 RX1 yX1_countSteps wsX1_countSteps) := goodIn_app (goodIn_of _ (by decide +kernel)) ggX1_steps_X1_countSteps
set_option maxRecDepth 20000 in
theorem ggX1_steps_X1_fine : GoodIn wsX1_steps wsX1_fine := goodIn_r _ [10, 11, 12, 13, 14, 15, 16, 17, 18, 19, 20, 21, 22, 23, 24, 25] (by decide +kernel) (by decide +kernel)
set_option maxRecDepth 20000 in
theorem gX1_steps_X1_fine : GoodIn wsX1_steps (wsV RX1 83 RX1 yX1_fine wsX1_fine) := goodIn_app (goodIn_of _ (by decide +kernel)) ggX1_steps_X1_fine
theorem dX1_steps_0 : decode cX1_steps 0 = .ok (.aload_n 0, 1) := by decide +kernel
theorem dX1_steps_1 : decode cX1_steps 1 = .ok (.aload_n 0, 1) := by decide +kernel
theorem dX1_steps_2 : decode cX1_steps 2 = .ok (.invokevirtual 75, 3) := by decide +kernel
theorem dX1_steps_5 : decode cX1_steps 5 = .ok (.invokevirtual 83, 3) := by decide +kernel
theorem dX1_steps_8 : decode cX1_steps 8 = .ok (.ireturn, 1) := by decide +kernel
theorem dX1_sum_0 : decode cX1_sum 0 = .ok (.iconst 0, 1) := by decide +kernel
theorem dX1_sum_1 : decode cX1_sum 1 = .ok (.istore_n 2, 1) := by decide +kernel
theorem dX1_sum_2 : decode cX1_sum 2 = .ok (.iconst 0, 1) := by decide +kernel
theorem dX1_sum_3 : decode cX1_sum 3 = .ok (.istore_n 3, 1) := by decide +kernel
theorem dX1_sum_4 : decode cX1_sum 4 = .ok (.iload_n 3, 1) := by decide +kernel
theorem dX1_sum_5 : decode cX1_sum 5 = .ok (.aload_n 0, 1) := by decide +kernel
theorem dX1_sum_6 : decode cX1_sum 6 = .ok (.getfield 44, 3) := by decide +kernel
theorem dX1_sum_9 : decode cX1_sum 9 = .ok (.if_icmp .ge 15, 3) := by decide +kernel
theorem dX1_sum_12 : decode cX1_sum 12 = .ok (.iload_n 2, 1) := by decide +kernel
theorem dX1_sum_13 : decode cX1_sum 13 = .ok (.aload_n 1, 1) := by decide +kernel
theorem dX1_sum_14 : decode cX1_sum 14 = .ok (.iload_n 3, 1) := by decide +kernel
theorem dX1_sum_15 : decode cX1_sum 15 = .ok (.iaload, 1) := by decide +kernel
theorem dX1_sum_16 : decode cX1_sum 16 = .ok (.iadd, 1) := by decide +kernel
theorem dX1_sum_17 : decode cX1_sum 17 = .ok (.istore_n 2, 1) := by decide +kernel
theorem dX1_sum_18 : decode cX1_sum 18 = .ok (.iinc 3 1, 3) := by decide +kernel
theorem dX1_sum_21 : decode cX1_sum 21 = .ok (.goto (-17), 3) := by decide +kernel
theorem dX1_sum_24 : decode cX1_sum 24 = .ok (.iload_n 2, 1) := by decide +kernel
theorem dX1_sum_25 : decode cX1_sum 25 = .ok (.ireturn, 1) := by decide +kernel
set_option maxRecDepth 20000 in
theorem ggX1_reached_X1_sum : GoodIn wsX1_reached wsX1_sum := goodIn_r _ [8, 9, 10, 11, 12, 13, 14, 15, 16, 17, 18, 19, 20, 21, 22, 23] (by decide +kernel) (by decide +kernel)
set_option maxRecDepth 20000 in
theorem gX1_reached_X1_sum : GoodIn wsX1_reached (wsV RX1 87 RX1 yX1_sum wsX1_sum) := goodIn_app (goodIn_of _ (by decide +kernel)) ggX1_reached_X1_sum
theorem dX1_reached_0 : decode cX1_reached 0 = .ok (.aload_n 0, 1) := by decide +kernel
theorem dX1_reached_1 : decode cX1_reached 1 = .ok (.aload_n 0, 1) := by decide +kernel
theorem dX1_reached_2 : decode cX1_reached 2 = .ok (.getfield 7, 3) := by decide +kernel
theorem dX1_reached_5 : decode cX1_reached 5 = .ok (.invokevirtual 87, 3) := by decide +kernel
theorem dX1_reached_8 : decode cX1_reached 8 = .ok (.ifCond .ne 7, 3) := by decide +kernel
theorem dX1_reached_11 : decode cX1_reached 11 = .ok (.iconst 0, 1) := by decide +kernel
theorem dX1_reached_12 : decode cX1_reached 12 = .ok (.goto 27, 3) := by decide +kernel
theorem dX1_reached_15 : decode cX1_reached 15 = .ok (.aload_n 0, 1) := by decide +kernel
theorem dX1_reached_16 : decode cX1_reached 16 = .ok (.aload_n 0, 1) := by decide +kernel
theorem dX1_reached_17 : decode cX1_reached 17 = .ok (.getfield 16, 3) := by decide +kernel
theorem dX1_reached_20 : decode cX1_reached 20 = .ok (.invokevirtual 87, 3) := by decide +kernel
theorem dX1_reached_23 : decode cX1_reached 23 = .ok (.i2l, 1) := by decide +kernel
theorem dX1_reached_24 : decode cX1_reached 24 = .ok (.ldc2_w 53, 3) := by decide +kernel
theorem dX1_reached_27 : decode cX1_reached 27 = .ok (.lmul, 1) := by decide +kernel
theorem dX1_reached_28 : decode cX1_reached 28 = .ok (.aload_n 0, 1) := by decide +kernel
theorem dX1_reached_29 : decode cX1_reached 29 = .ok (.aload_n 0, 1) := by decide +kernel
theorem dX1_reached_30 : decode cX1_reached 30 = .ok (.getfield 7, 3) := by decide +kernel
theorem dX1_reached_33 : decode cX1_reached 33 = .ok (.invokevirtual 87, 3) := by decide +kernel
theorem dX1_reached_36 : decode cX1_reached 36 = .ok (.i2l, 1) := by decide +kernel
theorem dX1_reached_37 : decode cX1_reached 37 = .ok (.ldiv, 1) := by decide +kernel
theorem dX1_reached_38 : decode cX1_reached 38 = .ok (.l2i, 1) := by decide +kernel
theorem dX1_reached_39 : decode cX1_reached 39 = .ok (.ireturn, 1) := by decide +kernel
set_option maxRecDepth 20000 in
theorem ggX1_progress_X1_reached : GoodIn wsX1_progress wsX1_reached := goodIn_r _ [5, 6, 7, 8, 9, 10, 11, 4, 12, 13, 19, 20, 21, 22, 23, 24, 25, 26, 27, 28, 29, 30, 31, 32] (by decide +kernel) (by decide +kernel)
set_option maxRecDepth 20000 in
theorem gX1_progress_X1_reached : GoodIn wsX1_progress (wsV RX1 91 RX1 yX1_reached wsX1_reached) := goodIn_app (goodIn_of _ (by decide +kernel)) ggX1_progress_X1_reached
set_option maxRecDepth 20000 in
theorem ggX1_progress_X1_fine : GoodIn wsX1_progress wsX1_fine := goodIn_r _ [17, 18, 19, 20, 21, 22, 23, 24, 25, 26, 27, 28, 29, 30, 31, 32] (by decide +kernel) (by decide +kernel)
set_option maxRecDepth 20000 in
theorem gX1_progress_X1_fine : GoodIn wsX1_progress (wsV RX1 83 RX1 yX1_fine wsX1_fine) := goodIn_app (goodIn_of _ (by decide +kernel)) ggX1_progress_X1_fine
theorem dX1_progress_0 : decode cX1_progress 0 = .ok (.aload_n 0, 1) := by decide +kernel
theorem dX1_progress_1 : decode cX1_progress 1 = .ok (.aload_n 0, 1) := by decide +kernel
theorem dX1_progress_2 : decode cX1_progress 2 = .ok (.invokevirtual 91, 3) := by decide +kernel
theorem dX1_progress_5 : decode cX1_progress 5 = .ok (.invokevirtual 83, 3) := by decide +kernel
theorem dX1_progress_8 : decode cX1_progress 8 = .ok (.ireturn, 1) := by decide +kernel
set_option maxRecDepth 20000 in
theorem ggX1_rateNow_X1_reached : GoodIn wsX1_rateNow wsX1_reached := goodIn_r _ [6, 7, 8, 9, 10, 11, 12, 5, 13, 14, 15, 16, 17, 18, 19, 20, 21, 22, 23, 24, 25, 26, 27, 28] (by decide +kernel) (by decide +kernel)
set_option maxRecDepth 20000 in
theorem gX1_rateNow_X1_reached : GoodIn wsX1_rateNow (wsV RX1 91 RX1 yX1_reached wsX1_reached) := goodIn_app (goodIn_of _ (by decide +kernel)) ggX1_rateNow_X1_reached
theorem dX1_rateNow_0 : decode cX1_rateNow 0 = .ok (.aload_n 0, 1) := by decide +kernel
theorem dX1_rateNow_1 : decode cX1_rateNow 1 = .ok (.invokevirtual 91, 3) := by decide +kernel
theorem dX1_rateNow_4 : decode cX1_rateNow 4 = .ok (.istore_n 1, 1) := by decide +kernel
theorem dX1_rateNow_5 : decode cX1_rateNow 5 = .ok (.aload_n 0, 1) := by decide +kernel
theorem dX1_rateNow_6 : decode cX1_rateNow 6 = .ok (.getfield 25, 3) := by decide +kernel
theorem dX1_rateNow_9 : decode cX1_rateNow 9 = .ok (.iload_n 1, 1) := by decide +kernel
theorem dX1_rateNow_10 : decode cX1_rateNow 10 = .ok (.iaload, 1) := by decide +kernel
theorem dX1_rateNow_11 : decode cX1_rateNow 11 = .ok (.iconst (-1), 1) := by decide +kernel
theorem dX1_rateNow_12 : decode cX1_rateNow 12 = .ok (.if_icmp .ne 9, 3) := by decide +kernel
theorem dX1_rateNow_15 : decode cX1_rateNow 15 = .ok (.iinc 1 (-1), 3) := by decide +kernel
theorem dX1_rateNow_18 : decode cX1_rateNow 18 = .ok (.goto (-13), 3) := by decide +kernel
theorem dX1_rateNow_21 : decode cX1_rateNow 21 = .ok (.aload_n 0, 1) := by decide +kernel
theorem dX1_rateNow_22 : decode cX1_rateNow 22 = .ok (.getfield 25, 3) := by decide +kernel
theorem dX1_rateNow_25 : decode cX1_rateNow 25 = .ok (.iload_n 1, 1) := by decide +kernel
theorem dX1_rateNow_26 : decode cX1_rateNow 26 = .ok (.iaload, 1) := by decide +kernel
theorem dX1_rateNow_27 : decode cX1_rateNow 27 = .ok (.ireturn, 1) := by decide +kernel
set_option maxRecDepth 20000 in
theorem ggX1_rate_X1_rateNow : GoodIn wsX1_rate wsX1_rateNow := goodIn_r _ [5, 6, 7, 8, 9, 4, 10, 11, 12, 13, 14, 15, 16, 17, 18, 24, 25, 26, 27, 28, 29, 30, 31, 32, 33, 34, 35, 36, 37] (by decide +kernel) (by decide +kernel)
set_option maxRecDepth 20000 in
theorem gX1_rate_X1_rateNow : GoodIn wsX1_rate (wsV RX1 94 RX1 yX1_rateNow wsX1_rateNow) := goodIn_app (goodIn_of _ (by decide +kernel)) ggX1_rate_X1_rateNow
set_option maxRecDepth 20000 in
theorem ggX1_rate_X1_fine : GoodIn wsX1_rate wsX1_fine := goodIn_r _ [22, 23, 24, 25, 26, 27, 28, 29, 30, 31, 32, 33, 34, 35, 36, 37] (by decide +kernel) (by decide +kernel)
set_option maxRecDepth 20000 in
theorem gX1_rate_X1_fine : GoodIn wsX1_rate (wsV RX1 83 RX1 yX1_fine wsX1_fine) := goodIn_app (goodIn_of _ (by decide +kernel)) ggX1_rate_X1_fine
theorem dX1_rate_0 : decode cX1_rate 0 = .ok (.aload_n 0, 1) := by decide +kernel
theorem dX1_rate_1 : decode cX1_rate 1 = .ok (.aload_n 0, 1) := by decide +kernel
theorem dX1_rate_2 : decode cX1_rate 2 = .ok (.invokevirtual 94, 3) := by decide +kernel
theorem dX1_rate_5 : decode cX1_rate 5 = .ok (.invokevirtual 83, 3) := by decide +kernel
theorem dX1_rate_8 : decode cX1_rate 8 = .ok (.ireturn, 1) := by decide +kernel
set_option maxRecDepth 20000 in
theorem ggX1_holdsThen_X1_rateNow : GoodIn wsX1_holdsThen wsX1_rateNow := goodIn_r _ [9, 10, 11, 12, 13, 8, 14, 15, 16, 17, 18, 19, 20, 21, 22, 27, 28, 29, 30, 31, 32, 33, 34, 35, 36, 37, 38, 39, 40] (by decide +kernel) (by decide +kernel)
set_option maxRecDepth 20000 in
theorem gX1_holdsThen_X1_rateNow : GoodIn wsX1_holdsThen (wsV RX1 94 RX1 yX1_rateNow wsX1_rateNow) := goodIn_app (goodIn_of _ (by decide +kernel)) ggX1_holdsThen_X1_rateNow
set_option maxRecDepth 20000 in
theorem ggX1_holdsThen_X1_thousandths : GoodIn wsX1_holdsThen wsX1_thousandths := goodIn_r _ [25, 26, 17] (by decide +kernel) (by decide +kernel)
set_option maxRecDepth 20000 in
theorem gX1_holdsThen_X1_thousandths : GoodIn wsX1_holdsThen (va_wsS RX1 71 yX1_thousandths wsX1_thousandths) := goodIn_app (goodIn_of _ (by decide +kernel)) ggX1_holdsThen_X1_thousandths
theorem dX1_holdsThen_0 : decode cX1_holdsThen 0 = .ok (.aload_n 0, 1) := by decide +kernel
theorem dX1_holdsThen_1 : decode cX1_holdsThen 1 = .ok (.invokevirtual 94, 3) := by decide +kernel
theorem dX1_holdsThen_4 : decode cX1_holdsThen 4 = .ok (.istore_n 2, 1) := by decide +kernel
theorem dX1_holdsThen_5 : decode cX1_holdsThen 5 = .ok (.aload_n 0, 1) := by decide +kernel
theorem dX1_holdsThen_6 : decode cX1_holdsThen 6 = .ok (.getfield 79, 3) := by decide +kernel
theorem dX1_holdsThen_9 : decode cX1_holdsThen 9 = .ok (.ifCond .eq 30, 3) := by decide +kernel
theorem dX1_holdsThen_12 : decode cX1_holdsThen 12 = .ok (.aload_n 0, 1) := by decide +kernel
theorem dX1_holdsThen_13 : decode cX1_holdsThen 13 = .ok (.getfield 22, 3) := by decide +kernel
theorem dX1_holdsThen_16 : decode cX1_holdsThen 16 = .ok (.iload_n 1, 1) := by decide +kernel
theorem dX1_holdsThen_17 : decode cX1_holdsThen 17 = .ok (.iaload, 1) := by decide +kernel
theorem dX1_holdsThen_18 : decode cX1_holdsThen 18 = .ok (.aload_n 0, 1) := by decide +kernel
theorem dX1_holdsThen_19 : decode cX1_holdsThen 19 = .ok (.getfield 13, 3) := by decide +kernel
theorem dX1_holdsThen_22 : decode cX1_holdsThen 22 = .ok (.iload_n 1, 1) := by decide +kernel
theorem dX1_holdsThen_23 : decode cX1_holdsThen 23 = .ok (.iaload, 1) := by decide +kernel
theorem dX1_holdsThen_24 : decode cX1_holdsThen 24 = .ok (.aload_n 0, 1) := by decide +kernel
theorem dX1_holdsThen_25 : decode cX1_holdsThen 25 = .ok (.getfield 19, 3) := by decide +kernel
theorem dX1_holdsThen_28 : decode cX1_holdsThen 28 = .ok (.iload_n 1, 1) := by decide +kernel
theorem dX1_holdsThen_29 : decode cX1_holdsThen 29 = .ok (.iaload, 1) := by decide +kernel
theorem dX1_holdsThen_30 : decode cX1_holdsThen 30 = .ok (.isub, 1) := by decide +kernel
theorem dX1_holdsThen_31 : decode cX1_holdsThen 31 = .ok (.iload_n 2, 1) := by decide +kernel
theorem dX1_holdsThen_32 : decode cX1_holdsThen 32 = .ok (.invokestatic 71, 3) := by decide +kernel
theorem dX1_holdsThen_35 : decode cX1_holdsThen 35 = .ok (.iadd, 1) := by decide +kernel
theorem dX1_holdsThen_36 : decode cX1_holdsThen 36 = .ok (.goto 13, 3) := by decide +kernel
theorem dX1_holdsThen_39 : decode cX1_holdsThen 39 = .ok (.aload_n 0, 1) := by decide +kernel
theorem dX1_holdsThen_40 : decode cX1_holdsThen 40 = .ok (.getfield 13, 3) := by decide +kernel
theorem dX1_holdsThen_43 : decode cX1_holdsThen 43 = .ok (.iload_n 1, 1) := by decide +kernel
theorem dX1_holdsThen_44 : decode cX1_holdsThen 44 = .ok (.iaload, 1) := by decide +kernel
theorem dX1_holdsThen_45 : decode cX1_holdsThen 45 = .ok (.iload_n 2, 1) := by decide +kernel
theorem dX1_holdsThen_46 : decode cX1_holdsThen 46 = .ok (.invokestatic 71, 3) := by decide +kernel
theorem dX1_holdsThen_49 : decode cX1_holdsThen 49 = .ok (.ireturn, 1) := by decide +kernel
set_option maxRecDepth 20000 in
theorem ggX1_amountNow_X1_sum : GoodIn wsX1_amountNow wsX1_sum := goodIn_r _ [9, 2, 33, 34, 35, 36, 37, 38, 39, 40, 41, 42, 43, 44, 45, 46] (by decide +kernel) (by decide +kernel)
set_option maxRecDepth 20000 in
theorem gX1_amountNow_X1_sum : GoodIn wsX1_amountNow (wsV RX1 87 RX1 yX1_sum wsX1_sum) := goodIn_app (goodIn_of _ (by decide +kernel)) ggX1_amountNow_X1_sum
set_option maxRecDepth 20000 in
theorem ggX1_amountNow_X1_holdsThen : GoodIn wsX1_amountNow wsX1_holdsThen := goodIn_r _ [13, 14, 15, 1, 16, 17, 18, 19, 8, 20, 21, 22, 23, 24, 25, 26, 27, 28, 5, 6, 7, 9, 2, 29, 30, 31, 32, 33, 34, 35, 36, 37, 38, 39, 40, 41, 42, 43, 44, 45, 46] (by decide +kernel) (by decide +kernel)
set_option maxRecDepth 20000 in
theorem gX1_amountNow_X1_holdsThen : GoodIn wsX1_amountNow (wsV RX1 97 RX1 yX1_holdsThen wsX1_holdsThen) := goodIn_app (goodIn_of _ (by decide +kernel)) ggX1_amountNow_X1_holdsThen
theorem dX1_amountNow_0 : decode cX1_amountNow 0 = .ok (.aload_n 0, 1) := by decide +kernel
theorem dX1_amountNow_1 : decode cX1_amountNow 1 = .ok (.aload_n 0, 1) := by decide +kernel
theorem dX1_amountNow_2 : decode cX1_amountNow 2 = .ok (.getfield 13, 3) := by decide +kernel
theorem dX1_amountNow_5 : decode cX1_amountNow 5 = .ok (.invokevirtual 87, 3) := by decide +kernel
theorem dX1_amountNow_8 : decode cX1_amountNow 8 = .ok (.istore_n 1, 1) := by decide +kernel
theorem dX1_amountNow_9 : decode cX1_amountNow 9 = .ok (.iconst 0, 1) := by decide +kernel
theorem dX1_amountNow_10 : decode cX1_amountNow 10 = .ok (.istore_n 2, 1) := by decide +kernel
theorem dX1_amountNow_11 : decode cX1_amountNow 11 = .ok (.iload_n 2, 1) := by decide +kernel
theorem dX1_amountNow_12 : decode cX1_amountNow 12 = .ok (.aload_n 0, 1) := by decide +kernel
theorem dX1_amountNow_13 : decode cX1_amountNow 13 = .ok (.getfield 44, 3) := by decide +kernel
theorem dX1_amountNow_16 : decode cX1_amountNow 16 = .ok (.if_icmp .ge 17, 3) := by decide +kernel
theorem dX1_amountNow_19 : decode cX1_amountNow 19 = .ok (.iload_n 1, 1) := by decide +kernel
theorem dX1_amountNow_20 : decode cX1_amountNow 20 = .ok (.aload_n 0, 1) := by decide +kernel
theorem dX1_amountNow_21 : decode cX1_amountNow 21 = .ok (.iload_n 2, 1) := by decide +kernel
theorem dX1_amountNow_22 : decode cX1_amountNow 22 = .ok (.invokevirtual 97, 3) := by decide +kernel
theorem dX1_amountNow_25 : decode cX1_amountNow 25 = .ok (.isub, 1) := by decide +kernel
theorem dX1_amountNow_26 : decode cX1_amountNow 26 = .ok (.istore_n 1, 1) := by decide +kernel
theorem dX1_amountNow_27 : decode cX1_amountNow 27 = .ok (.iinc 2 1, 3) := by decide +kernel
theorem dX1_amountNow_30 : decode cX1_amountNow 30 = .ok (.goto (-19), 3) := by decide +kernel
theorem dX1_amountNow_33 : decode cX1_amountNow 33 = .ok (.iconst 0, 1) := by decide +kernel
theorem dX1_amountNow_34 : decode cX1_amountNow 34 = .ok (.istore_n 2, 1) := by decide +kernel
theorem dX1_amountNow_35 : decode cX1_amountNow 35 = .ok (.iload_n 2, 1) := by decide +kernel
theorem dX1_amountNow_36 : decode cX1_amountNow 36 = .ok (.aload_n 0, 1) := by decide +kernel
theorem dX1_amountNow_37 : decode cX1_amountNow 37 = .ok (.getfield 100, 3) := by decide +kernel
theorem dX1_amountNow_40 : decode cX1_amountNow 40 = .ok (.if_icmp .ge 18, 3) := by decide +kernel
theorem dX1_amountNow_43 : decode cX1_amountNow 43 = .ok (.iload_n 1, 1) := by decide +kernel
theorem dX1_amountNow_44 : decode cX1_amountNow 44 = .ok (.aload_n 0, 1) := by decide +kernel
theorem dX1_amountNow_45 : decode cX1_amountNow 45 = .ok (.getfield 31, 3) := by decide +kernel
theorem dX1_amountNow_48 : decode cX1_amountNow 48 = .ok (.iload_n 2, 1) := by decide +kernel
theorem dX1_amountNow_49 : decode cX1_amountNow 49 = .ok (.iaload, 1) := by decide +kernel
theorem dX1_amountNow_50 : decode cX1_amountNow 50 = .ok (.isub, 1) := by decide +kernel
theorem dX1_amountNow_51 : decode cX1_amountNow 51 = .ok (.istore_n 1, 1) := by decide +kernel
theorem dX1_amountNow_52 : decode cX1_amountNow 52 = .ok (.iinc 2 1, 3) := by decide +kernel
theorem dX1_amountNow_55 : decode cX1_amountNow 55 = .ok (.goto (-20), 3) := by decide +kernel
theorem dX1_amountNow_58 : decode cX1_amountNow 58 = .ok (.iload_n 1, 1) := by decide +kernel
theorem dX1_amountNow_59 : decode cX1_amountNow 59 = .ok (.ireturn, 1) := by decide +kernel
set_option maxRecDepth 20000 in
theorem ggX1_close_X1_refused : GoodIn wsX1_close wsX1_refused := goodIn_r _ [14, 15, 45, 46, 47, 48, 49, 50, 51, 52, 53, 54, 55, 56, 57, 58] (by decide +kernel) (by decide +kernel)
set_option maxRecDepth 20000 in
theorem gX1_close_X1_refused : GoodIn wsX1_close (wsV RX1 56 RX1 yX1_refused wsX1_refused) := goodIn_app (goodIn_of _ (by decide +kernel)) ggX1_close_X1_refused
set_option maxRecDepth 20000 in
theorem ggX1_close_X1_amountNow : GoodIn wsX1_close wsX1_amountNow := goodIn_r _ [19, 6, 1, 2, 3, 20, 21, 22, 13, 23, 24, 25, 26, 27, 28, 4, 5, 29, 30, 31, 32, 33, 34, 35, 36, 37, 38, 39, 40, 41, 42, 43, 44, 45, 46, 47, 48, 49, 50, 51, 52, 53, 54, 55, 56, 57, 58] (by decide +kernel) (by decide +kernel)
set_option maxRecDepth 20000 in
theorem gX1_close_X1_amountNow : GoodIn wsX1_close (wsV RX1 103 RX1 yX1_amountNow wsX1_amountNow) := goodIn_app (goodIn_of _ (by decide +kernel)) ggX1_close_X1_amountNow
set_option maxRecDepth 20000 in
theorem ggX1_close_X1_holdsThen : GoodIn wsX1_close wsX1_holdsThen := goodIn_r _ [27, 28, 4, 6, 5, 29, 30, 31, 13, 32, 33, 34, 35, 36, 37, 38, 39, 40, 20, 21, 22, 23, 1, 41, 42, 43, 44, 45, 46, 47, 48, 49, 50, 51, 52, 53, 54, 55, 56, 57, 58] (by decide +kernel) (by decide +kernel)
set_option maxRecDepth 20000 in
theorem gX1_close_X1_holdsThen : GoodIn wsX1_close (wsV RX1 97 RX1 yX1_holdsThen wsX1_holdsThen) := goodIn_app (goodIn_of _ (by decide +kernel)) ggX1_close_X1_holdsThen
set_option maxRecDepth 20000 in
theorem ggX1_close_X1_sum : GoodIn wsX1_close wsX1_sum := goodIn_r _ [23, 1, 45, 46, 47, 48, 49, 50, 51, 52, 53, 54, 55, 56, 57, 58] (by decide +kernel) (by decide +kernel)
set_option maxRecDepth 20000 in
theorem gX1_close_X1_sum : GoodIn wsX1_close (wsV RX1 87 RX1 yX1_sum wsX1_sum) := goodIn_app (goodIn_of _ (by decide +kernel)) ggX1_close_X1_sum
theorem dX1_close_0 : decode cX1_close 0 = .ok (.aload_n 0, 1) := by decide +kernel
theorem dX1_close_1 : decode cX1_close 1 = .ok (.aload_n 0, 1) := by decide +kernel
theorem dX1_close_2 : decode cX1_close 2 = .ok (.getfield 44, 3) := by decide +kernel
theorem dX1_close_5 : decode cX1_close 5 = .ok (.ifCond .eq 12, 3) := by decide +kernel
theorem dX1_close_8 : decode cX1_close 8 = .ok (.aload_n 0, 1) := by decide +kernel
theorem dX1_close_9 : decode cX1_close 9 = .ok (.getfield 100, 3) := by decide +kernel
theorem dX1_close_12 : decode cX1_close 12 = .ok (.bipush 60, 2) := by decide +kernel
theorem dX1_close_14 : decode cX1_close 14 = .ok (.if_icmp .ne 7, 3) := by decide +kernel
theorem dX1_close_17 : decode cX1_close 17 = .ok (.iconst 1, 1) := by decide +kernel
theorem dX1_close_18 : decode cX1_close 18 = .ok (.goto 4, 3) := by decide +kernel
theorem dX1_close_21 : decode cX1_close 21 = .ok (.iconst 0, 1) := by decide +kernel
theorem dX1_close_22 : decode cX1_close 22 = .ok (.invokevirtual 56, 3) := by decide +kernel
theorem dX1_close_25 : decode cX1_close 25 = .ok (.ifCond .eq 5, 3) := by decide +kernel
theorem dX1_close_28 : decode cX1_close 28 = .ok (.iconst 0, 1) := by decide +kernel
theorem dX1_close_29 : decode cX1_close 29 = .ok (.ireturn, 1) := by decide +kernel
theorem dX1_close_30 : decode cX1_close 30 = .ok (.aload_n 0, 1) := by decide +kernel
theorem dX1_close_31 : decode cX1_close 31 = .ok (.getfield 31, 3) := by decide +kernel
theorem dX1_close_34 : decode cX1_close 34 = .ok (.aload_n 0, 1) := by decide +kernel
theorem dX1_close_35 : decode cX1_close 35 = .ok (.getfield 100, 3) := by decide +kernel
theorem dX1_close_38 : decode cX1_close 38 = .ok (.aload_n 0, 1) := by decide +kernel
theorem dX1_close_39 : decode cX1_close 39 = .ok (.invokevirtual 103, 3) := by decide +kernel
theorem dX1_close_42 : decode cX1_close 42 = .ok (.iastore, 1) := by decide +kernel
theorem dX1_close_43 : decode cX1_close 43 = .ok (.iconst 0, 1) := by decide +kernel
theorem dX1_close_44 : decode cX1_close 44 = .ok (.istore_n 1, 1) := by decide +kernel
theorem dX1_close_45 : decode cX1_close 45 = .ok (.iload_n 1, 1) := by decide +kernel
theorem dX1_close_46 : decode cX1_close 46 = .ok (.aload_n 0, 1) := by decide +kernel
theorem dX1_close_47 : decode cX1_close 47 = .ok (.getfield 44, 3) := by decide +kernel
theorem dX1_close_50 : decode cX1_close 50 = .ok (.if_icmp .ge 32, 3) := by decide +kernel
theorem dX1_close_53 : decode cX1_close 53 = .ok (.aload_n 0, 1) := by decide +kernel
theorem dX1_close_54 : decode cX1_close 54 = .ok (.getfield 22, 3) := by decide +kernel
theorem dX1_close_57 : decode cX1_close 57 = .ok (.iload_n 1, 1) := by decide +kernel
theorem dX1_close_58 : decode cX1_close 58 = .ok (.aload_n 0, 1) := by decide +kernel
theorem dX1_close_59 : decode cX1_close 59 = .ok (.iload_n 1, 1) := by decide +kernel
theorem dX1_close_60 : decode cX1_close 60 = .ok (.invokevirtual 97, 3) := by decide +kernel
theorem dX1_close_63 : decode cX1_close 63 = .ok (.iastore, 1) := by decide +kernel
theorem dX1_close_64 : decode cX1_close 64 = .ok (.aload_n 0, 1) := by decide +kernel
theorem dX1_close_65 : decode cX1_close 65 = .ok (.getfield 19, 3) := by decide +kernel
theorem dX1_close_68 : decode cX1_close 68 = .ok (.iload_n 1, 1) := by decide +kernel
theorem dX1_close_69 : decode cX1_close 69 = .ok (.aload_n 0, 1) := by decide +kernel
theorem dX1_close_70 : decode cX1_close 70 = .ok (.getfield 13, 3) := by decide +kernel
theorem dX1_close_73 : decode cX1_close 73 = .ok (.iload_n 1, 1) := by decide +kernel
theorem dX1_close_74 : decode cX1_close 74 = .ok (.iaload, 1) := by decide +kernel
theorem dX1_close_75 : decode cX1_close 75 = .ok (.iastore, 1) := by decide +kernel
theorem dX1_close_76 : decode cX1_close 76 = .ok (.iinc 1 1, 3) := by decide +kernel
theorem dX1_close_79 : decode cX1_close 79 = .ok (.goto (-34), 3) := by decide +kernel
theorem dX1_close_82 : decode cX1_close 82 = .ok (.aload_n 0, 1) := by decide +kernel
theorem dX1_close_83 : decode cX1_close 83 = .ok (.getfield 28, 3) := by decide +kernel
theorem dX1_close_86 : decode cX1_close 86 = .ok (.aload_n 0, 1) := by decide +kernel
theorem dX1_close_87 : decode cX1_close 87 = .ok (.getfield 100, 3) := by decide +kernel
theorem dX1_close_90 : decode cX1_close 90 = .ok (.iconst 0, 1) := by decide +kernel
theorem dX1_close_91 : decode cX1_close 91 = .ok (.iastore, 1) := by decide +kernel
theorem dX1_close_92 : decode cX1_close 92 = .ok (.aload_n 0, 1) := by decide +kernel
theorem dX1_close_93 : decode cX1_close 93 = .ok (.getfield 34, 3) := by decide +kernel
theorem dX1_close_96 : decode cX1_close 96 = .ok (.aload_n 0, 1) := by decide +kernel
theorem dX1_close_97 : decode cX1_close 97 = .ok (.getfield 100, 3) := by decide +kernel
theorem dX1_close_100 : decode cX1_close 100 = .ok (.aload_n 0, 1) := by decide +kernel
theorem dX1_close_101 : decode cX1_close 101 = .ok (.aload_n 0, 1) := by decide +kernel
theorem dX1_close_102 : decode cX1_close 102 = .ok (.getfield 19, 3) := by decide +kernel
theorem dX1_close_105 : decode cX1_close 105 = .ok (.invokevirtual 87, 3) := by decide +kernel
theorem dX1_close_108 : decode cX1_close 108 = .ok (.iastore, 1) := by decide +kernel
theorem dX1_close_109 : decode cX1_close 109 = .ok (.aload_n 0, 1) := by decide +kernel
theorem dX1_close_110 : decode cX1_close 110 = .ok (.getfield 37, 3) := by decide +kernel
theorem dX1_close_113 : decode cX1_close 113 = .ok (.aload_n 0, 1) := by decide +kernel
theorem dX1_close_114 : decode cX1_close 114 = .ok (.getfield 100, 3) := by decide +kernel
theorem dX1_close_117 : decode cX1_close 117 = .ok (.aload_n 0, 1) := by decide +kernel
theorem dX1_close_118 : decode cX1_close 118 = .ok (.aload_n 0, 1) := by decide +kernel
theorem dX1_close_119 : decode cX1_close 119 = .ok (.getfield 22, 3) := by decide +kernel
theorem dX1_close_122 : decode cX1_close 122 = .ok (.invokevirtual 87, 3) := by decide +kernel
theorem dX1_close_125 : decode cX1_close 125 = .ok (.iastore, 1) := by decide +kernel
theorem dX1_close_126 : decode cX1_close 126 = .ok (.aload_n 0, 1) := by decide +kernel
theorem dX1_close_127 : decode cX1_close 127 = .ok (.dup, 1) := by decide +kernel
theorem dX1_close_128 : decode cX1_close 128 = .ok (.getfield 100, 3) := by decide +kernel
theorem dX1_close_131 : decode cX1_close 131 = .ok (.iconst 1, 1) := by decide +kernel
theorem dX1_close_132 : decode cX1_close 132 = .ok (.iadd, 1) := by decide +kernel
theorem dX1_close_133 : decode cX1_close 133 = .ok (.putfield 100, 3) := by decide +kernel
theorem dX1_close_136 : decode cX1_close 136 = .ok (.aload_n 0, 1) := by decide +kernel
theorem dX1_close_137 : decode cX1_close 137 = .ok (.getfield 100, 3) := by decide +kernel
theorem dX1_close_140 : decode cX1_close 140 = .ok (.iconst 1, 1) := by decide +kernel
theorem dX1_close_141 : decode cX1_close 141 = .ok (.isub, 1) := by decide +kernel
theorem dX1_close_142 : decode cX1_close 142 = .ok (.ireturn, 1) := by decide +kernel
set_option maxRecDepth 20000 in
theorem ggX1_nextAmount_X1_amountNow : GoodIn wsX1_nextAmount wsX1_amountNow := goodIn_r _ [5, 6, 7, 8, 9, 10, 11, 12, 4, 13, 14, 15, 16, 17, 18, 19, 20, 21, 22, 23, 24, 25, 26, 27, 28, 29, 30, 31, 32, 33, 34, 35, 36, 42, 43, 44, 45, 46, 47, 48, 49, 50, 51, 52, 53, 54, 55] (by decide +kernel) (by decide +kernel)
set_option maxRecDepth 20000 in
theorem gX1_nextAmount_X1_amountNow : GoodIn wsX1_nextAmount (wsV RX1 103 RX1 yX1_amountNow wsX1_amountNow) := goodIn_app (goodIn_of _ (by decide +kernel)) ggX1_nextAmount_X1_amountNow
set_option maxRecDepth 20000 in
theorem ggX1_nextAmount_X1_fine : GoodIn wsX1_nextAmount wsX1_fine := goodIn_r _ [40, 41, 42, 43, 44, 45, 46, 47, 48, 49, 50, 51, 52, 53, 54, 55] (by decide +kernel) (by decide +kernel)
set_option maxRecDepth 20000 in
theorem gX1_nextAmount_X1_fine : GoodIn wsX1_nextAmount (wsV RX1 83 RX1 yX1_fine wsX1_fine) := goodIn_app (goodIn_of _ (by decide +kernel)) ggX1_nextAmount_X1_fine
theorem dX1_nextAmount_0 : decode cX1_nextAmount 0 = .ok (.aload_n 0, 1) := by decide +kernel
theorem dX1_nextAmount_1 : decode cX1_nextAmount 1 = .ok (.aload_n 0, 1) := by decide +kernel
theorem dX1_nextAmount_2 : decode cX1_nextAmount 2 = .ok (.invokevirtual 103, 3) := by decide +kernel
theorem dX1_nextAmount_5 : decode cX1_nextAmount 5 = .ok (.invokevirtual 83, 3) := by decide +kernel
theorem dX1_nextAmount_8 : decode cX1_nextAmount 8 = .ok (.ireturn, 1) := by decide +kernel
set_option maxRecDepth 20000 in
theorem ggX1_isApplication_X1_in : GoodIn wsX1_isApplication wsX1_in := goodIn_r _ [5] (by decide +kernel) (by decide +kernel)
set_option maxRecDepth 20000 in
theorem gX1_isApplication_X1_in : GoodIn wsX1_isApplication (va_wsS RX1 47 yX1_in wsX1_in) := goodIn_app (goodIn_of _ (by decide +kernel)) ggX1_isApplication_X1_in
theorem dX1_isApplication_0 : decode cX1_isApplication 0 = .ok (.iload_n 1, 1) := by decide +kernel
theorem dX1_isApplication_1 : decode cX1_isApplication 1 = .ok (.iconst 0, 1) := by decide +kernel
theorem dX1_isApplication_2 : decode cX1_isApplication 2 = .ok (.aload_n 0, 1) := by decide +kernel
theorem dX1_isApplication_3 : decode cX1_isApplication 3 = .ok (.getfield 100, 3) := by decide +kernel
theorem dX1_isApplication_6 : decode cX1_isApplication 6 = .ok (.iconst 1, 1) := by decide +kernel
theorem dX1_isApplication_7 : decode cX1_isApplication 7 = .ok (.isub, 1) := by decide +kernel
theorem dX1_isApplication_8 : decode cX1_isApplication 8 = .ok (.invokestatic 47, 3) := by decide +kernel
theorem dX1_isApplication_11 : decode cX1_isApplication 11 = .ok (.ireturn, 1) := by decide +kernel
theorem dX1_waived_0 : decode cX1_waived 0 = .ok (.iconst 0, 1) := by decide +kernel
theorem dX1_waived_1 : decode cX1_waived 1 = .ok (.istore_n 1, 1) := by decide +kernel
theorem dX1_waived_2 : decode cX1_waived 2 = .ok (.iload_n 1, 1) := by decide +kernel
theorem dX1_waived_3 : decode cX1_waived 3 = .ok (.aload_n 0, 1) := by decide +kernel
theorem dX1_waived_4 : decode cX1_waived 4 = .ok (.getfield 100, 3) := by decide +kernel
theorem dX1_waived_7 : decode cX1_waived 7 = .ok (.if_icmp .ge 19, 3) := by decide +kernel
theorem dX1_waived_10 : decode cX1_waived 10 = .ok (.aload_n 0, 1) := by decide +kernel
theorem dX1_waived_11 : decode cX1_waived 11 = .ok (.getfield 28, 3) := by decide +kernel
theorem dX1_waived_14 : decode cX1_waived 14 = .ok (.iload_n 1, 1) := by decide +kernel
theorem dX1_waived_15 : decode cX1_waived 15 = .ok (.iaload, 1) := by decide +kernel
theorem dX1_waived_16 : decode cX1_waived 16 = .ok (.iconst 2, 1) := by decide +kernel
theorem dX1_waived_17 : decode cX1_waived 17 = .ok (.if_icmp .ne 9, 3) := by decide +kernel
theorem dX1_waived_20 : decode cX1_waived 20 = .ok (.iinc 1 1, 3) := by decide +kernel
theorem dX1_waived_23 : decode cX1_waived 23 = .ok (.goto (-21), 3) := by decide +kernel
theorem dX1_waived_26 : decode cX1_waived 26 = .ok (.iload_n 1, 1) := by decide +kernel
theorem dX1_waived_27 : decode cX1_waived 27 = .ok (.ireturn, 1) := by decide +kernel
set_option maxRecDepth 20000 in
theorem ggX1_pay_X1_isApplication : GoodIn wsX1_pay wsX1_isApplication := goodIn_r _ [7, 8, 9, 10, 6, 11, 21, 22, 23, 24, 25, 26, 27, 28, 29, 30, 31, 32, 33, 34] (by decide +kernel) (by decide +kernel)
set_option maxRecDepth 20000 in
theorem gX1_pay_X1_isApplication : GoodIn wsX1_pay (wsV RX1 106 RX1 yX1_isApplication wsX1_isApplication) := goodIn_app (goodIn_of _ (by decide +kernel)) ggX1_pay_X1_isApplication
set_option maxRecDepth 20000 in
theorem ggX1_pay_X1_waived : GoodIn wsX1_pay wsX1_waived := goodIn_r _ [15, 8, 1, 21, 22, 23, 24, 25, 26, 27, 28, 29, 30, 31, 32, 33, 34] (by decide +kernel) (by decide +kernel)
set_option maxRecDepth 20000 in
theorem gX1_pay_X1_waived : GoodIn wsX1_pay (wsV RX1 109 RX1 yX1_waived wsX1_waived) := goodIn_app (goodIn_of _ (by decide +kernel)) ggX1_pay_X1_waived
set_option maxRecDepth 20000 in
theorem ggX1_pay_X1_refused : GoodIn wsX1_pay wsX1_refused := goodIn_r _ [19, 20, 21, 22, 23, 24, 25, 26, 27, 28, 29, 30, 31, 32, 33, 34] (by decide +kernel) (by decide +kernel)
set_option maxRecDepth 20000 in
theorem gX1_pay_X1_refused : GoodIn wsX1_pay (wsV RX1 56 RX1 yX1_refused wsX1_refused) := goodIn_app (goodIn_of _ (by decide +kernel)) ggX1_pay_X1_refused
theorem dX1_pay_0 : decode cX1_pay 0 = .ok (.aload_n 0, 1) := by decide +kernel
theorem dX1_pay_1 : decode cX1_pay 1 = .ok (.aload_n 0, 1) := by decide +kernel
theorem dX1_pay_2 : decode cX1_pay 2 = .ok (.iload_n 1, 1) := by decide +kernel
theorem dX1_pay_3 : decode cX1_pay 3 = .ok (.invokevirtual 106, 3) := by decide +kernel
theorem dX1_pay_6 : decode cX1_pay 6 = .ok (.ifCond .ne 7, 3) := by decide +kernel
theorem dX1_pay_9 : decode cX1_pay 9 = .ok (.iconst 1, 1) := by decide +kernel
theorem dX1_pay_10 : decode cX1_pay 10 = .ok (.goto 25, 3) := by decide +kernel
theorem dX1_pay_13 : decode cX1_pay 13 = .ok (.aload_n 0, 1) := by decide +kernel
theorem dX1_pay_14 : decode cX1_pay 14 = .ok (.getfield 28, 3) := by decide +kernel
theorem dX1_pay_17 : decode cX1_pay 17 = .ok (.iload_n 1, 1) := by decide +kernel
theorem dX1_pay_18 : decode cX1_pay 18 = .ok (.iaload, 1) := by decide +kernel
theorem dX1_pay_19 : decode cX1_pay 19 = .ok (.ifCond .ne 11, 3) := by decide +kernel
theorem dX1_pay_22 : decode cX1_pay 22 = .ok (.aload_n 0, 1) := by decide +kernel
theorem dX1_pay_23 : decode cX1_pay 23 = .ok (.invokevirtual 109, 3) := by decide +kernel
theorem dX1_pay_26 : decode cX1_pay 26 = .ok (.iload_n 1, 1) := by decide +kernel
theorem dX1_pay_27 : decode cX1_pay 27 = .ok (.if_icmp .ge 7, 3) := by decide +kernel
theorem dX1_pay_30 : decode cX1_pay 30 = .ok (.iconst 2, 1) := by decide +kernel
theorem dX1_pay_31 : decode cX1_pay 31 = .ok (.goto 4, 3) := by decide +kernel
theorem dX1_pay_34 : decode cX1_pay 34 = .ok (.iconst 0, 1) := by decide +kernel
theorem dX1_pay_35 : decode cX1_pay 35 = .ok (.invokevirtual 56, 3) := by decide +kernel
theorem dX1_pay_38 : decode cX1_pay 38 = .ok (.ifCond .eq 5, 3) := by decide +kernel
theorem dX1_pay_41 : decode cX1_pay 41 = .ok (.iconst 0, 1) := by decide +kernel
theorem dX1_pay_42 : decode cX1_pay 42 = .ok (.ireturn, 1) := by decide +kernel
theorem dX1_pay_43 : decode cX1_pay 43 = .ok (.aload_n 0, 1) := by decide +kernel
theorem dX1_pay_44 : decode cX1_pay 44 = .ok (.getfield 28, 3) := by decide +kernel
theorem dX1_pay_47 : decode cX1_pay 47 = .ok (.iload_n 1, 1) := by decide +kernel
theorem dX1_pay_48 : decode cX1_pay 48 = .ok (.iconst 1, 1) := by decide +kernel
theorem dX1_pay_49 : decode cX1_pay 49 = .ok (.iastore, 1) := by decide +kernel
theorem dX1_pay_50 : decode cX1_pay 50 = .ok (.aload_n 0, 1) := by decide +kernel
theorem dX1_pay_51 : decode cX1_pay 51 = .ok (.getfield 31, 3) := by decide +kernel
theorem dX1_pay_54 : decode cX1_pay 54 = .ok (.iload_n 1, 1) := by decide +kernel
theorem dX1_pay_55 : decode cX1_pay 55 = .ok (.iaload, 1) := by decide +kernel
theorem dX1_pay_56 : decode cX1_pay 56 = .ok (.ireturn, 1) := by decide +kernel
set_option maxRecDepth 20000 in
theorem ggX1_waive_X1_isApplication : GoodIn wsX1_waive wsX1_isApplication := goodIn_r _ [6, 7, 8, 9, 5, 10, 20, 21, 22, 23, 24, 25, 26, 27, 28, 29, 30, 31, 32, 33] (by decide +kernel) (by decide +kernel)
set_option maxRecDepth 20000 in
theorem gX1_waive_X1_isApplication : GoodIn wsX1_waive (wsV RX1 106 RX1 yX1_isApplication wsX1_isApplication) := goodIn_app (goodIn_of _ (by decide +kernel)) ggX1_waive_X1_isApplication
set_option maxRecDepth 20000 in
theorem ggX1_waive_X1_refused : GoodIn wsX1_waive wsX1_refused := goodIn_r _ [14, 15, 20, 21, 22, 23, 24, 25, 26, 27, 28, 29, 30, 31, 32, 33] (by decide +kernel) (by decide +kernel)
set_option maxRecDepth 20000 in
theorem gX1_waive_X1_refused : GoodIn wsX1_waive (wsV RX1 56 RX1 yX1_refused wsX1_refused) := goodIn_app (goodIn_of _ (by decide +kernel)) ggX1_waive_X1_refused
set_option maxRecDepth 20000 in
theorem ggX1_waive_X1_waived : GoodIn wsX1_waive wsX1_waived := goodIn_r _ [19, 7, 1, 20, 21, 22, 23, 24, 25, 26, 27, 28, 29, 30, 31, 32, 33] (by decide +kernel) (by decide +kernel)
set_option maxRecDepth 20000 in
theorem gX1_waive_X1_waived : GoodIn wsX1_waive (wsV RX1 109 RX1 yX1_waived wsX1_waived) := goodIn_app (goodIn_of _ (by decide +kernel)) ggX1_waive_X1_waived
theorem dX1_waive_0 : decode cX1_waive 0 = .ok (.aload_n 0, 1) := by decide +kernel
theorem dX1_waive_1 : decode cX1_waive 1 = .ok (.aload_n 0, 1) := by decide +kernel
theorem dX1_waive_2 : decode cX1_waive 2 = .ok (.iload_n 1, 1) := by decide +kernel
theorem dX1_waive_3 : decode cX1_waive 3 = .ok (.invokevirtual 106, 3) := by decide +kernel
theorem dX1_waive_6 : decode cX1_waive 6 = .ok (.ifCond .ne 7, 3) := by decide +kernel
theorem dX1_waive_9 : decode cX1_waive 9 = .ok (.iconst 1, 1) := by decide +kernel
theorem dX1_waive_10 : decode cX1_waive 10 = .ok (.goto 18, 3) := by decide +kernel
theorem dX1_waive_13 : decode cX1_waive 13 = .ok (.aload_n 0, 1) := by decide +kernel
theorem dX1_waive_14 : decode cX1_waive 14 = .ok (.getfield 28, 3) := by decide +kernel
theorem dX1_waive_17 : decode cX1_waive 17 = .ok (.iload_n 1, 1) := by decide +kernel
theorem dX1_waive_18 : decode cX1_waive 18 = .ok (.iaload, 1) := by decide +kernel
theorem dX1_waive_19 : decode cX1_waive 19 = .ok (.iconst 1, 1) := by decide +kernel
theorem dX1_waive_20 : decode cX1_waive 20 = .ok (.if_icmp .ne 7, 3) := by decide +kernel
theorem dX1_waive_23 : decode cX1_waive 23 = .ok (.iconst 0, 1) := by decide +kernel
theorem dX1_waive_24 : decode cX1_waive 24 = .ok (.goto 4, 3) := by decide +kernel
theorem dX1_waive_27 : decode cX1_waive 27 = .ok (.iconst 2, 1) := by decide +kernel
theorem dX1_waive_28 : decode cX1_waive 28 = .ok (.invokevirtual 56, 3) := by decide +kernel
theorem dX1_waive_31 : decode cX1_waive 31 = .ok (.ifCond .eq 5, 3) := by decide +kernel
theorem dX1_waive_34 : decode cX1_waive 34 = .ok (.iconst 0, 1) := by decide +kernel
theorem dX1_waive_35 : decode cX1_waive 35 = .ok (.ireturn, 1) := by decide +kernel
theorem dX1_waive_36 : decode cX1_waive 36 = .ok (.aload_n 0, 1) := by decide +kernel
theorem dX1_waive_37 : decode cX1_waive 37 = .ok (.getfield 28, 3) := by decide +kernel
theorem dX1_waive_40 : decode cX1_waive 40 = .ok (.iload_n 1, 1) := by decide +kernel
theorem dX1_waive_41 : decode cX1_waive 41 = .ok (.iconst 2, 1) := by decide +kernel
theorem dX1_waive_42 : decode cX1_waive 42 = .ok (.iastore, 1) := by decide +kernel
theorem dX1_waive_43 : decode cX1_waive 43 = .ok (.aload_n 0, 1) := by decide +kernel
theorem dX1_waive_44 : decode cX1_waive 44 = .ok (.invokevirtual 109, 3) := by decide +kernel
theorem dX1_waive_47 : decode cX1_waive 47 = .ok (.ireturn, 1) := by decide +kernel
set_option maxRecDepth 20000 in
theorem ggX1_applications_X1_fine : GoodIn wsX1_applications wsX1_fine := goodIn_r _ [6, 7, 8, 9, 10, 11, 12, 13, 14, 15, 16, 17, 18, 19, 20, 21] (by decide +kernel) (by decide +kernel)
set_option maxRecDepth 20000 in
theorem gX1_applications_X1_fine : GoodIn wsX1_applications (wsV RX1 83 RX1 yX1_fine wsX1_fine) := goodIn_app (goodIn_of _ (by decide +kernel)) ggX1_applications_X1_fine
theorem dX1_applications_0 : decode cX1_applications 0 = .ok (.aload_n 0, 1) := by decide +kernel
theorem dX1_applications_1 : decode cX1_applications 1 = .ok (.aload_n 0, 1) := by decide +kernel
theorem dX1_applications_2 : decode cX1_applications 2 = .ok (.getfield 100, 3) := by decide +kernel
theorem dX1_applications_5 : decode cX1_applications 5 = .ok (.invokevirtual 83, 3) := by decide +kernel
theorem dX1_applications_8 : decode cX1_applications 8 = .ok (.ireturn, 1) := by decide +kernel
set_option maxRecDepth 20000 in
theorem ggX1_told_X1_isApplication : GoodIn wsX1_told wsX1_isApplication := goodIn_r _ [5, 6, 7, 8, 4, 9, 15, 16, 17, 18, 19, 20, 21, 22, 23, 24, 25, 26, 27, 28] (by decide +kernel) (by decide +kernel)
set_option maxRecDepth 20000 in
theorem gX1_told_X1_isApplication : GoodIn wsX1_told (wsV RX1 106 RX1 yX1_isApplication wsX1_isApplication) := goodIn_app (goodIn_of _ (by decide +kernel)) ggX1_told_X1_isApplication
set_option maxRecDepth 20000 in
theorem ggX1_told_X1_refused : GoodIn wsX1_told wsX1_refused := goodIn_r _ [13, 14, 15, 16, 17, 18, 19, 20, 21, 22, 23, 24, 25, 26, 27, 28] (by decide +kernel) (by decide +kernel)
set_option maxRecDepth 20000 in
theorem gX1_told_X1_refused : GoodIn wsX1_told (wsV RX1 56 RX1 yX1_refused wsX1_refused) := goodIn_app (goodIn_of _ (by decide +kernel)) ggX1_told_X1_refused
theorem dX1_told_0 : decode cX1_told 0 = .ok (.aload_n 0, 1) := by decide +kernel
theorem dX1_told_1 : decode cX1_told 1 = .ok (.aload_n 0, 1) := by decide +kernel
theorem dX1_told_2 : decode cX1_told 2 = .ok (.iload_n 1, 1) := by decide +kernel
theorem dX1_told_3 : decode cX1_told 3 = .ok (.invokevirtual 106, 3) := by decide +kernel
theorem dX1_told_6 : decode cX1_told 6 = .ok (.ifCond .eq 7, 3) := by decide +kernel
theorem dX1_told_9 : decode cX1_told 9 = .ok (.iconst 0, 1) := by decide +kernel
theorem dX1_told_10 : decode cX1_told 10 = .ok (.goto 4, 3) := by decide +kernel
theorem dX1_told_13 : decode cX1_told 13 = .ok (.iconst 1, 1) := by decide +kernel
theorem dX1_told_14 : decode cX1_told 14 = .ok (.invokevirtual 56, 3) := by decide +kernel
theorem dX1_told_17 : decode cX1_told 17 = .ok (.ifCond .eq 7, 3) := by decide +kernel
theorem dX1_told_20 : decode cX1_told 20 = .ok (.iconst 0, 1) := by decide +kernel
theorem dX1_told_21 : decode cX1_told 21 = .ok (.goto 6, 3) := by decide +kernel
theorem dX1_told_24 : decode cX1_told 24 = .ok (.aload_n 2, 1) := by decide +kernel
theorem dX1_told_25 : decode cX1_told 25 = .ok (.iload_n 1, 1) := by decide +kernel
theorem dX1_told_26 : decode cX1_told 26 = .ok (.iaload, 1) := by decide +kernel
theorem dX1_told_27 : decode cX1_told 27 = .ok (.ireturn, 1) := by decide +kernel
set_option maxRecDepth 20000 in
theorem ggX1_state_X1_told : GoodIn wsX1_state wsX1_told := goodIn_r _ [6, 7, 8, 9, 5, 10, 11, 12, 13, 14, 15, 16, 17, 18, 19, 20, 21, 22, 23, 24, 25, 26, 27, 28, 29, 30, 31, 32, 33] (by decide +kernel) (by decide +kernel)
set_option maxRecDepth 20000 in
theorem gX1_state_X1_told : GoodIn wsX1_state (wsV RX1 112 RX1 yX1_told wsX1_told) := goodIn_app (goodIn_of _ (by decide +kernel)) ggX1_state_X1_told
theorem dX1_state_0 : decode cX1_state 0 = .ok (.aload_n 0, 1) := by decide +kernel
theorem dX1_state_1 : decode cX1_state 1 = .ok (.iload_n 1, 1) := by decide +kernel
theorem dX1_state_2 : decode cX1_state 2 = .ok (.aload_n 0, 1) := by decide +kernel
theorem dX1_state_3 : decode cX1_state 3 = .ok (.getfield 28, 3) := by decide +kernel
theorem dX1_state_6 : decode cX1_state 6 = .ok (.invokevirtual 112, 3) := by decide +kernel
theorem dX1_state_9 : decode cX1_state 9 = .ok (.ireturn, 1) := by decide +kernel
set_option maxRecDepth 20000 in
theorem ggX1_amount_X1_told : GoodIn wsX1_amount wsX1_told := goodIn_r _ [6, 7, 8, 9, 5, 10, 11, 12, 13, 14, 15, 16, 17, 18, 19, 20, 21, 22, 23, 24, 25, 26, 27, 28, 29, 30, 31, 32, 33] (by decide +kernel) (by decide +kernel)
set_option maxRecDepth 20000 in
theorem gX1_amount_X1_told : GoodIn wsX1_amount (wsV RX1 112 RX1 yX1_told wsX1_told) := goodIn_app (goodIn_of _ (by decide +kernel)) ggX1_amount_X1_told
theorem dX1_amount_0 : decode cX1_amount 0 = .ok (.aload_n 0, 1) := by decide +kernel
theorem dX1_amount_1 : decode cX1_amount 1 = .ok (.iload_n 1, 1) := by decide +kernel
theorem dX1_amount_2 : decode cX1_amount 2 = .ok (.aload_n 0, 1) := by decide +kernel
theorem dX1_amount_3 : decode cX1_amount 3 = .ok (.getfield 31, 3) := by decide +kernel
theorem dX1_amount_6 : decode cX1_amount 6 = .ok (.invokevirtual 112, 3) := by decide +kernel
theorem dX1_amount_9 : decode cX1_amount 9 = .ok (.ireturn, 1) := by decide +kernel
set_option maxRecDepth 20000 in
theorem ggX1_billedBehind_X1_told : GoodIn wsX1_billedBehind wsX1_told := goodIn_r _ [6, 7, 8, 9, 5, 10, 11, 12, 13, 14, 15, 16, 17, 18, 19, 20, 21, 22, 23, 24, 25, 26, 27, 28, 29, 30, 31, 32, 33] (by decide +kernel) (by decide +kernel)
set_option maxRecDepth 20000 in
theorem gX1_billedBehind_X1_told : GoodIn wsX1_billedBehind (wsV RX1 112 RX1 yX1_told wsX1_told) := goodIn_app (goodIn_of _ (by decide +kernel)) ggX1_billedBehind_X1_told
theorem dX1_billedBehind_0 : decode cX1_billedBehind 0 = .ok (.aload_n 0, 1) := by decide +kernel
theorem dX1_billedBehind_1 : decode cX1_billedBehind 1 = .ok (.iload_n 1, 1) := by decide +kernel
theorem dX1_billedBehind_2 : decode cX1_billedBehind 2 = .ok (.aload_n 0, 1) := by decide +kernel
theorem dX1_billedBehind_3 : decode cX1_billedBehind 3 = .ok (.getfield 34, 3) := by decide +kernel
theorem dX1_billedBehind_6 : decode cX1_billedBehind 6 = .ok (.invokevirtual 112, 3) := by decide +kernel
theorem dX1_billedBehind_9 : decode cX1_billedBehind 9 = .ok (.ireturn, 1) := by decide +kernel
set_option maxRecDepth 20000 in
theorem ggX1_heldBehind_X1_told : GoodIn wsX1_heldBehind wsX1_told := goodIn_r _ [6, 7, 8, 9, 5, 10, 11, 12, 13, 14, 15, 16, 17, 18, 19, 20, 21, 22, 23, 24, 25, 26, 27, 28, 29, 30, 31, 32, 33] (by decide +kernel) (by decide +kernel)
set_option maxRecDepth 20000 in
theorem gX1_heldBehind_X1_told : GoodIn wsX1_heldBehind (wsV RX1 112 RX1 yX1_told wsX1_told) := goodIn_app (goodIn_of _ (by decide +kernel)) ggX1_heldBehind_X1_told
theorem dX1_heldBehind_0 : decode cX1_heldBehind 0 = .ok (.aload_n 0, 1) := by decide +kernel
theorem dX1_heldBehind_1 : decode cX1_heldBehind 1 = .ok (.iload_n 1, 1) := by decide +kernel
theorem dX1_heldBehind_2 : decode cX1_heldBehind 2 = .ok (.aload_n 0, 1) := by decide +kernel
theorem dX1_heldBehind_3 : decode cX1_heldBehind 3 = .ok (.getfield 37, 3) := by decide +kernel
theorem dX1_heldBehind_6 : decode cX1_heldBehind 6 = .ok (.invokevirtual 112, 3) := by decide +kernel
theorem dX1_heldBehind_9 : decode cX1_heldBehind 9 = .ok (.ireturn, 1) := by decide +kernel
set_option maxRecDepth 20000 in
theorem ggX1_lines_X1_fine : GoodIn wsX1_lines wsX1_fine := goodIn_r _ [6, 7, 8, 9, 10, 11, 12, 13, 14, 15, 16, 17, 18, 19, 20, 21] (by decide +kernel) (by decide +kernel)
set_option maxRecDepth 20000 in
theorem gX1_lines_X1_fine : GoodIn wsX1_lines (wsV RX1 83 RX1 yX1_fine wsX1_fine) := goodIn_app (goodIn_of _ (by decide +kernel)) ggX1_lines_X1_fine
theorem dX1_lines_0 : decode cX1_lines 0 = .ok (.aload_n 0, 1) := by decide +kernel
theorem dX1_lines_1 : decode cX1_lines 1 = .ok (.aload_n 0, 1) := by decide +kernel
theorem dX1_lines_2 : decode cX1_lines 2 = .ok (.getfield 44, 3) := by decide +kernel
theorem dX1_lines_5 : decode cX1_lines 5 = .ok (.invokevirtual 83, 3) := by decide +kernel
theorem dX1_lines_8 : decode cX1_lines 8 = .ok (.ireturn, 1) := by decide +kernel
set_option maxRecDepth 20000 in
theorem ggX1_noLine_X1_isLine : GoodIn wsX1_noLine wsX1_isLine := goodIn_r _ [5, 6, 7, 8, 4, 9, 15, 16, 17, 18, 19, 20, 21, 22, 23, 24, 25, 26, 27, 28] (by decide +kernel) (by decide +kernel)
set_option maxRecDepth 20000 in
theorem gX1_noLine_X1_isLine : GoodIn wsX1_noLine (wsV RX1 64 RX1 yX1_isLine wsX1_isLine) := goodIn_app (goodIn_of _ (by decide +kernel)) ggX1_noLine_X1_isLine
set_option maxRecDepth 20000 in
theorem ggX1_noLine_X1_refused : GoodIn wsX1_noLine wsX1_refused := goodIn_r _ [13, 14, 15, 16, 17, 18, 19, 20, 21, 22, 23, 24, 25, 26, 27, 28] (by decide +kernel) (by decide +kernel)
set_option maxRecDepth 20000 in
theorem gX1_noLine_X1_refused : GoodIn wsX1_noLine (wsV RX1 56 RX1 yX1_refused wsX1_refused) := goodIn_app (goodIn_of _ (by decide +kernel)) ggX1_noLine_X1_refused
theorem dX1_noLine_0 : decode cX1_noLine 0 = .ok (.aload_n 0, 1) := by decide +kernel
theorem dX1_noLine_1 : decode cX1_noLine 1 = .ok (.aload_n 0, 1) := by decide +kernel
theorem dX1_noLine_2 : decode cX1_noLine 2 = .ok (.iload_n 1, 1) := by decide +kernel
theorem dX1_noLine_3 : decode cX1_noLine 3 = .ok (.invokevirtual 64, 3) := by decide +kernel
theorem dX1_noLine_6 : decode cX1_noLine 6 = .ok (.ifCond .eq 7, 3) := by decide +kernel
theorem dX1_noLine_9 : decode cX1_noLine 9 = .ok (.iconst 0, 1) := by decide +kernel
theorem dX1_noLine_10 : decode cX1_noLine 10 = .ok (.goto 4, 3) := by decide +kernel
theorem dX1_noLine_13 : decode cX1_noLine 13 = .ok (.iconst 1, 1) := by decide +kernel
theorem dX1_noLine_14 : decode cX1_noLine 14 = .ok (.invokevirtual 56, 3) := by decide +kernel
theorem dX1_noLine_17 : decode cX1_noLine 17 = .ok (.ireturn, 1) := by decide +kernel
set_option maxRecDepth 20000 in
theorem ggX1_value_X1_noLine : GoodIn wsX1_value wsX1_noLine := goodIn_r _ [6, 7, 8, 9, 5, 10, 11, 12, 13, 14, 15, 16, 17, 18, 19, 20, 21, 22, 23, 24, 25, 26, 27, 28, 29, 30, 31, 32, 33] (by decide +kernel) (by decide +kernel)
set_option maxRecDepth 20000 in
theorem gX1_value_X1_noLine : GoodIn wsX1_value (wsV RX1 116 RX1 yX1_noLine wsX1_noLine) := goodIn_app (goodIn_of _ (by decide +kernel)) ggX1_value_X1_noLine
theorem dX1_value_0 : decode cX1_value 0 = .ok (.aload_n 0, 1) := by decide +kernel
theorem dX1_value_1 : decode cX1_value 1 = .ok (.iload_n 1, 1) := by decide +kernel
theorem dX1_value_2 : decode cX1_value 2 = .ok (.invokevirtual 116, 3) := by decide +kernel
theorem dX1_value_5 : decode cX1_value 5 = .ok (.ifCond .eq 7, 3) := by decide +kernel
theorem dX1_value_8 : decode cX1_value 8 = .ok (.iconst 0, 1) := by decide +kernel
theorem dX1_value_9 : decode cX1_value 9 = .ok (.goto 9, 3) := by decide +kernel
theorem dX1_value_12 : decode cX1_value 12 = .ok (.aload_n 0, 1) := by decide +kernel
theorem dX1_value_13 : decode cX1_value 13 = .ok (.getfield 7, 3) := by decide +kernel
theorem dX1_value_16 : decode cX1_value 16 = .ok (.iload_n 1, 1) := by decide +kernel
theorem dX1_value_17 : decode cX1_value 17 = .ok (.iaload, 1) := by decide +kernel
theorem dX1_value_18 : decode cX1_value 18 = .ok (.ireturn, 1) := by decide +kernel
set_option maxRecDepth 20000 in
theorem ggX1_work_X1_noLine : GoodIn wsX1_work wsX1_noLine := goodIn_r _ [6, 7, 8, 9, 5, 10, 11, 12, 13, 14, 15, 16, 17, 18, 19, 20, 21, 22, 23, 24, 25, 26, 27, 28, 29, 30, 31, 32, 33] (by decide +kernel) (by decide +kernel)
set_option maxRecDepth 20000 in
theorem gX1_work_X1_noLine : GoodIn wsX1_work (wsV RX1 116 RX1 yX1_noLine wsX1_noLine) := goodIn_app (goodIn_of _ (by decide +kernel)) ggX1_work_X1_noLine
theorem dX1_work_0 : decode cX1_work 0 = .ok (.aload_n 0, 1) := by decide +kernel
theorem dX1_work_1 : decode cX1_work 1 = .ok (.iload_n 1, 1) := by decide +kernel
theorem dX1_work_2 : decode cX1_work 2 = .ok (.invokevirtual 116, 3) := by decide +kernel
theorem dX1_work_5 : decode cX1_work 5 = .ok (.ifCond .eq 7, 3) := by decide +kernel
theorem dX1_work_8 : decode cX1_work 8 = .ok (.iconst 0, 1) := by decide +kernel
theorem dX1_work_9 : decode cX1_work 9 = .ok (.goto 9, 3) := by decide +kernel
theorem dX1_work_12 : decode cX1_work 12 = .ok (.aload_n 0, 1) := by decide +kernel
theorem dX1_work_13 : decode cX1_work 13 = .ok (.getfield 16, 3) := by decide +kernel
theorem dX1_work_16 : decode cX1_work 16 = .ok (.iload_n 1, 1) := by decide +kernel
theorem dX1_work_17 : decode cX1_work 17 = .ok (.iaload, 1) := by decide +kernel
theorem dX1_work_18 : decode cX1_work 18 = .ok (.ireturn, 1) := by decide +kernel
set_option maxRecDepth 20000 in
theorem ggX1_goods_X1_noLine : GoodIn wsX1_goods wsX1_noLine := goodIn_r _ [7, 8, 9, 10, 6, 11, 12, 13, 14, 15, 16, 17, 18, 19, 20, 21, 22, 23, 24, 25, 26, 27, 28, 29, 30, 31, 32, 33, 34] (by decide +kernel) (by decide +kernel)
set_option maxRecDepth 20000 in
theorem gX1_goods_X1_noLine : GoodIn wsX1_goods (wsV RX1 116 RX1 yX1_noLine wsX1_noLine) := goodIn_app (goodIn_of _ (by decide +kernel)) ggX1_goods_X1_noLine
theorem dX1_goods_0 : decode cX1_goods 0 = .ok (.aload_n 0, 1) := by decide +kernel
theorem dX1_goods_1 : decode cX1_goods 1 = .ok (.iload_n 1, 1) := by decide +kernel
theorem dX1_goods_2 : decode cX1_goods 2 = .ok (.invokevirtual 116, 3) := by decide +kernel
theorem dX1_goods_5 : decode cX1_goods 5 = .ok (.ifCond .eq 7, 3) := by decide +kernel
theorem dX1_goods_8 : decode cX1_goods 8 = .ok (.iconst 0, 1) := by decide +kernel
theorem dX1_goods_9 : decode cX1_goods 9 = .ok (.goto 16, 3) := by decide +kernel
theorem dX1_goods_12 : decode cX1_goods 12 = .ok (.aload_n 0, 1) := by decide +kernel
theorem dX1_goods_13 : decode cX1_goods 13 = .ok (.getfield 13, 3) := by decide +kernel
theorem dX1_goods_16 : decode cX1_goods 16 = .ok (.iload_n 1, 1) := by decide +kernel
theorem dX1_goods_17 : decode cX1_goods 17 = .ok (.iaload, 1) := by decide +kernel
theorem dX1_goods_18 : decode cX1_goods 18 = .ok (.aload_n 0, 1) := by decide +kernel
theorem dX1_goods_19 : decode cX1_goods 19 = .ok (.getfield 16, 3) := by decide +kernel
theorem dX1_goods_22 : decode cX1_goods 22 = .ok (.iload_n 1, 1) := by decide +kernel
theorem dX1_goods_23 : decode cX1_goods 23 = .ok (.iaload, 1) := by decide +kernel
theorem dX1_goods_24 : decode cX1_goods 24 = .ok (.isub, 1) := by decide +kernel
theorem dX1_goods_25 : decode cX1_goods 25 = .ok (.ireturn, 1) := by decide +kernel
set_option maxRecDepth 20000 in
theorem ggX1_billed_X1_noLine : GoodIn wsX1_billed wsX1_noLine := goodIn_r _ [6, 7, 8, 9, 5, 10, 11, 12, 13, 14, 15, 16, 17, 18, 19, 20, 21, 22, 23, 24, 25, 26, 27, 28, 29, 30, 31, 32, 33] (by decide +kernel) (by decide +kernel)
set_option maxRecDepth 20000 in
theorem gX1_billed_X1_noLine : GoodIn wsX1_billed (wsV RX1 116 RX1 yX1_noLine wsX1_noLine) := goodIn_app (goodIn_of _ (by decide +kernel)) ggX1_billed_X1_noLine
theorem dX1_billed_0 : decode cX1_billed 0 = .ok (.aload_n 0, 1) := by decide +kernel
theorem dX1_billed_1 : decode cX1_billed 1 = .ok (.iload_n 1, 1) := by decide +kernel
theorem dX1_billed_2 : decode cX1_billed 2 = .ok (.invokevirtual 116, 3) := by decide +kernel
theorem dX1_billed_5 : decode cX1_billed 5 = .ok (.ifCond .eq 7, 3) := by decide +kernel
theorem dX1_billed_8 : decode cX1_billed 8 = .ok (.iconst 0, 1) := by decide +kernel
theorem dX1_billed_9 : decode cX1_billed 9 = .ok (.goto 9, 3) := by decide +kernel
theorem dX1_billed_12 : decode cX1_billed 12 = .ok (.aload_n 0, 1) := by decide +kernel
theorem dX1_billed_13 : decode cX1_billed 13 = .ok (.getfield 19, 3) := by decide +kernel
theorem dX1_billed_16 : decode cX1_billed 16 = .ok (.iload_n 1, 1) := by decide +kernel
theorem dX1_billed_17 : decode cX1_billed 17 = .ok (.iaload, 1) := by decide +kernel
theorem dX1_billed_18 : decode cX1_billed 18 = .ok (.ireturn, 1) := by decide +kernel
set_option maxRecDepth 20000 in
theorem ggX1_held_X1_noLine : GoodIn wsX1_held wsX1_noLine := goodIn_r _ [6, 7, 8, 9, 5, 10, 11, 12, 13, 14, 15, 16, 17, 18, 19, 20, 21, 22, 23, 24, 25, 26, 27, 28, 29, 30, 31, 32, 33] (by decide +kernel) (by decide +kernel)
set_option maxRecDepth 20000 in
theorem gX1_held_X1_noLine : GoodIn wsX1_held (wsV RX1 116 RX1 yX1_noLine wsX1_noLine) := goodIn_app (goodIn_of _ (by decide +kernel)) ggX1_held_X1_noLine
theorem dX1_held_0 : decode cX1_held 0 = .ok (.aload_n 0, 1) := by decide +kernel
theorem dX1_held_1 : decode cX1_held 1 = .ok (.iload_n 1, 1) := by decide +kernel
theorem dX1_held_2 : decode cX1_held 2 = .ok (.invokevirtual 116, 3) := by decide +kernel
theorem dX1_held_5 : decode cX1_held 5 = .ok (.ifCond .eq 7, 3) := by decide +kernel
theorem dX1_held_8 : decode cX1_held 8 = .ok (.iconst 0, 1) := by decide +kernel
theorem dX1_held_9 : decode cX1_held 9 = .ok (.goto 9, 3) := by decide +kernel
theorem dX1_held_12 : decode cX1_held 12 = .ok (.aload_n 0, 1) := by decide +kernel
theorem dX1_held_13 : decode cX1_held 13 = .ok (.getfield 22, 3) := by decide +kernel
theorem dX1_held_16 : decode cX1_held 16 = .ok (.iload_n 1, 1) := by decide +kernel
theorem dX1_held_17 : decode cX1_held 17 = .ok (.iaload, 1) := by decide +kernel
theorem dX1_held_18 : decode cX1_held 18 = .ok (.ireturn, 1) := by decide +kernel
theorem dX1_isAhead_0 : decode cX1_isAhead 0 = .ok (.aload_n 0, 1) := by decide +kernel
theorem dX1_isAhead_1 : decode cX1_isAhead 1 = .ok (.getfield 16, 3) := by decide +kernel
theorem dX1_isAhead_4 : decode cX1_isAhead 4 = .ok (.iload_n 1, 1) := by decide +kernel
theorem dX1_isAhead_5 : decode cX1_isAhead 5 = .ok (.iaload, 1) := by decide +kernel
theorem dX1_isAhead_6 : decode cX1_isAhead 6 = .ok (.i2l, 1) := by decide +kernel
theorem dX1_isAhead_7 : decode cX1_isAhead 7 = .ok (.aload_n 0, 1) := by decide +kernel
theorem dX1_isAhead_8 : decode cX1_isAhead 8 = .ok (.getfield 7, 3) := by decide +kernel
theorem dX1_isAhead_11 : decode cX1_isAhead 11 = .ok (.iload_n 2, 1) := by decide +kernel
theorem dX1_isAhead_12 : decode cX1_isAhead 12 = .ok (.iaload, 1) := by decide +kernel
theorem dX1_isAhead_13 : decode cX1_isAhead 13 = .ok (.ifCond .ne 7, 3) := by decide +kernel
theorem dX1_isAhead_16 : decode cX1_isAhead 16 = .ok (.iconst 1, 1) := by decide +kernel
theorem dX1_isAhead_17 : decode cX1_isAhead 17 = .ok (.goto 9, 3) := by decide +kernel
theorem dX1_isAhead_20 : decode cX1_isAhead 20 = .ok (.aload_n 0, 1) := by decide +kernel
theorem dX1_isAhead_21 : decode cX1_isAhead 21 = .ok (.getfield 7, 3) := by decide +kernel
theorem dX1_isAhead_24 : decode cX1_isAhead 24 = .ok (.iload_n 2, 1) := by decide +kernel
theorem dX1_isAhead_25 : decode cX1_isAhead 25 = .ok (.iaload, 1) := by decide +kernel
theorem dX1_isAhead_26 : decode cX1_isAhead 26 = .ok (.i2l, 1) := by decide +kernel
theorem dX1_isAhead_27 : decode cX1_isAhead 27 = .ok (.lmul, 1) := by decide +kernel
theorem dX1_isAhead_28 : decode cX1_isAhead 28 = .ok (.lstore_n 3, 1) := by decide +kernel
theorem dX1_isAhead_29 : decode cX1_isAhead 29 = .ok (.aload_n 0, 1) := by decide +kernel
theorem dX1_isAhead_30 : decode cX1_isAhead 30 = .ok (.getfield 16, 3) := by decide +kernel
theorem dX1_isAhead_33 : decode cX1_isAhead 33 = .ok (.iload_n 2, 1) := by decide +kernel
theorem dX1_isAhead_34 : decode cX1_isAhead 34 = .ok (.iaload, 1) := by decide +kernel
theorem dX1_isAhead_35 : decode cX1_isAhead 35 = .ok (.i2l, 1) := by decide +kernel
theorem dX1_isAhead_36 : decode cX1_isAhead 36 = .ok (.aload_n 0, 1) := by decide +kernel
theorem dX1_isAhead_37 : decode cX1_isAhead 37 = .ok (.getfield 7, 3) := by decide +kernel
theorem dX1_isAhead_40 : decode cX1_isAhead 40 = .ok (.iload_n 1, 1) := by decide +kernel
theorem dX1_isAhead_41 : decode cX1_isAhead 41 = .ok (.iaload, 1) := by decide +kernel
theorem dX1_isAhead_42 : decode cX1_isAhead 42 = .ok (.ifCond .ne 7, 3) := by decide +kernel
theorem dX1_isAhead_45 : decode cX1_isAhead 45 = .ok (.iconst 1, 1) := by decide +kernel
theorem dX1_isAhead_46 : decode cX1_isAhead 46 = .ok (.goto 9, 3) := by decide +kernel
theorem dX1_isAhead_49 : decode cX1_isAhead 49 = .ok (.aload_n 0, 1) := by decide +kernel
theorem dX1_isAhead_50 : decode cX1_isAhead 50 = .ok (.getfield 7, 3) := by decide +kernel
theorem dX1_isAhead_53 : decode cX1_isAhead 53 = .ok (.iload_n 1, 1) := by decide +kernel
theorem dX1_isAhead_54 : decode cX1_isAhead 54 = .ok (.iaload, 1) := by decide +kernel
theorem dX1_isAhead_55 : decode cX1_isAhead 55 = .ok (.i2l, 1) := by decide +kernel
theorem dX1_isAhead_56 : decode cX1_isAhead 56 = .ok (.lmul, 1) := by decide +kernel
theorem dX1_isAhead_57 : decode cX1_isAhead 57 = .ok (.lstore 5, 2) := by decide +kernel
theorem dX1_isAhead_59 : decode cX1_isAhead 59 = .ok (.lload_n 3, 1) := by decide +kernel
theorem dX1_isAhead_60 : decode cX1_isAhead 60 = .ok (.lload 5, 2) := by decide +kernel
theorem dX1_isAhead_62 : decode cX1_isAhead 62 = .ok (.lcmp, 1) := by decide +kernel
theorem dX1_isAhead_63 : decode cX1_isAhead 63 = .ok (.ifCond .gt 15, 3) := by decide +kernel
theorem dX1_isAhead_66 : decode cX1_isAhead 66 = .ok (.lload_n 3, 1) := by decide +kernel
theorem dX1_isAhead_67 : decode cX1_isAhead 67 = .ok (.lload 5, 2) := by decide +kernel
theorem dX1_isAhead_69 : decode cX1_isAhead 69 = .ok (.lcmp, 1) := by decide +kernel
theorem dX1_isAhead_70 : decode cX1_isAhead 70 = .ok (.ifCond .ne 12, 3) := by decide +kernel
theorem dX1_isAhead_73 : decode cX1_isAhead 73 = .ok (.iload_n 1, 1) := by decide +kernel
theorem dX1_isAhead_74 : decode cX1_isAhead 74 = .ok (.iload_n 2, 1) := by decide +kernel
theorem dX1_isAhead_75 : decode cX1_isAhead 75 = .ok (.if_icmp .ge 7, 3) := by decide +kernel
theorem dX1_isAhead_78 : decode cX1_isAhead 78 = .ok (.iconst 1, 1) := by decide +kernel
theorem dX1_isAhead_79 : decode cX1_isAhead 79 = .ok (.goto 4, 3) := by decide +kernel
theorem dX1_isAhead_82 : decode cX1_isAhead 82 = .ok (.iconst 0, 1) := by decide +kernel
theorem dX1_isAhead_83 : decode cX1_isAhead 83 = .ok (.ireturn, 1) := by decide +kernel
set_option maxRecDepth 20000 in
theorem ggX1_lineByShare_X1_isAhead : GoodIn wsX1_lineByShare wsX1_isAhead := goodIn_r _ [6, 7, 8, 14, 15, 16, 17, 18, 19, 20, 21, 22, 23, 24, 25, 26, 27] (by decide +kernel) (by decide +kernel)
set_option maxRecDepth 20000 in
theorem gX1_lineByShare_X1_isAhead : GoodIn wsX1_lineByShare (wsV RX1 119 RX1 yX1_isAhead wsX1_isAhead) := goodIn_app (goodIn_of _ (by decide +kernel)) ggX1_lineByShare_X1_isAhead
set_option maxRecDepth 20000 in
theorem ggX1_lineByShare_X1_refused : GoodIn wsX1_lineByShare wsX1_refused := goodIn_r _ [12, 13, 14, 15, 16, 17, 18, 19, 20, 21, 22, 23, 24, 25, 26, 27] (by decide +kernel) (by decide +kernel)
set_option maxRecDepth 20000 in
theorem gX1_lineByShare_X1_refused : GoodIn wsX1_lineByShare (wsV RX1 56 RX1 yX1_refused wsX1_refused) := goodIn_app (goodIn_of _ (by decide +kernel)) ggX1_lineByShare_X1_refused
theorem dX1_lineByShare_0 : decode cX1_lineByShare 0 = .ok (.iconst (-1), 1) := by decide +kernel
theorem dX1_lineByShare_1 : decode cX1_lineByShare 1 = .ok (.istore_n 2, 1) := by decide +kernel
theorem dX1_lineByShare_2 : decode cX1_lineByShare 2 = .ok (.iconst 0, 1) := by decide +kernel
theorem dX1_lineByShare_3 : decode cX1_lineByShare 3 = .ok (.istore_n 3, 1) := by decide +kernel
theorem dX1_lineByShare_4 : decode cX1_lineByShare 4 = .ok (.iload_n 3, 1) := by decide +kernel
theorem dX1_lineByShare_5 : decode cX1_lineByShare 5 = .ok (.aload_n 0, 1) := by decide +kernel
theorem dX1_lineByShare_6 : decode cX1_lineByShare 6 = .ok (.getfield 44, 3) := by decide +kernel
theorem dX1_lineByShare_9 : decode cX1_lineByShare 9 = .ok (.if_icmp .ge 62, 3) := by decide +kernel
theorem dX1_lineByShare_12 : decode cX1_lineByShare 12 = .ok (.iconst 0, 1) := by decide +kernel
theorem dX1_lineByShare_13 : decode cX1_lineByShare 13 = .ok (.istore 4, 2) := by decide +kernel
theorem dX1_lineByShare_15 : decode cX1_lineByShare 15 = .ok (.iconst 0, 1) := by decide +kernel
theorem dX1_lineByShare_16 : decode cX1_lineByShare 16 = .ok (.istore 5, 2) := by decide +kernel
theorem dX1_lineByShare_18 : decode cX1_lineByShare 18 = .ok (.iload 5, 2) := by decide +kernel
theorem dX1_lineByShare_20 : decode cX1_lineByShare 20 = .ok (.aload_n 0, 1) := by decide +kernel
theorem dX1_lineByShare_21 : decode cX1_lineByShare 21 = .ok (.getfield 44, 3) := by decide +kernel
theorem dX1_lineByShare_24 : decode cX1_lineByShare 24 = .ok (.if_icmp .ge 29, 3) := by decide +kernel
theorem dX1_lineByShare_27 : decode cX1_lineByShare 27 = .ok (.iload 4, 2) := by decide +kernel
theorem dX1_lineByShare_29 : decode cX1_lineByShare 29 = .ok (.aload_n 0, 1) := by decide +kernel
theorem dX1_lineByShare_30 : decode cX1_lineByShare 30 = .ok (.iload 5, 2) := by decide +kernel
theorem dX1_lineByShare_32 : decode cX1_lineByShare 32 = .ok (.iload_n 3, 1) := by decide +kernel
theorem dX1_lineByShare_33 : decode cX1_lineByShare 33 = .ok (.invokevirtual 119, 3) := by decide +kernel
theorem dX1_lineByShare_36 : decode cX1_lineByShare 36 = .ok (.ifCond .eq 7, 3) := by decide +kernel
theorem dX1_lineByShare_39 : decode cX1_lineByShare 39 = .ok (.iconst 1, 1) := by decide +kernel
theorem dX1_lineByShare_40 : decode cX1_lineByShare 40 = .ok (.goto 4, 3) := by decide +kernel
theorem dX1_lineByShare_43 : decode cX1_lineByShare 43 = .ok (.iconst 0, 1) := by decide +kernel
theorem dX1_lineByShare_44 : decode cX1_lineByShare 44 = .ok (.iadd, 1) := by decide +kernel
theorem dX1_lineByShare_45 : decode cX1_lineByShare 45 = .ok (.istore 4, 2) := by decide +kernel
theorem dX1_lineByShare_47 : decode cX1_lineByShare 47 = .ok (.iinc 5 1, 3) := by decide +kernel
theorem dX1_lineByShare_50 : decode cX1_lineByShare 50 = .ok (.goto (-32), 3) := by decide +kernel
theorem dX1_lineByShare_53 : decode cX1_lineByShare 53 = .ok (.iload 4, 2) := by decide +kernel
theorem dX1_lineByShare_55 : decode cX1_lineByShare 55 = .ok (.iload_n 1, 1) := by decide +kernel
theorem dX1_lineByShare_56 : decode cX1_lineByShare 56 = .ok (.if_icmp .ne 7, 3) := by decide +kernel
theorem dX1_lineByShare_59 : decode cX1_lineByShare 59 = .ok (.iload_n 3, 1) := by decide +kernel
theorem dX1_lineByShare_60 : decode cX1_lineByShare 60 = .ok (.goto 4, 3) := by decide +kernel
theorem dX1_lineByShare_63 : decode cX1_lineByShare 63 = .ok (.iload_n 2, 1) := by decide +kernel
theorem dX1_lineByShare_64 : decode cX1_lineByShare 64 = .ok (.istore_n 2, 1) := by decide +kernel
theorem dX1_lineByShare_65 : decode cX1_lineByShare 65 = .ok (.iinc 3 1, 3) := by decide +kernel
theorem dX1_lineByShare_68 : decode cX1_lineByShare 68 = .ok (.goto (-64), 3) := by decide +kernel
theorem dX1_lineByShare_71 : decode cX1_lineByShare 71 = .ok (.aload_n 0, 1) := by decide +kernel
theorem dX1_lineByShare_72 : decode cX1_lineByShare 72 = .ok (.iload_n 2, 1) := by decide +kernel
theorem dX1_lineByShare_73 : decode cX1_lineByShare 73 = .ok (.iconst (-1), 1) := by decide +kernel
theorem dX1_lineByShare_74 : decode cX1_lineByShare 74 = .ok (.if_icmp .ne 7, 3) := by decide +kernel
theorem dX1_lineByShare_77 : decode cX1_lineByShare 77 = .ok (.iconst 1, 1) := by decide +kernel
theorem dX1_lineByShare_78 : decode cX1_lineByShare 78 = .ok (.goto 4, 3) := by decide +kernel
theorem dX1_lineByShare_81 : decode cX1_lineByShare 81 = .ok (.iconst 0, 1) := by decide +kernel
theorem dX1_lineByShare_82 : decode cX1_lineByShare 82 = .ok (.invokevirtual 56, 3) := by decide +kernel
theorem dX1_lineByShare_85 : decode cX1_lineByShare 85 = .ok (.ifCond .eq 7, 3) := by decide +kernel
theorem dX1_lineByShare_88 : decode cX1_lineByShare 88 = .ok (.iconst 0, 1) := by decide +kernel
theorem dX1_lineByShare_89 : decode cX1_lineByShare 89 = .ok (.goto 4, 3) := by decide +kernel
theorem dX1_lineByShare_92 : decode cX1_lineByShare 92 = .ok (.iload_n 2, 1) := by decide +kernel
theorem dX1_lineByShare_93 : decode cX1_lineByShare 93 = .ok (.ireturn, 1) := by decide +kernel
set_option maxRecDepth 20000 in
theorem ggX1_contractSum_X1_sum : GoodIn wsX1_contractSum wsX1_sum := goodIn_r _ [6, 7, 13, 14, 15, 16, 17, 18, 19, 20, 21, 22, 23, 24, 25, 26] (by decide +kernel) (by decide +kernel)
set_option maxRecDepth 20000 in
theorem gX1_contractSum_X1_sum : GoodIn wsX1_contractSum (wsV RX1 87 RX1 yX1_sum wsX1_sum) := goodIn_app (goodIn_of _ (by decide +kernel)) ggX1_contractSum_X1_sum
set_option maxRecDepth 20000 in
theorem ggX1_contractSum_X1_fine : GoodIn wsX1_contractSum wsX1_fine := goodIn_r _ [11, 12, 13, 14, 15, 16, 17, 18, 19, 20, 21, 22, 23, 24, 25, 26] (by decide +kernel) (by decide +kernel)
set_option maxRecDepth 20000 in
theorem gX1_contractSum_X1_fine : GoodIn wsX1_contractSum (wsV RX1 83 RX1 yX1_fine wsX1_fine) := goodIn_app (goodIn_of _ (by decide +kernel)) ggX1_contractSum_X1_fine
theorem dX1_contractSum_0 : decode cX1_contractSum 0 = .ok (.aload_n 0, 1) := by decide +kernel
theorem dX1_contractSum_1 : decode cX1_contractSum 1 = .ok (.aload_n 0, 1) := by decide +kernel
theorem dX1_contractSum_2 : decode cX1_contractSum 2 = .ok (.aload_n 0, 1) := by decide +kernel
theorem dX1_contractSum_3 : decode cX1_contractSum 3 = .ok (.getfield 7, 3) := by decide +kernel
theorem dX1_contractSum_6 : decode cX1_contractSum 6 = .ok (.invokevirtual 87, 3) := by decide +kernel
theorem dX1_contractSum_9 : decode cX1_contractSum 9 = .ok (.invokevirtual 83, 3) := by decide +kernel
theorem dX1_contractSum_12 : decode cX1_contractSum 12 = .ok (.ireturn, 1) := by decide +kernel
theorem dX1_sumPaid_0 : decode cX1_sumPaid 0 = .ok (.iconst 0, 1) := by decide +kernel
theorem dX1_sumPaid_1 : decode cX1_sumPaid 1 = .ok (.istore_n 1, 1) := by decide +kernel
theorem dX1_sumPaid_2 : decode cX1_sumPaid 2 = .ok (.iconst 0, 1) := by decide +kernel
theorem dX1_sumPaid_3 : decode cX1_sumPaid 3 = .ok (.istore_n 2, 1) := by decide +kernel
theorem dX1_sumPaid_4 : decode cX1_sumPaid 4 = .ok (.iload_n 2, 1) := by decide +kernel
theorem dX1_sumPaid_5 : decode cX1_sumPaid 5 = .ok (.aload_n 0, 1) := by decide +kernel
theorem dX1_sumPaid_6 : decode cX1_sumPaid 6 = .ok (.getfield 100, 3) := by decide +kernel
theorem dX1_sumPaid_9 : decode cX1_sumPaid 9 = .ok (.if_icmp .ge 31, 3) := by decide +kernel
theorem dX1_sumPaid_12 : decode cX1_sumPaid 12 = .ok (.iload_n 1, 1) := by decide +kernel
theorem dX1_sumPaid_13 : decode cX1_sumPaid 13 = .ok (.aload_n 0, 1) := by decide +kernel
theorem dX1_sumPaid_14 : decode cX1_sumPaid 14 = .ok (.getfield 28, 3) := by decide +kernel
theorem dX1_sumPaid_17 : decode cX1_sumPaid 17 = .ok (.iload_n 2, 1) := by decide +kernel
theorem dX1_sumPaid_18 : decode cX1_sumPaid 18 = .ok (.iaload, 1) := by decide +kernel
theorem dX1_sumPaid_19 : decode cX1_sumPaid 19 = .ok (.ifCond .ne 7, 3) := by decide +kernel
theorem dX1_sumPaid_22 : decode cX1_sumPaid 22 = .ok (.iconst 0, 1) := by decide +kernel
theorem dX1_sumPaid_23 : decode cX1_sumPaid 23 = .ok (.goto 9, 3) := by decide +kernel
theorem dX1_sumPaid_26 : decode cX1_sumPaid 26 = .ok (.aload_n 0, 1) := by decide +kernel
theorem dX1_sumPaid_27 : decode cX1_sumPaid 27 = .ok (.getfield 31, 3) := by decide +kernel
theorem dX1_sumPaid_30 : decode cX1_sumPaid 30 = .ok (.iload_n 2, 1) := by decide +kernel
theorem dX1_sumPaid_31 : decode cX1_sumPaid 31 = .ok (.iaload, 1) := by decide +kernel
theorem dX1_sumPaid_32 : decode cX1_sumPaid 32 = .ok (.iadd, 1) := by decide +kernel
theorem dX1_sumPaid_33 : decode cX1_sumPaid 33 = .ok (.istore_n 1, 1) := by decide +kernel
theorem dX1_sumPaid_34 : decode cX1_sumPaid 34 = .ok (.iinc 2 1, 3) := by decide +kernel
theorem dX1_sumPaid_37 : decode cX1_sumPaid 37 = .ok (.goto (-33), 3) := by decide +kernel
theorem dX1_sumPaid_40 : decode cX1_sumPaid 40 = .ok (.iload_n 1, 1) := by decide +kernel
theorem dX1_sumPaid_41 : decode cX1_sumPaid 41 = .ok (.ireturn, 1) := by decide +kernel
set_option maxRecDepth 20000 in
theorem ggX1_paid_X1_sumPaid : GoodIn wsX1_paid wsX1_sumPaid := goodIn_r _ [5, 6, 7, 8, 14, 15, 16, 17, 18, 19, 20, 21, 22, 23, 24, 25, 26, 27] (by decide +kernel) (by decide +kernel)
set_option maxRecDepth 20000 in
theorem gX1_paid_X1_sumPaid : GoodIn wsX1_paid (wsV RX1 123 RX1 yX1_sumPaid wsX1_sumPaid) := goodIn_app (goodIn_of _ (by decide +kernel)) ggX1_paid_X1_sumPaid
set_option maxRecDepth 20000 in
theorem ggX1_paid_X1_fine : GoodIn wsX1_paid wsX1_fine := goodIn_r _ [12, 13, 14, 15, 16, 17, 18, 19, 20, 21, 22, 23, 24, 25, 26, 27] (by decide +kernel) (by decide +kernel)
set_option maxRecDepth 20000 in
theorem gX1_paid_X1_fine : GoodIn wsX1_paid (wsV RX1 83 RX1 yX1_fine wsX1_fine) := goodIn_app (goodIn_of _ (by decide +kernel)) ggX1_paid_X1_fine
theorem dX1_paid_0 : decode cX1_paid 0 = .ok (.aload_n 0, 1) := by decide +kernel
theorem dX1_paid_1 : decode cX1_paid 1 = .ok (.aload_n 0, 1) := by decide +kernel
theorem dX1_paid_2 : decode cX1_paid 2 = .ok (.invokevirtual 123, 3) := by decide +kernel
theorem dX1_paid_5 : decode cX1_paid 5 = .ok (.invokevirtual 83, 3) := by decide +kernel
theorem dX1_paid_8 : decode cX1_paid 8 = .ok (.ireturn, 1) := by decide +kernel
set_option maxRecDepth 20000 in
theorem ggX1_toCome_X1_sum : GoodIn wsX1_toCome wsX1_sum := goodIn_r _ [6, 7, 20, 21, 22, 23, 24, 25, 26, 27, 28, 29, 30, 31, 32, 33] (by decide +kernel) (by decide +kernel)
set_option maxRecDepth 20000 in
theorem gX1_toCome_X1_sum : GoodIn wsX1_toCome (wsV RX1 87 RX1 yX1_sum wsX1_sum) := goodIn_app (goodIn_of _ (by decide +kernel)) ggX1_toCome_X1_sum
set_option maxRecDepth 20000 in
theorem ggX1_toCome_X1_sumPaid : GoodIn wsX1_toCome wsX1_sumPaid := goodIn_r _ [11, 12, 13, 14, 20, 21, 22, 23, 24, 25, 26, 27, 28, 29, 30, 31, 32, 33] (by decide +kernel) (by decide +kernel)
set_option maxRecDepth 20000 in
theorem gX1_toCome_X1_sumPaid : GoodIn wsX1_toCome (wsV RX1 123 RX1 yX1_sumPaid wsX1_sumPaid) := goodIn_app (goodIn_of _ (by decide +kernel)) ggX1_toCome_X1_sumPaid
set_option maxRecDepth 20000 in
theorem ggX1_toCome_X1_fine : GoodIn wsX1_toCome wsX1_fine := goodIn_r _ [18, 19, 20, 21, 22, 23, 24, 25, 26, 27, 28, 29, 30, 31, 32, 33] (by decide +kernel) (by decide +kernel)
set_option maxRecDepth 20000 in
theorem gX1_toCome_X1_fine : GoodIn wsX1_toCome (wsV RX1 83 RX1 yX1_fine wsX1_fine) := goodIn_app (goodIn_of _ (by decide +kernel)) ggX1_toCome_X1_fine
theorem dX1_toCome_0 : decode cX1_toCome 0 = .ok (.aload_n 0, 1) := by decide +kernel
theorem dX1_toCome_1 : decode cX1_toCome 1 = .ok (.aload_n 0, 1) := by decide +kernel
theorem dX1_toCome_2 : decode cX1_toCome 2 = .ok (.aload_n 0, 1) := by decide +kernel
theorem dX1_toCome_3 : decode cX1_toCome 3 = .ok (.getfield 7, 3) := by decide +kernel
theorem dX1_toCome_6 : decode cX1_toCome 6 = .ok (.invokevirtual 87, 3) := by decide +kernel
theorem dX1_toCome_9 : decode cX1_toCome 9 = .ok (.aload_n 0, 1) := by decide +kernel
theorem dX1_toCome_10 : decode cX1_toCome 10 = .ok (.invokevirtual 123, 3) := by decide +kernel
theorem dX1_toCome_13 : decode cX1_toCome 13 = .ok (.isub, 1) := by decide +kernel
theorem dX1_toCome_14 : decode cX1_toCome 14 = .ok (.invokevirtual 83, 3) := by decide +kernel
theorem dX1_toCome_17 : decode cX1_toCome 17 = .ok (.ireturn, 1) := by decide +kernel
theorem dJ9_floorDiv_f86c9_0 : decode cJ9_floorDiv_f86c9 0 = .ok (.lload_n 0, 1) := by decide +kernel
theorem dJ9_floorDiv_f86c9_1 : decode cJ9_floorDiv_f86c9 1 = .ok (.lload_n 2, 1) := by decide +kernel
theorem dJ9_floorDiv_f86c9_2 : decode cJ9_floorDiv_f86c9 2 = .ok (.ldiv, 1) := by decide +kernel
theorem dJ9_floorDiv_f86c9_3 : decode cJ9_floorDiv_f86c9 3 = .ok (.lstore 4, 2) := by decide +kernel
theorem dJ9_floorDiv_f86c9_5 : decode cJ9_floorDiv_f86c9 5 = .ok (.lload_n 0, 1) := by decide +kernel
theorem dJ9_floorDiv_f86c9_6 : decode cJ9_floorDiv_f86c9 6 = .ok (.lload_n 2, 1) := by decide +kernel
theorem dJ9_floorDiv_f86c9_7 : decode cJ9_floorDiv_f86c9 7 = .ok (.lxor, 1) := by decide +kernel
theorem dJ9_floorDiv_f86c9_8 : decode cJ9_floorDiv_f86c9 8 = .ok (.lconst 0, 1) := by decide +kernel
theorem dJ9_floorDiv_f86c9_9 : decode cJ9_floorDiv_f86c9 9 = .ok (.lcmp, 1) := by decide +kernel
theorem dJ9_floorDiv_f86c9_10 : decode cJ9_floorDiv_f86c9 10 = .ok (.ifCond .ge 17, 3) := by decide +kernel
theorem dJ9_floorDiv_f86c9_13 : decode cJ9_floorDiv_f86c9 13 = .ok (.lload 4, 2) := by decide +kernel
theorem dJ9_floorDiv_f86c9_15 : decode cJ9_floorDiv_f86c9 15 = .ok (.lload_n 2, 1) := by decide +kernel
theorem dJ9_floorDiv_f86c9_16 : decode cJ9_floorDiv_f86c9 16 = .ok (.lmul, 1) := by decide +kernel
theorem dJ9_floorDiv_f86c9_17 : decode cJ9_floorDiv_f86c9 17 = .ok (.lload_n 0, 1) := by decide +kernel
theorem dJ9_floorDiv_f86c9_18 : decode cJ9_floorDiv_f86c9 18 = .ok (.lcmp, 1) := by decide +kernel
theorem dJ9_floorDiv_f86c9_19 : decode cJ9_floorDiv_f86c9 19 = .ok (.ifCond .eq 8, 3) := by decide +kernel
theorem dJ9_floorDiv_f86c9_22 : decode cJ9_floorDiv_f86c9 22 = .ok (.lload 4, 2) := by decide +kernel
theorem dJ9_floorDiv_f86c9_24 : decode cJ9_floorDiv_f86c9 24 = .ok (.lconst 1, 1) := by decide +kernel
theorem dJ9_floorDiv_f86c9_25 : decode cJ9_floorDiv_f86c9 25 = .ok (.lsub, 1) := by decide +kernel
theorem dJ9_floorDiv_f86c9_26 : decode cJ9_floorDiv_f86c9 26 = .ok (.lreturn, 1) := by decide +kernel
theorem dJ9_floorDiv_f86c9_27 : decode cJ9_floorDiv_f86c9 27 = .ok (.lload 4, 2) := by decide +kernel
theorem dJ9_floorDiv_f86c9_29 : decode cJ9_floorDiv_f86c9 29 = .ok (.lreturn, 1) := by decide +kernel
theorem dJ9_max_7cf53_0 : decode cJ9_max_7cf53 0 = .ok (.iload_n 0, 1) := by decide +kernel
theorem dJ9_max_7cf53_1 : decode cJ9_max_7cf53 1 = .ok (.iload_n 1, 1) := by decide +kernel
theorem dJ9_max_7cf53_2 : decode cJ9_max_7cf53 2 = .ok (.if_icmp .lt 7, 3) := by decide +kernel
theorem dJ9_max_7cf53_5 : decode cJ9_max_7cf53 5 = .ok (.iload_n 0, 1) := by decide +kernel
theorem dJ9_max_7cf53_6 : decode cJ9_max_7cf53 6 = .ok (.goto 4, 3) := by decide +kernel
theorem dJ9_max_7cf53_9 : decode cJ9_max_7cf53 9 = .ok (.iload_n 1, 1) := by decide +kernel
theorem dJ9_max_7cf53_10 : decode cJ9_max_7cf53 10 = .ok (.ireturn, 1) := by decide +kernel
set_option maxRecDepth 20000 in
theorem ggL_addLine_X0_addLine : GoodIn wsL_addLine wsX0_addLine := goodIn_ca (goodIn_ca (goodIn_r _ [7, 8, 9, 10, 11, 12, 6, 13, 14, 15, 16, 17, 18, 19, 20, 21, 22, 23, 24, 25, 26, 27, 28, 29, 30, 31, 32, 33, 34, 35, 36] (by decide +kernel) (by decide +kernel)) (goodIn_sub (fun _ h => List.mem_cons_of_mem _ (List.mem_append_left _ (List.mem_append_right _ h))) (by decide +kernel))) (goodIn_sub (fun _ h => List.mem_cons_of_mem _ (List.mem_append_right _ h)) (by decide +kernel))
set_option maxRecDepth 20000 in
theorem gL_addLine_X0_addLine : GoodIn wsL_addLine (wsV RL 7 RX0 yX0_addLine wsX0_addLine) := goodIn_app (goodIn_of _ (by decide +kernel)) ggL_addLine_X0_addLine
end
section
theorem dL_addLine_0 : decode cL_addLine 0 = .ok (.aload_n 2, 1) := by decide +kernel
theorem dL_addLine_1 : decode cL_addLine 1 = .ok (.iconst 0, 1) := by decide +kernel
theorem dL_addLine_2 : decode cL_addLine 2 = .ok (.aload_n 0, 1) := by decide +kernel
theorem dL_addLine_3 : decode cL_addLine 3 = .ok (.iload_n 1, 1) := by decide +kernel
theorem dL_addLine_4 : decode cL_addLine 4 = .ok (.invokevirtual 7, 3) := by decide +kernel
theorem dL_addLine_7 : decode cL_addLine 7 = .ok (.i2l, 1) := by decide +kernel
theorem dL_addLine_8 : decode cL_addLine 8 = .ok (.lastore, 1) := by decide +kernel
theorem dL_addLine_9 : decode cL_addLine 9 = .ok (.goto 9, 3) := by decide +kernel
theorem dL_addLine_12 : decode cL_addLine 12 = .ok (.astore_n 3, 1) := by decide +kernel
theorem dL_addLine_13 : decode cL_addLine 13 = .ok (.iconst 1, 1) := by decide +kernel
theorem dL_addLine_14 : decode cL_addLine 14 = .ok (.ireturn, 1) := by decide +kernel
theorem dL_addLine_15 : decode cL_addLine 15 = .ok (.astore_n 3, 1) := by decide +kernel
theorem dL_addLine_16 : decode cL_addLine 16 = .ok (.iconst 2, 1) := by decide +kernel
theorem dL_addLine_17 : decode cL_addLine 17 = .ok (.ireturn, 1) := by decide +kernel
theorem dL_addLine_18 : decode cL_addLine 18 = .ok (.iconst 0, 1) := by decide +kernel
theorem dL_addLine_19 : decode cL_addLine 19 = .ok (.ireturn, 1) := by decide +kernel
set_option maxRecDepth 20000 in
theorem ggL_changeValue_X0_changeValue : GoodIn wsL_changeValue wsX0_changeValue := goodIn_ca (goodIn_ca (goodIn_ca (goodIn_r _ [8, 9, 10, 11, 12, 13, 14, 15, 16, 7, 17, 18, 19, 20, 21, 22, 23, 24, 25, 26, 27, 28, 29, 30, 31, 32, 33, 34, 35, 36, 37, 38, 39, 40] (by decide +kernel) (by decide +kernel)) (goodIn_sub (fun _ h => List.mem_cons_of_mem _ (List.mem_append_left _ (List.mem_append_left _ (List.mem_append_right _ h)))) (by decide +kernel))) (goodIn_sub (fun _ h => List.mem_cons_of_mem _ (List.mem_append_left _ (List.mem_append_right _ h))) (by decide +kernel))) (goodIn_sub (fun _ h => List.mem_cons_of_mem _ (List.mem_append_right _ h)) (by decide +kernel))
set_option maxRecDepth 20000 in
theorem gL_changeValue_X0_changeValue : GoodIn wsL_changeValue (wsV RL 17 RX0 yX0_changeValue wsX0_changeValue) := goodIn_app (goodIn_of _ (by decide +kernel)) ggL_changeValue_X0_changeValue
theorem dL_changeValue_0 : decode cL_changeValue 0 = .ok (.aload_n 3, 1) := by decide +kernel
theorem dL_changeValue_1 : decode cL_changeValue 1 = .ok (.iconst 0, 1) := by decide +kernel
theorem dL_changeValue_2 : decode cL_changeValue 2 = .ok (.aload_n 0, 1) := by decide +kernel
theorem dL_changeValue_3 : decode cL_changeValue 3 = .ok (.iload_n 1, 1) := by decide +kernel
theorem dL_changeValue_4 : decode cL_changeValue 4 = .ok (.iload_n 2, 1) := by decide +kernel
theorem dL_changeValue_5 : decode cL_changeValue 5 = .ok (.invokevirtual 17, 3) := by decide +kernel
theorem dL_changeValue_8 : decode cL_changeValue 8 = .ok (.i2l, 1) := by decide +kernel
theorem dL_changeValue_9 : decode cL_changeValue 9 = .ok (.lastore, 1) := by decide +kernel
theorem dL_changeValue_10 : decode cL_changeValue 10 = .ok (.goto 15, 3) := by decide +kernel
theorem dL_changeValue_13 : decode cL_changeValue 13 = .ok (.astore 4, 2) := by decide +kernel
theorem dL_changeValue_15 : decode cL_changeValue 15 = .ok (.iconst 1, 1) := by decide +kernel
theorem dL_changeValue_16 : decode cL_changeValue 16 = .ok (.ireturn, 1) := by decide +kernel
theorem dL_changeValue_17 : decode cL_changeValue 17 = .ok (.astore 4, 2) := by decide +kernel
theorem dL_changeValue_19 : decode cL_changeValue 19 = .ok (.iconst 2, 1) := by decide +kernel
theorem dL_changeValue_20 : decode cL_changeValue 20 = .ok (.ireturn, 1) := by decide +kernel
theorem dL_changeValue_21 : decode cL_changeValue 21 = .ok (.astore 4, 2) := by decide +kernel
theorem dL_changeValue_23 : decode cL_changeValue 23 = .ok (.iconst 3, 1) := by decide +kernel
theorem dL_changeValue_24 : decode cL_changeValue 24 = .ok (.ireturn, 1) := by decide +kernel
theorem dL_changeValue_25 : decode cL_changeValue 25 = .ok (.iconst 0, 1) := by decide +kernel
theorem dL_changeValue_26 : decode cL_changeValue 26 = .ok (.ireturn, 1) := by decide +kernel
set_option maxRecDepth 20000 in
theorem ggL_split_X0_split : GoodIn wsL_split wsX0_split := goodIn_ca (goodIn_ca (goodIn_ca (goodIn_r _ [8, 9, 10, 11, 12, 13, 14, 15, 16, 17, 7, 18, 19, 20, 21, 22, 23, 24, 25, 26, 27, 28, 29, 30, 31, 32, 33, 34, 35, 36, 37, 38, 39, 40, 41, 42, 43, 44, 45, 46, 47, 48, 49, 50, 51, 52, 53, 54, 55, 56] (by decide +kernel) (by decide +kernel)) (goodIn_sub (fun _ h => List.mem_cons_of_mem _ (List.mem_append_left _ (List.mem_append_left _ (List.mem_append_right _ h)))) (by decide +kernel))) (goodIn_sub (fun _ h => List.mem_cons_of_mem _ (List.mem_append_left _ (List.mem_append_right _ h))) (by decide +kernel))) (goodIn_sub (fun _ h => List.mem_cons_of_mem _ (List.mem_append_right _ h)) (by decide +kernel))
set_option maxRecDepth 20000 in
theorem gL_split_X0_split : GoodIn wsL_split (wsV RL 23 RX0 yX0_split wsX0_split) := goodIn_app (goodIn_of _ (by decide +kernel)) ggL_split_X0_split
theorem dL_split_0 : decode cL_split 0 = .ok (.aload_n 3, 1) := by decide +kernel
theorem dL_split_1 : decode cL_split 1 = .ok (.iconst 0, 1) := by decide +kernel
theorem dL_split_2 : decode cL_split 2 = .ok (.aload_n 0, 1) := by decide +kernel
theorem dL_split_3 : decode cL_split 3 = .ok (.iload_n 1, 1) := by decide +kernel
theorem dL_split_4 : decode cL_split 4 = .ok (.iload_n 2, 1) := by decide +kernel
theorem dL_split_5 : decode cL_split 5 = .ok (.invokevirtual 23, 3) := by decide +kernel
theorem dL_split_8 : decode cL_split 8 = .ok (.i2l, 1) := by decide +kernel
theorem dL_split_9 : decode cL_split 9 = .ok (.lastore, 1) := by decide +kernel
theorem dL_split_10 : decode cL_split 10 = .ok (.goto 15, 3) := by decide +kernel
theorem dL_split_13 : decode cL_split 13 = .ok (.astore 4, 2) := by decide +kernel
theorem dL_split_15 : decode cL_split 15 = .ok (.iconst 1, 1) := by decide +kernel
theorem dL_split_16 : decode cL_split 16 = .ok (.ireturn, 1) := by decide +kernel
theorem dL_split_17 : decode cL_split 17 = .ok (.astore 4, 2) := by decide +kernel
theorem dL_split_19 : decode cL_split 19 = .ok (.iconst 2, 1) := by decide +kernel
theorem dL_split_20 : decode cL_split 20 = .ok (.ireturn, 1) := by decide +kernel
theorem dL_split_21 : decode cL_split 21 = .ok (.astore 4, 2) := by decide +kernel
theorem dL_split_23 : decode cL_split 23 = .ok (.iconst 3, 1) := by decide +kernel
theorem dL_split_24 : decode cL_split 24 = .ok (.ireturn, 1) := by decide +kernel
theorem dL_split_25 : decode cL_split 25 = .ok (.iconst 0, 1) := by decide +kernel
theorem dL_split_26 : decode cL_split 26 = .ok (.ireturn, 1) := by decide +kernel
set_option maxRecDepth 20000 in
theorem ggL_setWork_X0_setWork : GoodIn wsL_setWork wsX0_setWork := goodIn_ca (goodIn_ca (goodIn_ca (goodIn_r _ [8, 9, 10, 11, 12, 13, 14, 15, 16, 7, 17, 18, 19, 20, 21, 22, 23, 24, 25, 26, 27, 28, 29, 30, 31, 32, 33, 34, 35, 36, 37, 38, 39, 40, 41, 42, 43, 44, 45, 46, 47, 48, 49, 50, 51, 52, 53] (by decide +kernel) (by decide +kernel)) (goodIn_sub (fun _ h => List.mem_cons_of_mem _ (List.mem_append_left _ (List.mem_append_left _ (List.mem_append_right _ h)))) (by decide +kernel))) (goodIn_sub (fun _ h => List.mem_cons_of_mem _ (List.mem_append_left _ (List.mem_append_right _ h))) (by decide +kernel))) (goodIn_sub (fun _ h => List.mem_cons_of_mem _ (List.mem_append_right _ h)) (by decide +kernel))
set_option maxRecDepth 20000 in
theorem gL_setWork_X0_setWork : GoodIn wsL_setWork (wsV RL 26 RX0 yX0_setWork wsX0_setWork) := goodIn_app (goodIn_of _ (by decide +kernel)) ggL_setWork_X0_setWork
theorem dL_setWork_0 : decode cL_setWork 0 = .ok (.aload_n 3, 1) := by decide +kernel
theorem dL_setWork_1 : decode cL_setWork 1 = .ok (.iconst 0, 1) := by decide +kernel
theorem dL_setWork_2 : decode cL_setWork 2 = .ok (.aload_n 0, 1) := by decide +kernel
theorem dL_setWork_3 : decode cL_setWork 3 = .ok (.iload_n 1, 1) := by decide +kernel
theorem dL_setWork_4 : decode cL_setWork 4 = .ok (.iload_n 2, 1) := by decide +kernel
theorem dL_setWork_5 : decode cL_setWork 5 = .ok (.invokevirtual 26, 3) := by decide +kernel
theorem dL_setWork_8 : decode cL_setWork 8 = .ok (.i2l, 1) := by decide +kernel
theorem dL_setWork_9 : decode cL_setWork 9 = .ok (.lastore, 1) := by decide +kernel
theorem dL_setWork_10 : decode cL_setWork 10 = .ok (.goto 15, 3) := by decide +kernel
theorem dL_setWork_13 : decode cL_setWork 13 = .ok (.astore 4, 2) := by decide +kernel
theorem dL_setWork_15 : decode cL_setWork 15 = .ok (.iconst 1, 1) := by decide +kernel
theorem dL_setWork_16 : decode cL_setWork 16 = .ok (.ireturn, 1) := by decide +kernel
theorem dL_setWork_17 : decode cL_setWork 17 = .ok (.astore 4, 2) := by decide +kernel
theorem dL_setWork_19 : decode cL_setWork 19 = .ok (.iconst 2, 1) := by decide +kernel
theorem dL_setWork_20 : decode cL_setWork 20 = .ok (.ireturn, 1) := by decide +kernel
theorem dL_setWork_21 : decode cL_setWork 21 = .ok (.astore 4, 2) := by decide +kernel
theorem dL_setWork_23 : decode cL_setWork 23 = .ok (.iconst 3, 1) := by decide +kernel
theorem dL_setWork_24 : decode cL_setWork 24 = .ok (.ireturn, 1) := by decide +kernel
theorem dL_setWork_25 : decode cL_setWork 25 = .ok (.iconst 0, 1) := by decide +kernel
theorem dL_setWork_26 : decode cL_setWork 26 = .ok (.ireturn, 1) := by decide +kernel
set_option maxRecDepth 20000 in
theorem ggL_store_X0_store : GoodIn wsL_store wsX0_store := goodIn_ca (goodIn_ca (goodIn_ca (goodIn_r _ [8, 9, 10, 11, 12, 13, 14, 7, 15, 16, 17, 18, 19, 20, 21, 22, 23, 24, 25, 26, 27, 28, 29, 30, 31, 32, 33, 34, 35, 36, 37, 38, 39, 40, 41, 42, 43, 44, 45] (by decide +kernel) (by decide +kernel)) (goodIn_sub (fun _ h => List.mem_cons_of_mem _ (List.mem_append_left _ (List.mem_append_left _ (List.mem_append_right _ h)))) (by decide +kernel))) (goodIn_sub (fun _ h => List.mem_cons_of_mem _ (List.mem_append_left _ (List.mem_append_right _ h))) (by decide +kernel))) (goodIn_sub (fun _ h => List.mem_cons_of_mem _ (List.mem_append_right _ h)) (by decide +kernel))
set_option maxRecDepth 20000 in
theorem gL_store_X0_store : GoodIn wsL_store (wsV RL 29 RX0 yX0_store wsX0_store) := goodIn_app (goodIn_of _ (by decide +kernel)) ggL_store_X0_store
theorem dL_store_0 : decode cL_store 0 = .ok (.aload_n 3, 1) := by decide +kernel
theorem dL_store_1 : decode cL_store 1 = .ok (.iconst 0, 1) := by decide +kernel
theorem dL_store_2 : decode cL_store 2 = .ok (.aload_n 0, 1) := by decide +kernel
theorem dL_store_3 : decode cL_store 3 = .ok (.iload_n 1, 1) := by decide +kernel
theorem dL_store_4 : decode cL_store 4 = .ok (.iload_n 2, 1) := by decide +kernel
theorem dL_store_5 : decode cL_store 5 = .ok (.invokevirtual 29, 3) := by decide +kernel
theorem dL_store_8 : decode cL_store 8 = .ok (.i2l, 1) := by decide +kernel
theorem dL_store_9 : decode cL_store 9 = .ok (.lastore, 1) := by decide +kernel
theorem dL_store_10 : decode cL_store 10 = .ok (.goto 15, 3) := by decide +kernel
theorem dL_store_13 : decode cL_store 13 = .ok (.astore 4, 2) := by decide +kernel
theorem dL_store_15 : decode cL_store 15 = .ok (.iconst 1, 1) := by decide +kernel
theorem dL_store_16 : decode cL_store 16 = .ok (.ireturn, 1) := by decide +kernel
theorem dL_store_17 : decode cL_store 17 = .ok (.astore 4, 2) := by decide +kernel
theorem dL_store_19 : decode cL_store 19 = .ok (.iconst 2, 1) := by decide +kernel
theorem dL_store_20 : decode cL_store 20 = .ok (.ireturn, 1) := by decide +kernel
theorem dL_store_21 : decode cL_store 21 = .ok (.astore 4, 2) := by decide +kernel
theorem dL_store_23 : decode cL_store 23 = .ok (.iconst 3, 1) := by decide +kernel
theorem dL_store_24 : decode cL_store 24 = .ok (.ireturn, 1) := by decide +kernel
theorem dL_store_25 : decode cL_store 25 = .ok (.iconst 0, 1) := by decide +kernel
theorem dL_store_26 : decode cL_store 26 = .ok (.ireturn, 1) := by decide +kernel
set_option maxRecDepth 20000 in
theorem ggL_place_X0_place : GoodIn wsL_place wsX0_place := goodIn_ca (goodIn_ca (goodIn_ca (goodIn_r _ [8, 9, 10, 11, 12, 13, 14, 15, 16, 7, 17, 18, 19, 20, 21, 22, 23, 24, 25, 26, 27, 28, 29, 30, 31, 32, 33, 34, 35, 36, 37, 38, 39, 40] (by decide +kernel) (by decide +kernel)) (goodIn_sub (fun _ h => List.mem_cons_of_mem _ (List.mem_append_left _ (List.mem_append_left _ (List.mem_append_right _ h)))) (by decide +kernel))) (goodIn_sub (fun _ h => List.mem_cons_of_mem _ (List.mem_append_left _ (List.mem_append_right _ h))) (by decide +kernel))) (goodIn_sub (fun _ h => List.mem_cons_of_mem _ (List.mem_append_right _ h)) (by decide +kernel))
set_option maxRecDepth 20000 in
theorem gL_place_X0_place : GoodIn wsL_place (wsV RL 32 RX0 yX0_place wsX0_place) := goodIn_app (goodIn_of _ (by decide +kernel)) ggL_place_X0_place
theorem dL_place_0 : decode cL_place 0 = .ok (.aload_n 3, 1) := by decide +kernel
theorem dL_place_1 : decode cL_place 1 = .ok (.iconst 0, 1) := by decide +kernel
theorem dL_place_2 : decode cL_place 2 = .ok (.aload_n 0, 1) := by decide +kernel
theorem dL_place_3 : decode cL_place 3 = .ok (.iload_n 1, 1) := by decide +kernel
theorem dL_place_4 : decode cL_place 4 = .ok (.iload_n 2, 1) := by decide +kernel
theorem dL_place_5 : decode cL_place 5 = .ok (.invokevirtual 32, 3) := by decide +kernel
theorem dL_place_8 : decode cL_place 8 = .ok (.i2l, 1) := by decide +kernel
theorem dL_place_9 : decode cL_place 9 = .ok (.lastore, 1) := by decide +kernel
theorem dL_place_10 : decode cL_place 10 = .ok (.goto 15, 3) := by decide +kernel
theorem dL_place_13 : decode cL_place 13 = .ok (.astore 4, 2) := by decide +kernel
theorem dL_place_15 : decode cL_place 15 = .ok (.iconst 1, 1) := by decide +kernel
theorem dL_place_16 : decode cL_place 16 = .ok (.ireturn, 1) := by decide +kernel
theorem dL_place_17 : decode cL_place 17 = .ok (.astore 4, 2) := by decide +kernel
theorem dL_place_19 : decode cL_place 19 = .ok (.iconst 2, 1) := by decide +kernel
theorem dL_place_20 : decode cL_place 20 = .ok (.ireturn, 1) := by decide +kernel
theorem dL_place_21 : decode cL_place 21 = .ok (.astore 4, 2) := by decide +kernel
theorem dL_place_23 : decode cL_place 23 = .ok (.iconst 3, 1) := by decide +kernel
theorem dL_place_24 : decode cL_place 24 = .ok (.ireturn, 1) := by decide +kernel
theorem dL_place_25 : decode cL_place 25 = .ok (.iconst 0, 1) := by decide +kernel
theorem dL_place_26 : decode cL_place 26 = .ok (.ireturn, 1) := by decide +kernel
set_option maxRecDepth 20000 in
theorem ggL_setStep_X0_setStep : GoodIn wsL_setStep wsX0_setStep := goodIn_ca (goodIn_ca (goodIn_r _ [7, 8, 9, 10, 6, 11, 12, 13, 14, 15, 16, 17, 18, 19, 20, 21, 22, 23, 24, 25, 26, 27, 28, 29, 30, 31, 32, 33, 34, 35, 36, 37, 38, 39, 40] (by decide +kernel) (by decide +kernel)) (goodIn_sub (fun _ h => List.mem_cons_of_mem _ (List.mem_append_left _ (List.mem_append_right _ h))) (by decide +kernel))) (goodIn_sub (fun _ h => List.mem_cons_of_mem _ (List.mem_append_right _ h)) (by decide +kernel))
set_option maxRecDepth 20000 in
theorem gL_setStep_X0_setStep : GoodIn wsL_setStep (wsV RL 35 RX0 yX0_setStep wsX0_setStep) := goodIn_app (goodIn_of _ (by decide +kernel)) ggL_setStep_X0_setStep
theorem dL_setStep_0 : decode cL_setStep 0 = .ok (.aload_n 3, 1) := by decide +kernel
theorem dL_setStep_1 : decode cL_setStep 1 = .ok (.iconst 0, 1) := by decide +kernel
theorem dL_setStep_2 : decode cL_setStep 2 = .ok (.aload_n 0, 1) := by decide +kernel
theorem dL_setStep_3 : decode cL_setStep 3 = .ok (.iload_n 1, 1) := by decide +kernel
theorem dL_setStep_4 : decode cL_setStep 4 = .ok (.iload_n 2, 1) := by decide +kernel
theorem dL_setStep_5 : decode cL_setStep 5 = .ok (.invokevirtual 35, 3) := by decide +kernel
theorem dL_setStep_8 : decode cL_setStep 8 = .ok (.i2l, 1) := by decide +kernel
theorem dL_setStep_9 : decode cL_setStep 9 = .ok (.lastore, 1) := by decide +kernel
theorem dL_setStep_10 : decode cL_setStep 10 = .ok (.goto 11, 3) := by decide +kernel
theorem dL_setStep_13 : decode cL_setStep 13 = .ok (.astore 4, 2) := by decide +kernel
theorem dL_setStep_15 : decode cL_setStep 15 = .ok (.iconst 1, 1) := by decide +kernel
theorem dL_setStep_16 : decode cL_setStep 16 = .ok (.ireturn, 1) := by decide +kernel
theorem dL_setStep_17 : decode cL_setStep 17 = .ok (.astore 4, 2) := by decide +kernel
theorem dL_setStep_19 : decode cL_setStep 19 = .ok (.iconst 2, 1) := by decide +kernel
theorem dL_setStep_20 : decode cL_setStep 20 = .ok (.ireturn, 1) := by decide +kernel
theorem dL_setStep_21 : decode cL_setStep 21 = .ok (.iconst 0, 1) := by decide +kernel
theorem dL_setStep_22 : decode cL_setStep 22 = .ok (.ireturn, 1) := by decide +kernel
set_option maxRecDepth 20000 in
theorem ggL_dropStep_X0_dropStep : GoodIn wsL_dropStep wsX0_dropStep := goodIn_ca (goodIn_ca (goodIn_r _ [7, 8, 9, 10, 11, 12, 13, 14, 6, 15, 16, 17, 18, 19, 20, 21, 22, 23, 24, 25, 26, 27, 28, 29, 30, 31, 32, 33, 34, 35, 36] (by decide +kernel) (by decide +kernel)) (goodIn_sub (fun _ h => List.mem_cons_of_mem _ (List.mem_append_left _ (List.mem_append_right _ h))) (by decide +kernel))) (goodIn_sub (fun _ h => List.mem_cons_of_mem _ (List.mem_append_right _ h)) (by decide +kernel))
set_option maxRecDepth 20000 in
theorem gL_dropStep_X0_dropStep : GoodIn wsL_dropStep (wsV RL 38 RX0 yX0_dropStep wsX0_dropStep) := goodIn_app (goodIn_of _ (by decide +kernel)) ggL_dropStep_X0_dropStep
theorem dL_dropStep_0 : decode cL_dropStep 0 = .ok (.aload_n 2, 1) := by decide +kernel
theorem dL_dropStep_1 : decode cL_dropStep 1 = .ok (.iconst 0, 1) := by decide +kernel
theorem dL_dropStep_2 : decode cL_dropStep 2 = .ok (.aload_n 0, 1) := by decide +kernel
theorem dL_dropStep_3 : decode cL_dropStep 3 = .ok (.iload_n 1, 1) := by decide +kernel
theorem dL_dropStep_4 : decode cL_dropStep 4 = .ok (.invokevirtual 38, 3) := by decide +kernel
theorem dL_dropStep_7 : decode cL_dropStep 7 = .ok (.i2l, 1) := by decide +kernel
theorem dL_dropStep_8 : decode cL_dropStep 8 = .ok (.lastore, 1) := by decide +kernel
theorem dL_dropStep_9 : decode cL_dropStep 9 = .ok (.goto 9, 3) := by decide +kernel
theorem dL_dropStep_12 : decode cL_dropStep 12 = .ok (.astore_n 3, 1) := by decide +kernel
theorem dL_dropStep_13 : decode cL_dropStep 13 = .ok (.iconst 1, 1) := by decide +kernel
theorem dL_dropStep_14 : decode cL_dropStep 14 = .ok (.ireturn, 1) := by decide +kernel
theorem dL_dropStep_15 : decode cL_dropStep 15 = .ok (.astore_n 3, 1) := by decide +kernel
theorem dL_dropStep_16 : decode cL_dropStep 16 = .ok (.iconst 2, 1) := by decide +kernel
theorem dL_dropStep_17 : decode cL_dropStep 17 = .ok (.ireturn, 1) := by decide +kernel
theorem dL_dropStep_18 : decode cL_dropStep 18 = .ok (.iconst 0, 1) := by decide +kernel
theorem dL_dropStep_19 : decode cL_dropStep 19 = .ok (.ireturn, 1) := by decide +kernel
set_option maxRecDepth 20000 in
theorem ggL_close_X0_close : GoodIn wsL_close wsX0_close := goodIn_ca (goodIn_r _ [6, 7, 8, 9, 10, 11, 12, 13, 14, 15, 16, 17, 18, 19, 5, 20, 21, 22, 23, 24, 25, 26, 27, 28, 29, 30, 31, 32, 33, 34, 35, 36, 37, 38, 39, 40, 41, 42, 43, 44, 45, 46, 47, 48, 49, 50, 51, 52, 53, 54, 55, 56, 57, 58, 59, 60, 61, 62, 63, 64, 65, 66, 67, 68, 69, 70, 71, 72, 73, 74, 75, 76, 77] (by decide +kernel) (by decide +kernel)) (goodIn_sub (fun _ h => List.mem_cons_of_mem _ (List.mem_append_right _ h)) (by decide +kernel))
set_option maxRecDepth 20000 in
theorem gL_close_X0_close : GoodIn wsL_close (wsV RL 41 RX0 yX0_close wsX0_close) := goodIn_app (goodIn_of _ (by decide +kernel)) ggL_close_X0_close
theorem dL_close_0 : decode cL_close 0 = .ok (.aload_n 1, 1) := by decide +kernel
theorem dL_close_1 : decode cL_close 1 = .ok (.iconst 0, 1) := by decide +kernel
theorem dL_close_2 : decode cL_close 2 = .ok (.aload_n 0, 1) := by decide +kernel
theorem dL_close_3 : decode cL_close 3 = .ok (.invokevirtual 41, 3) := by decide +kernel
theorem dL_close_6 : decode cL_close 6 = .ok (.i2l, 1) := by decide +kernel
theorem dL_close_7 : decode cL_close 7 = .ok (.lastore, 1) := by decide +kernel
theorem dL_close_8 : decode cL_close 8 = .ok (.goto 6, 3) := by decide +kernel
theorem dL_close_11 : decode cL_close 11 = .ok (.astore_n 2, 1) := by decide +kernel
theorem dL_close_12 : decode cL_close 12 = .ok (.iconst 1, 1) := by decide +kernel
theorem dL_close_13 : decode cL_close 13 = .ok (.ireturn, 1) := by decide +kernel
theorem dL_close_14 : decode cL_close 14 = .ok (.iconst 0, 1) := by decide +kernel
theorem dL_close_15 : decode cL_close 15 = .ok (.ireturn, 1) := by decide +kernel
set_option maxRecDepth 20000 in
theorem ggL_pay_X0_pay : GoodIn wsL_pay wsX0_pay := goodIn_ca (goodIn_ca (goodIn_r _ [7, 8, 9, 10, 11, 12, 13, 14, 6, 15, 16, 17, 18, 19, 20, 21, 22, 23, 24, 25, 26, 27, 28, 29, 30, 31, 32, 33, 34, 35, 36, 37] (by decide +kernel) (by decide +kernel)) (goodIn_sub (fun _ h => List.mem_cons_of_mem _ (List.mem_append_left _ (List.mem_append_right _ h))) (by decide +kernel))) (goodIn_sub (fun _ h => List.mem_cons_of_mem _ (List.mem_append_right _ h)) (by decide +kernel))
set_option maxRecDepth 20000 in
theorem gL_pay_X0_pay : GoodIn wsL_pay (wsV RL 45 RX0 yX0_pay wsX0_pay) := goodIn_app (goodIn_of _ (by decide +kernel)) ggL_pay_X0_pay
theorem dL_pay_0 : decode cL_pay 0 = .ok (.aload_n 2, 1) := by decide +kernel
theorem dL_pay_1 : decode cL_pay 1 = .ok (.iconst 0, 1) := by decide +kernel
theorem dL_pay_2 : decode cL_pay 2 = .ok (.aload_n 0, 1) := by decide +kernel
theorem dL_pay_3 : decode cL_pay 3 = .ok (.iload_n 1, 1) := by decide +kernel
theorem dL_pay_4 : decode cL_pay 4 = .ok (.invokevirtual 45, 3) := by decide +kernel
theorem dL_pay_7 : decode cL_pay 7 = .ok (.i2l, 1) := by decide +kernel
theorem dL_pay_8 : decode cL_pay 8 = .ok (.lastore, 1) := by decide +kernel
theorem dL_pay_9 : decode cL_pay 9 = .ok (.goto 9, 3) := by decide +kernel
theorem dL_pay_12 : decode cL_pay 12 = .ok (.astore_n 3, 1) := by decide +kernel
theorem dL_pay_13 : decode cL_pay 13 = .ok (.iconst 1, 1) := by decide +kernel
theorem dL_pay_14 : decode cL_pay 14 = .ok (.ireturn, 1) := by decide +kernel
theorem dL_pay_15 : decode cL_pay 15 = .ok (.astore_n 3, 1) := by decide +kernel
theorem dL_pay_16 : decode cL_pay 16 = .ok (.iconst 2, 1) := by decide +kernel
theorem dL_pay_17 : decode cL_pay 17 = .ok (.ireturn, 1) := by decide +kernel
theorem dL_pay_18 : decode cL_pay 18 = .ok (.iconst 0, 1) := by decide +kernel
theorem dL_pay_19 : decode cL_pay 19 = .ok (.ireturn, 1) := by decide +kernel
set_option maxRecDepth 20000 in
theorem ggL_waive_X0_waive : GoodIn wsL_waive wsX0_waive := goodIn_ca (goodIn_ca (goodIn_r _ [7, 8, 9, 10, 11, 12, 13, 6, 14, 15, 16, 17, 18, 19, 20, 21, 22, 23, 24, 25, 26, 27, 28, 29, 30, 31, 32, 33, 34, 35, 36] (by decide +kernel) (by decide +kernel)) (goodIn_sub (fun _ h => List.mem_cons_of_mem _ (List.mem_append_left _ (List.mem_append_right _ h))) (by decide +kernel))) (goodIn_sub (fun _ h => List.mem_cons_of_mem _ (List.mem_append_right _ h)) (by decide +kernel))
set_option maxRecDepth 20000 in
theorem gL_waive_X0_waive : GoodIn wsL_waive (wsV RL 48 RX0 yX0_waive wsX0_waive) := goodIn_app (goodIn_of _ (by decide +kernel)) ggL_waive_X0_waive
theorem dL_waive_0 : decode cL_waive 0 = .ok (.aload_n 2, 1) := by decide +kernel
theorem dL_waive_1 : decode cL_waive 1 = .ok (.iconst 0, 1) := by decide +kernel
theorem dL_waive_2 : decode cL_waive 2 = .ok (.aload_n 0, 1) := by decide +kernel
theorem dL_waive_3 : decode cL_waive 3 = .ok (.iload_n 1, 1) := by decide +kernel
theorem dL_waive_4 : decode cL_waive 4 = .ok (.invokevirtual 48, 3) := by decide +kernel
theorem dL_waive_7 : decode cL_waive 7 = .ok (.i2l, 1) := by decide +kernel
theorem dL_waive_8 : decode cL_waive 8 = .ok (.lastore, 1) := by decide +kernel
theorem dL_waive_9 : decode cL_waive 9 = .ok (.goto 9, 3) := by decide +kernel
theorem dL_waive_12 : decode cL_waive 12 = .ok (.astore_n 3, 1) := by decide +kernel
theorem dL_waive_13 : decode cL_waive 13 = .ok (.iconst 1, 1) := by decide +kernel
theorem dL_waive_14 : decode cL_waive 14 = .ok (.ireturn, 1) := by decide +kernel
theorem dL_waive_15 : decode cL_waive 15 = .ok (.astore_n 3, 1) := by decide +kernel
theorem dL_waive_16 : decode cL_waive 16 = .ok (.iconst 2, 1) := by decide +kernel
theorem dL_waive_17 : decode cL_waive 17 = .ok (.ireturn, 1) := by decide +kernel
theorem dL_waive_18 : decode cL_waive 18 = .ok (.iconst 0, 1) := by decide +kernel
theorem dL_waive_19 : decode cL_waive 19 = .ok (.ireturn, 1) := by decide +kernel
set_option maxRecDepth 20000 in
theorem ggL_state_X0_state : GoodIn wsL_state wsX0_state := goodIn_ca (goodIn_r _ [6, 7, 8, 9, 10, 5, 11, 12, 13, 14, 15, 16, 17, 18, 19, 20, 21, 22, 23, 24, 25, 26, 27, 28, 29] (by decide +kernel) (by decide +kernel)) (goodIn_sub (fun _ h => List.mem_cons_of_mem _ (List.mem_append_right _ h)) (by decide +kernel))
set_option maxRecDepth 20000 in
theorem gL_state_X0_state : GoodIn wsL_state (wsV RL 51 RX0 yX0_state wsX0_state) := goodIn_app (goodIn_of _ (by decide +kernel)) ggL_state_X0_state
theorem dL_state_0 : decode cL_state 0 = .ok (.aload_n 2, 1) := by decide +kernel
theorem dL_state_1 : decode cL_state 1 = .ok (.iconst 0, 1) := by decide +kernel
theorem dL_state_2 : decode cL_state 2 = .ok (.aload_n 0, 1) := by decide +kernel
theorem dL_state_3 : decode cL_state 3 = .ok (.iload_n 1, 1) := by decide +kernel
theorem dL_state_4 : decode cL_state 4 = .ok (.invokevirtual 51, 3) := by decide +kernel
theorem dL_state_7 : decode cL_state 7 = .ok (.i2l, 1) := by decide +kernel
theorem dL_state_8 : decode cL_state 8 = .ok (.lastore, 1) := by decide +kernel
theorem dL_state_9 : decode cL_state 9 = .ok (.goto 6, 3) := by decide +kernel
theorem dL_state_12 : decode cL_state 12 = .ok (.astore_n 3, 1) := by decide +kernel
theorem dL_state_13 : decode cL_state 13 = .ok (.iconst 1, 1) := by decide +kernel
theorem dL_state_14 : decode cL_state 14 = .ok (.ireturn, 1) := by decide +kernel
theorem dL_state_15 : decode cL_state 15 = .ok (.iconst 0, 1) := by decide +kernel
theorem dL_state_16 : decode cL_state 16 = .ok (.ireturn, 1) := by decide +kernel
set_option maxRecDepth 20000 in
theorem ggL_amount_X0_amount : GoodIn wsL_amount wsX0_amount := goodIn_ca (goodIn_r _ [6, 7, 8, 9, 10, 5, 11, 12, 13, 14, 15, 16, 17, 18, 19, 20, 21, 22, 23, 24, 25, 26, 27, 28, 29] (by decide +kernel) (by decide +kernel)) (goodIn_sub (fun _ h => List.mem_cons_of_mem _ (List.mem_append_right _ h)) (by decide +kernel))
set_option maxRecDepth 20000 in
theorem gL_amount_X0_amount : GoodIn wsL_amount (wsV RL 54 RX0 yX0_amount wsX0_amount) := goodIn_app (goodIn_of _ (by decide +kernel)) ggL_amount_X0_amount
theorem dL_amount_0 : decode cL_amount 0 = .ok (.aload_n 2, 1) := by decide +kernel
theorem dL_amount_1 : decode cL_amount 1 = .ok (.iconst 0, 1) := by decide +kernel
theorem dL_amount_2 : decode cL_amount 2 = .ok (.aload_n 0, 1) := by decide +kernel
theorem dL_amount_3 : decode cL_amount 3 = .ok (.iload_n 1, 1) := by decide +kernel
theorem dL_amount_4 : decode cL_amount 4 = .ok (.invokevirtual 54, 3) := by decide +kernel
theorem dL_amount_7 : decode cL_amount 7 = .ok (.i2l, 1) := by decide +kernel
theorem dL_amount_8 : decode cL_amount 8 = .ok (.lastore, 1) := by decide +kernel
theorem dL_amount_9 : decode cL_amount 9 = .ok (.goto 6, 3) := by decide +kernel
theorem dL_amount_12 : decode cL_amount 12 = .ok (.astore_n 3, 1) := by decide +kernel
theorem dL_amount_13 : decode cL_amount 13 = .ok (.iconst 1, 1) := by decide +kernel
theorem dL_amount_14 : decode cL_amount 14 = .ok (.ireturn, 1) := by decide +kernel
theorem dL_amount_15 : decode cL_amount 15 = .ok (.iconst 0, 1) := by decide +kernel
theorem dL_amount_16 : decode cL_amount 16 = .ok (.ireturn, 1) := by decide +kernel
set_option maxRecDepth 20000 in
theorem ggL_billedBehind_X0_billedBehind : GoodIn wsL_billedBehind wsX0_billedBehind := goodIn_ca (goodIn_r _ [6, 7, 8, 9, 10, 5, 11, 12, 13, 14, 15, 16, 17, 18, 19, 20, 21, 22, 23, 24, 25, 26, 27, 28, 29] (by decide +kernel) (by decide +kernel)) (goodIn_sub (fun _ h => List.mem_cons_of_mem _ (List.mem_append_right _ h)) (by decide +kernel))
set_option maxRecDepth 20000 in
theorem gL_billedBehind_X0_billedBehind : GoodIn wsL_billedBehind (wsV RL 57 RX0 yX0_billedBehind wsX0_billedBehind) := goodIn_app (goodIn_of _ (by decide +kernel)) ggL_billedBehind_X0_billedBehind
theorem dL_billedBehind_0 : decode cL_billedBehind 0 = .ok (.aload_n 2, 1) := by decide +kernel
theorem dL_billedBehind_1 : decode cL_billedBehind 1 = .ok (.iconst 0, 1) := by decide +kernel
theorem dL_billedBehind_2 : decode cL_billedBehind 2 = .ok (.aload_n 0, 1) := by decide +kernel
theorem dL_billedBehind_3 : decode cL_billedBehind 3 = .ok (.iload_n 1, 1) := by decide +kernel
theorem dL_billedBehind_4 : decode cL_billedBehind 4 = .ok (.invokevirtual 57, 3) := by decide +kernel
theorem dL_billedBehind_7 : decode cL_billedBehind 7 = .ok (.i2l, 1) := by decide +kernel
theorem dL_billedBehind_8 : decode cL_billedBehind 8 = .ok (.lastore, 1) := by decide +kernel
theorem dL_billedBehind_9 : decode cL_billedBehind 9 = .ok (.goto 6, 3) := by decide +kernel
theorem dL_billedBehind_12 : decode cL_billedBehind 12 = .ok (.astore_n 3, 1) := by decide +kernel
theorem dL_billedBehind_13 : decode cL_billedBehind 13 = .ok (.iconst 1, 1) := by decide +kernel
theorem dL_billedBehind_14 : decode cL_billedBehind 14 = .ok (.ireturn, 1) := by decide +kernel
theorem dL_billedBehind_15 : decode cL_billedBehind 15 = .ok (.iconst 0, 1) := by decide +kernel
theorem dL_billedBehind_16 : decode cL_billedBehind 16 = .ok (.ireturn, 1) := by decide +kernel
set_option maxRecDepth 20000 in
theorem ggL_heldBehind_X0_heldBehind : GoodIn wsL_heldBehind wsX0_heldBehind := goodIn_ca (goodIn_r _ [6, 7, 8, 9, 10, 5, 11, 12, 13, 14, 15, 16, 17, 18, 19, 20, 21, 22, 23, 24, 25, 26, 27, 28, 29] (by decide +kernel) (by decide +kernel)) (goodIn_sub (fun _ h => List.mem_cons_of_mem _ (List.mem_append_right _ h)) (by decide +kernel))
set_option maxRecDepth 20000 in
theorem gL_heldBehind_X0_heldBehind : GoodIn wsL_heldBehind (wsV RL 60 RX0 yX0_heldBehind wsX0_heldBehind) := goodIn_app (goodIn_of _ (by decide +kernel)) ggL_heldBehind_X0_heldBehind
theorem dL_heldBehind_0 : decode cL_heldBehind 0 = .ok (.aload_n 2, 1) := by decide +kernel
theorem dL_heldBehind_1 : decode cL_heldBehind 1 = .ok (.iconst 0, 1) := by decide +kernel
theorem dL_heldBehind_2 : decode cL_heldBehind 2 = .ok (.aload_n 0, 1) := by decide +kernel
theorem dL_heldBehind_3 : decode cL_heldBehind 3 = .ok (.iload_n 1, 1) := by decide +kernel
theorem dL_heldBehind_4 : decode cL_heldBehind 4 = .ok (.invokevirtual 60, 3) := by decide +kernel
theorem dL_heldBehind_7 : decode cL_heldBehind 7 = .ok (.i2l, 1) := by decide +kernel
theorem dL_heldBehind_8 : decode cL_heldBehind 8 = .ok (.lastore, 1) := by decide +kernel
theorem dL_heldBehind_9 : decode cL_heldBehind 9 = .ok (.goto 6, 3) := by decide +kernel
theorem dL_heldBehind_12 : decode cL_heldBehind 12 = .ok (.astore_n 3, 1) := by decide +kernel
theorem dL_heldBehind_13 : decode cL_heldBehind 13 = .ok (.iconst 1, 1) := by decide +kernel
theorem dL_heldBehind_14 : decode cL_heldBehind 14 = .ok (.ireturn, 1) := by decide +kernel
theorem dL_heldBehind_15 : decode cL_heldBehind 15 = .ok (.iconst 0, 1) := by decide +kernel
theorem dL_heldBehind_16 : decode cL_heldBehind 16 = .ok (.ireturn, 1) := by decide +kernel
set_option maxRecDepth 20000 in
theorem ggL_value_X0_value : GoodIn wsL_value wsX0_value := goodIn_ca (goodIn_r _ [6, 7, 8, 9, 10, 5, 11, 12, 13, 14, 15, 16, 17, 18, 19, 20, 21, 22, 23, 24, 25, 26, 27, 28, 29] (by decide +kernel) (by decide +kernel)) (goodIn_sub (fun _ h => List.mem_cons_of_mem _ (List.mem_append_right _ h)) (by decide +kernel))
set_option maxRecDepth 20000 in
theorem gL_value_X0_value : GoodIn wsL_value (wsV RL 63 RX0 yX0_value wsX0_value) := goodIn_app (goodIn_of _ (by decide +kernel)) ggL_value_X0_value
theorem dL_value_0 : decode cL_value 0 = .ok (.aload_n 2, 1) := by decide +kernel
theorem dL_value_1 : decode cL_value 1 = .ok (.iconst 0, 1) := by decide +kernel
theorem dL_value_2 : decode cL_value 2 = .ok (.aload_n 0, 1) := by decide +kernel
theorem dL_value_3 : decode cL_value 3 = .ok (.iload_n 1, 1) := by decide +kernel
theorem dL_value_4 : decode cL_value 4 = .ok (.invokevirtual 63, 3) := by decide +kernel
theorem dL_value_7 : decode cL_value 7 = .ok (.i2l, 1) := by decide +kernel
theorem dL_value_8 : decode cL_value 8 = .ok (.lastore, 1) := by decide +kernel
theorem dL_value_9 : decode cL_value 9 = .ok (.goto 6, 3) := by decide +kernel
theorem dL_value_12 : decode cL_value 12 = .ok (.astore_n 3, 1) := by decide +kernel
theorem dL_value_13 : decode cL_value 13 = .ok (.iconst 1, 1) := by decide +kernel
theorem dL_value_14 : decode cL_value 14 = .ok (.ireturn, 1) := by decide +kernel
theorem dL_value_15 : decode cL_value 15 = .ok (.iconst 0, 1) := by decide +kernel
theorem dL_value_16 : decode cL_value 16 = .ok (.ireturn, 1) := by decide +kernel
set_option maxRecDepth 20000 in
theorem ggL_work_X0_work : GoodIn wsL_work wsX0_work := goodIn_ca (goodIn_r _ [6, 7, 8, 9, 10, 5, 11, 12, 13, 14, 15, 16, 17, 18, 19, 20, 21, 22, 23, 24, 25, 26, 27, 28, 29] (by decide +kernel) (by decide +kernel)) (goodIn_sub (fun _ h => List.mem_cons_of_mem _ (List.mem_append_right _ h)) (by decide +kernel))
set_option maxRecDepth 20000 in
theorem gL_work_X0_work : GoodIn wsL_work (wsV RL 66 RX0 yX0_work wsX0_work) := goodIn_app (goodIn_of _ (by decide +kernel)) ggL_work_X0_work
theorem dL_work_0 : decode cL_work 0 = .ok (.aload_n 2, 1) := by decide +kernel
theorem dL_work_1 : decode cL_work 1 = .ok (.iconst 0, 1) := by decide +kernel
theorem dL_work_2 : decode cL_work 2 = .ok (.aload_n 0, 1) := by decide +kernel
theorem dL_work_3 : decode cL_work 3 = .ok (.iload_n 1, 1) := by decide +kernel
theorem dL_work_4 : decode cL_work 4 = .ok (.invokevirtual 66, 3) := by decide +kernel
theorem dL_work_7 : decode cL_work 7 = .ok (.i2l, 1) := by decide +kernel
theorem dL_work_8 : decode cL_work 8 = .ok (.lastore, 1) := by decide +kernel
theorem dL_work_9 : decode cL_work 9 = .ok (.goto 6, 3) := by decide +kernel
theorem dL_work_12 : decode cL_work 12 = .ok (.astore_n 3, 1) := by decide +kernel
theorem dL_work_13 : decode cL_work 13 = .ok (.iconst 1, 1) := by decide +kernel
theorem dL_work_14 : decode cL_work 14 = .ok (.ireturn, 1) := by decide +kernel
theorem dL_work_15 : decode cL_work 15 = .ok (.iconst 0, 1) := by decide +kernel
theorem dL_work_16 : decode cL_work 16 = .ok (.ireturn, 1) := by decide +kernel
set_option maxRecDepth 20000 in
theorem ggL_goods_X0_goods : GoodIn wsL_goods wsX0_goods := goodIn_ca (goodIn_r _ [6, 7, 8, 9, 10, 11, 5, 12, 13, 14, 15, 16, 17, 18, 19, 20, 21, 22, 23, 24, 25, 26, 27, 28, 29, 30] (by decide +kernel) (by decide +kernel)) (goodIn_sub (fun _ h => List.mem_cons_of_mem _ (List.mem_append_right _ h)) (by decide +kernel))
set_option maxRecDepth 20000 in
theorem gL_goods_X0_goods : GoodIn wsL_goods (wsV RL 69 RX0 yX0_goods wsX0_goods) := goodIn_app (goodIn_of _ (by decide +kernel)) ggL_goods_X0_goods
theorem dL_goods_0 : decode cL_goods 0 = .ok (.aload_n 2, 1) := by decide +kernel
theorem dL_goods_1 : decode cL_goods 1 = .ok (.iconst 0, 1) := by decide +kernel
theorem dL_goods_2 : decode cL_goods 2 = .ok (.aload_n 0, 1) := by decide +kernel
theorem dL_goods_3 : decode cL_goods 3 = .ok (.iload_n 1, 1) := by decide +kernel
theorem dL_goods_4 : decode cL_goods 4 = .ok (.invokevirtual 69, 3) := by decide +kernel
theorem dL_goods_7 : decode cL_goods 7 = .ok (.i2l, 1) := by decide +kernel
theorem dL_goods_8 : decode cL_goods 8 = .ok (.lastore, 1) := by decide +kernel
theorem dL_goods_9 : decode cL_goods 9 = .ok (.goto 6, 3) := by decide +kernel
theorem dL_goods_12 : decode cL_goods 12 = .ok (.astore_n 3, 1) := by decide +kernel
theorem dL_goods_13 : decode cL_goods 13 = .ok (.iconst 1, 1) := by decide +kernel
theorem dL_goods_14 : decode cL_goods 14 = .ok (.ireturn, 1) := by decide +kernel
theorem dL_goods_15 : decode cL_goods 15 = .ok (.iconst 0, 1) := by decide +kernel
theorem dL_goods_16 : decode cL_goods 16 = .ok (.ireturn, 1) := by decide +kernel
set_option maxRecDepth 20000 in
theorem ggL_billed_X0_billed : GoodIn wsL_billed wsX0_billed := goodIn_ca (goodIn_r _ [6, 7, 8, 9, 10, 5, 11, 12, 13, 14, 15, 16, 17, 18, 19, 20, 21, 22, 23, 24, 25, 26, 27, 28, 29] (by decide +kernel) (by decide +kernel)) (goodIn_sub (fun _ h => List.mem_cons_of_mem _ (List.mem_append_right _ h)) (by decide +kernel))
set_option maxRecDepth 20000 in
theorem gL_billed_X0_billed : GoodIn wsL_billed (wsV RL 72 RX0 yX0_billed wsX0_billed) := goodIn_app (goodIn_of _ (by decide +kernel)) ggL_billed_X0_billed
theorem dL_billed_0 : decode cL_billed 0 = .ok (.aload_n 2, 1) := by decide +kernel
theorem dL_billed_1 : decode cL_billed 1 = .ok (.iconst 0, 1) := by decide +kernel
theorem dL_billed_2 : decode cL_billed 2 = .ok (.aload_n 0, 1) := by decide +kernel
theorem dL_billed_3 : decode cL_billed 3 = .ok (.iload_n 1, 1) := by decide +kernel
theorem dL_billed_4 : decode cL_billed 4 = .ok (.invokevirtual 72, 3) := by decide +kernel
theorem dL_billed_7 : decode cL_billed 7 = .ok (.i2l, 1) := by decide +kernel
theorem dL_billed_8 : decode cL_billed 8 = .ok (.lastore, 1) := by decide +kernel
theorem dL_billed_9 : decode cL_billed 9 = .ok (.goto 6, 3) := by decide +kernel
theorem dL_billed_12 : decode cL_billed 12 = .ok (.astore_n 3, 1) := by decide +kernel
theorem dL_billed_13 : decode cL_billed 13 = .ok (.iconst 1, 1) := by decide +kernel
theorem dL_billed_14 : decode cL_billed 14 = .ok (.ireturn, 1) := by decide +kernel
theorem dL_billed_15 : decode cL_billed 15 = .ok (.iconst 0, 1) := by decide +kernel
theorem dL_billed_16 : decode cL_billed 16 = .ok (.ireturn, 1) := by decide +kernel
set_option maxRecDepth 20000 in
theorem ggL_held_X0_held : GoodIn wsL_held wsX0_held := goodIn_ca (goodIn_r _ [6, 7, 8, 9, 10, 5, 11, 12, 13, 14, 15, 16, 17, 18, 19, 20, 21, 22, 23, 24, 25, 26, 27, 28, 29] (by decide +kernel) (by decide +kernel)) (goodIn_sub (fun _ h => List.mem_cons_of_mem _ (List.mem_append_right _ h)) (by decide +kernel))
set_option maxRecDepth 20000 in
theorem gL_held_X0_held : GoodIn wsL_held (wsV RL 75 RX0 yX0_held wsX0_held) := goodIn_app (goodIn_of _ (by decide +kernel)) ggL_held_X0_held
theorem dL_held_0 : decode cL_held 0 = .ok (.aload_n 2, 1) := by decide +kernel
theorem dL_held_1 : decode cL_held 1 = .ok (.iconst 0, 1) := by decide +kernel
theorem dL_held_2 : decode cL_held 2 = .ok (.aload_n 0, 1) := by decide +kernel
theorem dL_held_3 : decode cL_held 3 = .ok (.iload_n 1, 1) := by decide +kernel
theorem dL_held_4 : decode cL_held 4 = .ok (.invokevirtual 75, 3) := by decide +kernel
theorem dL_held_7 : decode cL_held 7 = .ok (.i2l, 1) := by decide +kernel
theorem dL_held_8 : decode cL_held 8 = .ok (.lastore, 1) := by decide +kernel
theorem dL_held_9 : decode cL_held 9 = .ok (.goto 6, 3) := by decide +kernel
theorem dL_held_12 : decode cL_held 12 = .ok (.astore_n 3, 1) := by decide +kernel
theorem dL_held_13 : decode cL_held 13 = .ok (.iconst 1, 1) := by decide +kernel
theorem dL_held_14 : decode cL_held 14 = .ok (.ireturn, 1) := by decide +kernel
theorem dL_held_15 : decode cL_held 15 = .ok (.iconst 0, 1) := by decide +kernel
theorem dL_held_16 : decode cL_held 16 = .ok (.ireturn, 1) := by decide +kernel
set_option maxRecDepth 20000 in
theorem ggL_lineByShare_X0_lineByShare : GoodIn wsL_lineByShare wsX0_lineByShare := goodIn_ca (goodIn_r _ [6, 7, 8, 9, 10, 5, 11, 12, 13, 14, 15, 16, 17, 18, 19, 20, 21, 22, 23, 24, 25, 26, 27, 28, 29, 30, 31, 32, 33, 34, 35, 36, 37, 38, 39, 40, 41, 42, 43, 44, 45, 46] (by decide +kernel) (by decide +kernel)) (goodIn_sub (fun _ h => List.mem_cons_of_mem _ (List.mem_append_right _ h)) (by decide +kernel))
set_option maxRecDepth 20000 in
theorem gL_lineByShare_X0_lineByShare : GoodIn wsL_lineByShare (wsV RL 78 RX0 yX0_lineByShare wsX0_lineByShare) := goodIn_app (goodIn_of _ (by decide +kernel)) ggL_lineByShare_X0_lineByShare
theorem dL_lineByShare_0 : decode cL_lineByShare 0 = .ok (.aload_n 2, 1) := by decide +kernel
theorem dL_lineByShare_1 : decode cL_lineByShare 1 = .ok (.iconst 0, 1) := by decide +kernel
theorem dL_lineByShare_2 : decode cL_lineByShare 2 = .ok (.aload_n 0, 1) := by decide +kernel
theorem dL_lineByShare_3 : decode cL_lineByShare 3 = .ok (.iload_n 1, 1) := by decide +kernel
theorem dL_lineByShare_4 : decode cL_lineByShare 4 = .ok (.invokevirtual 78, 3) := by decide +kernel
theorem dL_lineByShare_7 : decode cL_lineByShare 7 = .ok (.i2l, 1) := by decide +kernel
theorem dL_lineByShare_8 : decode cL_lineByShare 8 = .ok (.lastore, 1) := by decide +kernel
theorem dL_lineByShare_9 : decode cL_lineByShare 9 = .ok (.goto 6, 3) := by decide +kernel
theorem dL_lineByShare_12 : decode cL_lineByShare 12 = .ok (.astore_n 3, 1) := by decide +kernel
theorem dL_lineByShare_13 : decode cL_lineByShare 13 = .ok (.iconst 1, 1) := by decide +kernel
theorem dL_lineByShare_14 : decode cL_lineByShare 14 = .ok (.ireturn, 1) := by decide +kernel
theorem dL_lineByShare_15 : decode cL_lineByShare 15 = .ok (.iconst 0, 1) := by decide +kernel
theorem dL_lineByShare_16 : decode cL_lineByShare 16 = .ok (.ireturn, 1) := by decide +kernel
set_option maxRecDepth 20000 in
theorem ggL_law_X0_init : GoodIn wsL_law wsX0_init := goodIn_r _ [9, 10, 11, 12, 13, 14, 15, 16, 17, 18, 19, 20, 21, 22, 23, 24, 25, 527, 528, 529, 530, 531, 532, 533, 534, 535, 536, 537, 538, 539, 540, 541] (by decide +kernel) (by decide +kernel)
set_option maxRecDepth 20000 in
theorem gL_law_X0_init : GoodIn wsL_law (wsX0_init) := ggL_law_X0_init
set_option maxRecDepth 20000 in
theorem ggL_law_X1_init : GoodIn wsL_law wsX1_init := goodIn_r _ [28, 29, 11, 12, 13, 30, 31, 32, 33, 34, 35, 36, 37, 38, 39, 542, 543, 544, 545, 546, 547, 548, 549, 550, 551, 552, 553, 554, 555] (by decide +kernel) (by decide +kernel)
set_option maxRecDepth 20000 in
theorem gL_law_X1_init : GoodIn wsL_law (wsX1_init) := ggL_law_X1_init
set_option maxRecDepth 20000 in
theorem ggL_law_L_addLine : GoodIn wsL_law wsL_addLine := goodIn_ca (goodIn_ca (goodIn_r _ [43, 44, 45, 46, 47, 48, 2, 49, 50, 51, 14, 52, 53, 54, 55, 56, 57, 58, 59, 60, 61, 62, 527, 528, 529, 530, 531, 532, 533, 534, 535, 536, 537, 538, 539, 540, 541] (by decide +kernel) (by decide +kernel)) (goodIn_sub (fun _ h => List.mem_append_left _ (List.mem_append_left _ (List.mem_append_right _ h))) (by decide +kernel))) (goodIn_sub (fun _ h => List.mem_append_left _ (List.mem_append_right _ h)) (by decide +kernel))
set_option maxRecDepth 20000 in
theorem gL_law_L_addLine : GoodIn wsL_law (va_wsS RL 85 yL_addLine wsL_addLine) := goodIn_app (goodIn_of _ (by decide +kernel)) ggL_law_L_addLine
set_option maxRecDepth 20000 in
theorem ggL_law_X1_addLine : GoodIn wsL_law wsX1_addLine := goodIn_r _ [66, 67, 68, 69, 70, 5, 71, 72, 73, 74, 75, 76, 77, 78, 79, 80, 30, 31, 32, 33, 34, 542, 543, 544, 545, 546, 547, 548, 549, 550, 551, 552, 553, 554, 555] (by decide +kernel) (by decide +kernel)
set_option maxRecDepth 20000 in
theorem gL_law_X1_addLine : GoodIn wsL_law (wsV RL 90 RX1 yX1_addLine wsX1_addLine) := goodIn_app (goodIn_of _ (by decide +kernel)) ggL_law_X1_addLine
set_option maxRecDepth 20000 in
theorem ggL_law_X1_thrown : GoodIn wsL_law wsX1_thrown := goodIn_r _ [84, 76, 542, 543, 544, 545, 546, 547, 548, 549, 550, 551, 552, 553, 554, 555] (by decide +kernel) (by decide +kernel)
set_option maxRecDepth 20000 in
theorem gL_law_X1_thrown : GoodIn wsL_law (wsV RL 91 RX1 yX1_thrown wsX1_thrown) := goodIn_app (goodIn_of _ (by decide +kernel)) ggL_law_X1_thrown
set_option maxRecDepth 20000 in
theorem ggL_law_L_changeValue : GoodIn wsL_law wsL_changeValue := goodIn_ca (goodIn_ca (goodIn_ca (goodIn_r _ [87, 88, 44, 45, 89, 90, 91, 2, 92, 61, 62, 50, 15, 14, 93, 94, 95, 96, 97, 98, 51, 52, 53, 54, 55, 56, 527, 528, 529, 530, 531, 532, 533, 534, 535, 536, 537, 538, 539, 540, 541] (by decide +kernel) (by decide +kernel)) (goodIn_sub (fun _ h => List.mem_append_left _ (List.mem_append_right _ h)) (by decide +kernel))) (goodIn_sub (fun _ h => List.mem_append_right _ h) (by decide +kernel))) (goodIn_sub (fun _ h => List.mem_append_left _ (List.mem_append_left _ (List.mem_append_right _ h))) (by decide +kernel))
set_option maxRecDepth 20000 in
theorem gL_law_L_changeValue : GoodIn wsL_law (va_wsS RL 94 yL_changeValue wsL_changeValue) := goodIn_app (goodIn_of _ (by decide +kernel)) ggL_law_L_changeValue
set_option maxRecDepth 20000 in
theorem ggL_law_X1_changeValue : GoodIn wsL_law wsX1_changeValue := goodIn_r _ [102, 67, 31, 30, 103, 104, 105, 5, 106, 68, 69, 70, 71, 72, 73, 74, 75, 76, 542, 543, 544, 545, 546, 547, 548, 549, 550, 551, 552, 553, 554, 555] (by decide +kernel) (by decide +kernel)
set_option maxRecDepth 20000 in
theorem gL_law_X1_changeValue : GoodIn wsL_law (wsV RL 97 RX1 yX1_changeValue wsX1_changeValue) := goodIn_app (goodIn_of _ (by decide +kernel)) ggL_law_X1_changeValue
set_option maxRecDepth 20000 in
theorem ggL_law_L_split : GoodIn wsL_law wsL_split := goodIn_ca (goodIn_ca (goodIn_ca (goodIn_r _ [109, 88, 44, 45, 110, 111, 112, 2, 113, 14, 51, 15, 16, 17, 18, 93, 94, 95, 96, 97, 98, 52, 53, 54, 55, 56, 57, 58, 59, 60, 61, 62, 114, 115, 116, 117, 118, 119, 120, 121, 122, 123, 527, 528, 529, 530, 531, 532, 533, 534, 535, 536, 537, 538, 539, 540, 541] (by decide +kernel) (by decide +kernel)) (goodIn_sub (fun _ h => List.mem_append_right _ h) (by decide +kernel))) (goodIn_sub (fun _ h => List.mem_append_left _ (List.mem_append_left _ (List.mem_append_right _ h))) (by decide +kernel))) (goodIn_sub (fun _ h => List.mem_append_left _ (List.mem_append_right _ h)) (by decide +kernel))
set_option maxRecDepth 20000 in
theorem gL_law_L_split : GoodIn wsL_law (va_wsS RL 98 yL_split wsL_split) := goodIn_app (goodIn_of _ (by decide +kernel)) ggL_law_L_split
set_option maxRecDepth 20000 in
theorem ggL_law_X1_split : GoodIn wsL_law wsX1_split := goodIn_r _ [127, 30, 68, 31, 32, 33, 34, 103, 104, 105, 5, 106, 69, 70, 71, 72, 73, 74, 75, 76, 128, 129, 130, 77, 78, 79, 80, 542, 543, 544, 545, 546, 547, 548, 549, 550, 551, 552, 553, 554, 555] (by decide +kernel) (by decide +kernel)
set_option maxRecDepth 20000 in
theorem gL_law_X1_split : GoodIn wsL_law (wsV RL 100 RX1 yX1_split wsX1_split) := goodIn_app (goodIn_of _ (by decide +kernel)) ggL_law_X1_split
set_option maxRecDepth 20000 in
theorem ggL_law_L_setWork : GoodIn wsL_law wsL_setWork := goodIn_ca (goodIn_ca (goodIn_ca (goodIn_r _ [133, 88, 44, 45, 134, 135, 136, 2, 137, 61, 62, 14, 16, 15, 93, 94, 95, 96, 97, 98, 51, 52, 53, 54, 55, 56, 138, 139, 140, 141, 142, 120, 121, 122, 123, 143, 144, 145, 146, 527, 528, 529, 530, 531, 532, 533, 534, 535, 536, 537, 538, 539, 540, 541] (by decide +kernel) (by decide +kernel)) (goodIn_sub (fun _ h => List.mem_append_left _ (List.mem_append_right _ h)) (by decide +kernel))) (goodIn_sub (fun _ h => List.mem_append_right _ h) (by decide +kernel))) (goodIn_sub (fun _ h => List.mem_append_left _ (List.mem_append_left _ (List.mem_append_right _ h))) (by decide +kernel))
set_option maxRecDepth 20000 in
theorem gL_law_L_setWork : GoodIn wsL_law (va_wsS RL 101 yL_setWork wsL_setWork) := goodIn_app (goodIn_of _ (by decide +kernel)) ggL_law_L_setWork
set_option maxRecDepth 20000 in
theorem ggL_law_X1_setWork : GoodIn wsL_law wsX1_setWork := goodIn_r _ [150, 30, 32, 31, 103, 104, 105, 5, 106, 68, 69, 70, 71, 151, 152, 153, 154, 155, 72, 73, 74, 75, 76, 542, 543, 544, 545, 546, 547, 548, 549, 550, 551, 552, 553, 554, 555] (by decide +kernel) (by decide +kernel)
set_option maxRecDepth 20000 in
theorem gL_law_X1_setWork : GoodIn wsL_law (wsV RL 103 RX1 yX1_setWork wsX1_setWork) := goodIn_app (goodIn_of _ (by decide +kernel)) ggL_law_X1_setWork
set_option maxRecDepth 20000 in
theorem ggL_law_L_store : GoodIn wsL_law wsL_store := goodIn_ca (goodIn_ca (goodIn_ca (goodIn_r _ [158, 88, 44, 45, 159, 160, 161, 2, 162, 50, 15, 16, 93, 94, 95, 96, 97, 98, 51, 52, 53, 54, 55, 56, 143, 144, 145, 146, 61, 62, 14, 527, 528, 529, 530, 531, 532, 533, 534, 535, 536, 537, 538, 539, 540, 541] (by decide +kernel) (by decide +kernel)) (goodIn_sub (fun _ h => List.mem_append_right _ h) (by decide +kernel))) (goodIn_sub (fun _ h => List.mem_append_left _ (List.mem_append_left _ (List.mem_append_right _ h))) (by decide +kernel))) (goodIn_sub (fun _ h => List.mem_append_left _ (List.mem_append_right _ h)) (by decide +kernel))
set_option maxRecDepth 20000 in
theorem gL_law_L_store : GoodIn wsL_law (va_wsS RL 104 yL_store wsL_store) := goodIn_app (goodIn_of _ (by decide +kernel)) ggL_law_L_store
set_option maxRecDepth 20000 in
theorem ggL_law_X1_store : GoodIn wsL_law wsX1_store := goodIn_r _ [166, 67, 30, 31, 32, 103, 104, 105, 5, 106, 68, 69, 70, 71, 72, 73, 74, 75, 76, 542, 543, 544, 545, 546, 547, 548, 549, 550, 551, 552, 553, 554, 555] (by decide +kernel) (by decide +kernel)
set_option maxRecDepth 20000 in
theorem gL_law_X1_store : GoodIn wsL_law (wsV RL 106 RX1 yX1_store wsX1_store) := goodIn_app (goodIn_of _ (by decide +kernel)) ggL_law_X1_store
set_option maxRecDepth 20000 in
theorem ggL_law_L_place : GoodIn wsL_law wsL_place := goodIn_ca (goodIn_ca (goodIn_ca (goodIn_r _ [169, 88, 44, 45, 170, 171, 172, 2, 173, 61, 62, 50, 15, 16, 93, 94, 95, 96, 97, 98, 51, 52, 53, 54, 55, 56, 527, 528, 529, 530, 531, 532, 533, 534, 535, 536, 537, 538, 539, 540, 541] (by decide +kernel) (by decide +kernel)) (goodIn_sub (fun _ h => List.mem_append_left _ (List.mem_append_right _ h)) (by decide +kernel))) (goodIn_sub (fun _ h => List.mem_append_right _ h) (by decide +kernel))) (goodIn_sub (fun _ h => List.mem_append_left _ (List.mem_append_left _ (List.mem_append_right _ h))) (by decide +kernel))
set_option maxRecDepth 20000 in
theorem gL_law_L_place : GoodIn wsL_law (va_wsS RL 107 yL_place wsL_place) := goodIn_app (goodIn_of _ (by decide +kernel)) ggL_law_L_place
set_option maxRecDepth 20000 in
theorem ggL_law_X1_place : GoodIn wsL_law wsX1_place := goodIn_r _ [177, 67, 31, 32, 103, 104, 105, 5, 106, 68, 69, 70, 71, 72, 73, 74, 75, 76, 542, 543, 544, 545, 546, 547, 548, 549, 550, 551, 552, 553, 554, 555] (by decide +kernel) (by decide +kernel)
set_option maxRecDepth 20000 in
theorem gL_law_X1_place : GoodIn wsL_law (wsV RL 109 RX1 yX1_place wsX1_place) := goodIn_app (goodIn_of _ (by decide +kernel)) ggL_law_X1_place
set_option maxRecDepth 20000 in
theorem ggL_law_L_setStep : GoodIn wsL_law wsL_setStep := goodIn_ca (goodIn_ca (goodIn_r _ [180, 44, 45, 181, 182, 183, 2, 184, 20, 52, 53, 54, 55, 56, 185, 186, 187, 188, 25, 19, 189, 190, 191, 192, 61, 62, 527, 528, 529, 530, 531, 532, 533, 534, 535, 536, 537, 538, 539, 540, 541] (by decide +kernel) (by decide +kernel)) (goodIn_sub (fun _ h => List.mem_append_left _ (List.mem_append_left _ (List.mem_append_right _ h))) (by decide +kernel))) (goodIn_sub (fun _ h => List.mem_append_left _ (List.mem_append_right _ h)) (by decide +kernel))
set_option maxRecDepth 20000 in
theorem gL_law_L_setStep : GoodIn wsL_law (va_wsS RL 110 yL_setStep wsL_setStep) := goodIn_app (goodIn_of _ (by decide +kernel)) ggL_law_L_setStep
set_option maxRecDepth 20000 in
theorem ggL_law_X1_setStep : GoodIn wsL_law wsX1_setStep := goodIn_r _ [196, 35, 69, 70, 5, 71, 197, 198, 199, 200, 72, 73, 74, 75, 76, 542, 543, 544, 545, 546, 547, 548, 549, 550, 551, 552, 553, 554, 555] (by decide +kernel) (by decide +kernel)
set_option maxRecDepth 20000 in
theorem gL_law_X1_setStep : GoodIn wsL_law (wsV RL 112 RX1 yX1_setStep wsX1_setStep) := goodIn_app (goodIn_of _ (by decide +kernel)) ggL_law_X1_setStep
set_option maxRecDepth 20000 in
theorem ggL_law_L_dropStep : GoodIn wsL_law wsL_dropStep := goodIn_ca (goodIn_ca (goodIn_r _ [203, 44, 45, 204, 205, 206, 2, 207, 61, 62, 20, 25, 19, 52, 53, 54, 55, 56, 185, 186, 187, 188, 527, 528, 529, 530, 531, 532, 533, 534, 535, 536, 537, 538, 539, 540, 541] (by decide +kernel) (by decide +kernel)) (goodIn_sub (fun _ h => List.mem_append_left _ (List.mem_append_right _ h)) (by decide +kernel))) (goodIn_sub (fun _ h => List.mem_append_left _ (List.mem_append_left _ (List.mem_append_right _ h))) (by decide +kernel))
set_option maxRecDepth 20000 in
theorem gL_law_L_dropStep : GoodIn wsL_law (va_wsS RL 113 yL_dropStep wsL_dropStep) := goodIn_app (goodIn_of _ (by decide +kernel)) ggL_law_L_dropStep
set_option maxRecDepth 20000 in
theorem ggL_law_X1_dropStep : GoodIn wsL_law wsX1_dropStep := goodIn_r _ [211, 35, 69, 70, 5, 71, 72, 73, 74, 75, 76, 542, 543, 544, 545, 546, 547, 548, 549, 550, 551, 552, 553, 554, 555] (by decide +kernel) (by decide +kernel)
set_option maxRecDepth 20000 in
theorem gL_law_X1_dropStep : GoodIn wsL_law (wsV RL 115 RX1 yX1_dropStep wsX1_dropStep) := goodIn_app (goodIn_of _ (by decide +kernel)) ggL_law_X1_dropStep
set_option maxRecDepth 20000 in
theorem ggL_law_X0_hold : GoodIn wsL_law wsX0_hold := goodIn_r _ [215, 216, 527, 528, 529, 530, 531, 532, 533, 534, 535, 536, 537, 538, 539, 540, 541] (by decide +kernel) (by decide +kernel)
set_option maxRecDepth 20000 in
theorem gL_law_X0_hold : GoodIn wsL_law (wsV RL 116 RX0 yX0_hold wsX0_hold) := goodIn_app (goodIn_of _ (by decide +kernel)) ggL_law_X0_hold
set_option maxRecDepth 20000 in
theorem ggL_law_X1_hold : GoodIn wsL_law wsX1_hold := goodIn_r _ [220, 76, 221, 542, 543, 544, 545, 546, 547, 548, 549, 550, 551, 552, 553, 554, 555] (by decide +kernel) (by decide +kernel)
set_option maxRecDepth 20000 in
theorem gL_law_X1_hold : GoodIn wsL_law (wsV RL 120 RX1 yX1_hold wsX1_hold) := goodIn_app (goodIn_of _ (by decide +kernel)) ggL_law_X1_hold
set_option maxRecDepth 20000 in
theorem ggL_law_X0_steps : GoodIn wsL_law wsX0_steps := goodIn_r _ [225, 25, 527, 528, 529, 530, 531, 532, 533, 534, 535, 536, 537, 538, 539, 540, 541] (by decide +kernel) (by decide +kernel)
set_option maxRecDepth 20000 in
theorem gL_law_X0_steps : GoodIn wsL_law (wsV RL 121 RX0 yX0_steps wsX0_steps) := goodIn_app (goodIn_of _ (by decide +kernel)) ggL_law_X0_steps
set_option maxRecDepth 20000 in
theorem ggL_law_X1_steps : GoodIn wsL_law wsX1_steps := goodIn_r _ [229, 197, 198, 199, 5, 200, 35, 230, 231, 232, 233, 76, 542, 543, 544, 545, 546, 547, 548, 549, 550, 551, 552, 553, 554, 555] (by decide +kernel) (by decide +kernel)
set_option maxRecDepth 20000 in
theorem gL_law_X1_steps : GoodIn wsL_law (wsV RL 124 RX1 yX1_steps wsX1_steps) := goodIn_app (goodIn_of _ (by decide +kernel)) ggL_law_X1_steps
set_option maxRecDepth 20000 in
theorem ggL_law_X0_progress : GoodIn wsL_law wsX0_progress := goodIn_r _ [237, 16, 51, 238, 239, 2, 240, 241, 242, 243, 244, 14, 117, 118, 119, 120, 121, 122, 123, 527, 528, 529, 530, 531, 532, 533, 534, 535, 536, 537, 538, 539, 540, 541] (by decide +kernel) (by decide +kernel)
set_option maxRecDepth 20000 in
theorem gL_law_X0_progress : GoodIn wsL_law (wsV RL 125 RX0 yX0_progress wsX0_progress) := goodIn_app (goodIn_of _ (by decide +kernel)) ggL_law_X0_progress
set_option maxRecDepth 20000 in
theorem ggL_law_X1_progress : GoodIn wsL_law wsX1_progress := goodIn_r _ [248, 249, 250, 251, 5, 252, 30, 32, 155, 253, 254, 255, 256, 68, 230, 231, 232, 233, 76, 542, 543, 544, 545, 546, 547, 548, 549, 550, 551, 552, 553, 554, 555] (by decide +kernel) (by decide +kernel)
set_option maxRecDepth 20000 in
theorem gL_law_X1_progress : GoodIn wsL_law (wsV RL 128 RX1 yX1_progress wsX1_progress) := goodIn_app (goodIn_of _ (by decide +kernel)) ggL_law_X1_progress
set_option maxRecDepth 20000 in
theorem ggL_law_X0_rate : GoodIn wsL_law wsX0_rate := goodIn_r _ [260, 25, 19, 20, 261, 235, 236, 2, 237, 16, 51, 238, 239, 240, 241, 242, 243, 244, 14, 117, 118, 119, 120, 121, 122, 123, 527, 528, 529, 530, 531, 532, 533, 534, 535, 536, 537, 538, 539, 540, 541] (by decide +kernel) (by decide +kernel)
set_option maxRecDepth 20000 in
theorem gL_law_X0_rate : GoodIn wsL_law (wsV RL 129 RX0 yX0_rate wsX0_rate) := goodIn_app (goodIn_of _ (by decide +kernel)) ggL_law_X0_rate
set_option maxRecDepth 20000 in
theorem ggL_law_X1_rate : GoodIn wsL_law wsX1_rate := goodIn_r _ [265, 266, 267, 268, 5, 269, 35, 249, 250, 251, 252, 30, 32, 155, 253, 254, 255, 256, 68, 230, 231, 232, 233, 76, 542, 543, 544, 545, 546, 547, 548, 549, 550, 551, 552, 553, 554, 555] (by decide +kernel) (by decide +kernel)
set_option maxRecDepth 20000 in
theorem gL_law_X1_rate : GoodIn wsL_law (wsV RL 132 RX1 yX1_rate wsX1_rate) := goodIn_app (goodIn_of _ (by decide +kernel)) ggL_law_X1_rate
set_option maxRecDepth 20000 in
theorem ggL_law_L_close : GoodIn wsL_law wsL_close := goodIn_ca (goodIn_r _ [272, 45, 273, 274, 275, 2, 276, 61, 62, 51, 277, 22, 21, 23, 17, 24, 18, 278, 279, 280, 281, 15, 282, 258, 259, 260, 25, 19, 20, 261, 235, 236, 237, 16, 238, 239, 240, 241, 242, 243, 244, 14, 117, 118, 119, 120, 121, 122, 123, 283, 284, 285, 286, 216, 138, 139, 140, 141, 142, 287, 288, 289, 290, 527, 528, 529, 530, 531, 532, 533, 534, 535, 536, 537, 538, 539, 540, 541] (by decide +kernel) (by decide +kernel)) (goodIn_sub (fun _ h => List.mem_append_left _ (List.mem_append_right _ h)) (by decide +kernel))
set_option maxRecDepth 20000 in
theorem gL_law_L_close : GoodIn wsL_law (va_wsS RL 133 yL_close wsL_close) := goodIn_app (goodIn_of _ (by decide +kernel)) ggL_law_L_close
set_option maxRecDepth 20000 in
theorem ggL_law_X1_close : GoodIn wsL_law wsX1_close := goodIn_r _ [294, 68, 295, 37, 34, 33, 31, 36, 38, 39, 72, 73, 74, 5, 75, 76, 296, 297, 298, 299, 253, 254, 255, 256, 300, 301, 302, 303, 221, 266, 267, 268, 269, 35, 249, 250, 251, 252, 30, 32, 155, 151, 152, 153, 154, 542, 543, 544, 545, 546, 547, 548, 549, 550, 551, 552, 553, 554, 555] (by decide +kernel) (by decide +kernel)
set_option maxRecDepth 20000 in
theorem gL_law_X1_close : GoodIn wsL_law (wsV RL 136 RX1 yX1_close wsX1_close) := goodIn_app (goodIn_of _ (by decide +kernel)) ggL_law_X1_close
set_option maxRecDepth 20000 in
theorem ggL_law_X0_nextAmount : GoodIn wsL_law wsX0_nextAmount := goodIn_r _ [281, 15, 51, 22, 277, 282, 258, 259, 2, 260, 25, 19, 20, 261, 235, 236, 237, 16, 238, 239, 240, 241, 242, 243, 244, 14, 117, 118, 119, 120, 121, 122, 123, 283, 284, 285, 286, 216, 18, 17, 138, 139, 140, 141, 142, 527, 528, 529, 530, 531, 532, 533, 534, 535, 536, 537, 538, 539, 540, 541] (by decide +kernel) (by decide +kernel)
set_option maxRecDepth 20000 in
theorem gL_law_X0_nextAmount : GoodIn wsL_law (wsV RL 137 RX0 yX0_nextAmount wsX0_nextAmount) := goodIn_app (goodIn_of _ (by decide +kernel)) ggL_law_X0_nextAmount
set_option maxRecDepth 20000 in
theorem ggL_law_X1_nextAmount : GoodIn wsL_law wsX1_nextAmount := goodIn_r _ [308, 296, 297, 298, 5, 299, 31, 68, 295, 37, 253, 254, 255, 256, 300, 301, 302, 303, 221, 34, 33, 266, 267, 268, 269, 35, 249, 250, 251, 252, 30, 32, 155, 151, 152, 153, 154, 230, 231, 232, 233, 76, 542, 543, 544, 545, 546, 547, 548, 549, 550, 551, 552, 553, 554, 555] (by decide +kernel) (by decide +kernel)
set_option maxRecDepth 20000 in
theorem gL_law_X1_nextAmount : GoodIn wsL_law (wsV RL 140 RX1 yX1_nextAmount wsX1_nextAmount) := goodIn_app (goodIn_of _ (by decide +kernel)) ggL_law_X1_nextAmount
set_option maxRecDepth 20000 in
theorem ggL_law_L_pay : GoodIn wsL_law wsL_pay := goodIn_ca (goodIn_ca (goodIn_r _ [311, 88, 45, 312, 313, 314, 2, 315, 61, 62, 21, 22, 316, 317, 318, 319, 97, 98, 277, 320, 321, 322, 323, 527, 528, 529, 530, 531, 532, 533, 534, 535, 536, 537, 538, 539, 540, 541] (by decide +kernel) (by decide +kernel)) (goodIn_sub (fun _ h => List.mem_append_left _ (List.mem_append_right _ h)) (by decide +kernel))) (goodIn_sub (fun _ h => List.mem_append_right _ h) (by decide +kernel))
set_option maxRecDepth 20000 in
theorem gL_law_L_pay : GoodIn wsL_law (va_wsS RL 141 yL_pay wsL_pay) := goodIn_app (goodIn_of _ (by decide +kernel)) ggL_law_L_pay
set_option maxRecDepth 20000 in
theorem ggL_law_X1_pay : GoodIn wsL_law wsX1_pay := goodIn_r _ [327, 36, 37, 328, 329, 330, 5, 331, 295, 69, 70, 71, 332, 333, 334, 335, 72, 73, 74, 75, 76, 542, 543, 544, 545, 546, 547, 548, 549, 550, 551, 552, 553, 554, 555] (by decide +kernel) (by decide +kernel)
set_option maxRecDepth 20000 in
theorem gL_law_X1_pay : GoodIn wsL_law (wsV RL 143 RX1 yX1_pay wsX1_pay) := goodIn_app (goodIn_of _ (by decide +kernel)) ggL_law_X1_pay
set_option maxRecDepth 20000 in
theorem ggL_law_L_waive : GoodIn wsL_law wsL_waive := goodIn_ca (goodIn_ca (goodIn_r _ [338, 88, 45, 339, 340, 341, 2, 342, 61, 62, 21, 316, 317, 318, 319, 97, 98, 277, 320, 321, 322, 323, 527, 528, 529, 530, 531, 532, 533, 534, 535, 536, 537, 538, 539, 540, 541] (by decide +kernel) (by decide +kernel)) (goodIn_sub (fun _ h => List.mem_append_left _ (List.mem_append_right _ h)) (by decide +kernel))) (goodIn_sub (fun _ h => List.mem_append_right _ h) (by decide +kernel))
set_option maxRecDepth 20000 in
theorem gL_law_L_waive : GoodIn wsL_law (va_wsS RL 144 yL_waive wsL_waive) := goodIn_app (goodIn_of _ (by decide +kernel)) ggL_law_L_waive
set_option maxRecDepth 20000 in
theorem ggL_law_X1_waive : GoodIn wsL_law wsX1_waive := goodIn_r _ [346, 36, 328, 329, 330, 5, 331, 295, 69, 70, 71, 72, 73, 74, 75, 76, 332, 333, 334, 335, 542, 543, 544, 545, 546, 547, 548, 549, 550, 551, 552, 553, 554, 555] (by decide +kernel) (by decide +kernel)
set_option maxRecDepth 20000 in
theorem gL_law_X1_waive : GoodIn wsL_law (wsV RL 146 RX1 yX1_waive wsX1_waive) := goodIn_app (goodIn_of _ (by decide +kernel)) ggL_law_X1_waive
set_option maxRecDepth 20000 in
theorem ggL_law_X0_applications : GoodIn wsL_law wsX0_applications := goodIn_r _ [350, 277, 527, 528, 529, 530, 531, 532, 533, 534, 535, 536, 537, 538, 539, 540, 541] (by decide +kernel) (by decide +kernel)
set_option maxRecDepth 20000 in
theorem gL_law_X0_applications : GoodIn wsL_law (wsV RL 147 RX0 yX0_applications wsX0_applications) := goodIn_app (goodIn_of _ (by decide +kernel)) ggL_law_X0_applications
set_option maxRecDepth 20000 in
theorem ggL_law_X1_applications : GoodIn wsL_law wsX1_applications := goodIn_r _ [354, 295, 230, 231, 232, 5, 233, 76, 542, 543, 544, 545, 546, 547, 548, 549, 550, 551, 552, 553, 554, 555] (by decide +kernel) (by decide +kernel)
set_option maxRecDepth 20000 in
theorem gL_law_X1_applications : GoodIn wsL_law (wsV RL 150 RX1 yX1_applications wsX1_applications) := goodIn_app (goodIn_of _ (by decide +kernel)) ggL_law_X1_applications
set_option maxRecDepth 20000 in
theorem ggL_law_L_state : GoodIn wsL_law wsL_state := goodIn_ca (goodIn_r _ [357, 88, 358, 359, 360, 2, 361, 21, 316, 317, 318, 319, 97, 98, 277, 527, 528, 529, 530, 531, 532, 533, 534, 535, 536, 537, 538, 539, 540, 541] (by decide +kernel) (by decide +kernel)) (goodIn_sub (fun _ h => List.mem_append_right _ h) (by decide +kernel))
set_option maxRecDepth 20000 in
theorem gL_law_L_state : GoodIn wsL_law (va_wsS RL 151 yL_state wsL_state) := goodIn_app (goodIn_of _ (by decide +kernel)) ggL_law_L_state
set_option maxRecDepth 20000 in
theorem ggL_law_X1_state : GoodIn wsL_law wsX1_state := goodIn_r _ [365, 36, 366, 367, 368, 5, 369, 328, 329, 330, 331, 295, 69, 70, 71, 72, 73, 74, 75, 76, 542, 543, 544, 545, 546, 547, 548, 549, 550, 551, 552, 553, 554, 555] (by decide +kernel) (by decide +kernel)
set_option maxRecDepth 20000 in
theorem gL_law_X1_state : GoodIn wsL_law (wsV RL 153 RX1 yX1_state wsX1_state) := goodIn_app (goodIn_of _ (by decide +kernel)) ggL_law_X1_state
set_option maxRecDepth 20000 in
theorem ggL_law_L_amount : GoodIn wsL_law wsL_amount := goodIn_ca (goodIn_r _ [372, 88, 373, 374, 375, 2, 376, 22, 316, 317, 318, 319, 97, 98, 277, 527, 528, 529, 530, 531, 532, 533, 534, 535, 536, 537, 538, 539, 540, 541] (by decide +kernel) (by decide +kernel)) (goodIn_sub (fun _ h => List.mem_append_right _ h) (by decide +kernel))
set_option maxRecDepth 20000 in
theorem gL_law_L_amount : GoodIn wsL_law (va_wsS RL 154 yL_amount wsL_amount) := goodIn_app (goodIn_of _ (by decide +kernel)) ggL_law_L_amount
set_option maxRecDepth 20000 in
theorem ggL_law_X1_amount : GoodIn wsL_law wsX1_amount := goodIn_r _ [380, 37, 366, 367, 368, 5, 369, 328, 329, 330, 331, 295, 69, 70, 71, 72, 73, 74, 75, 76, 542, 543, 544, 545, 546, 547, 548, 549, 550, 551, 552, 553, 554, 555] (by decide +kernel) (by decide +kernel)
set_option maxRecDepth 20000 in
theorem gL_law_X1_amount : GoodIn wsL_law (wsV RL 156 RX1 yX1_amount wsX1_amount) := goodIn_app (goodIn_of _ (by decide +kernel)) ggL_law_X1_amount
set_option maxRecDepth 20000 in
theorem ggL_law_L_billedBehind : GoodIn wsL_law wsL_billedBehind := goodIn_ca (goodIn_r _ [383, 88, 384, 385, 386, 2, 387, 23, 316, 317, 318, 319, 97, 98, 277, 527, 528, 529, 530, 531, 532, 533, 534, 535, 536, 537, 538, 539, 540, 541] (by decide +kernel) (by decide +kernel)) (goodIn_sub (fun _ h => List.mem_append_right _ h) (by decide +kernel))
set_option maxRecDepth 20000 in
theorem gL_law_L_billedBehind : GoodIn wsL_law (va_wsS RL 157 yL_billedBehind wsL_billedBehind) := goodIn_app (goodIn_of _ (by decide +kernel)) ggL_law_L_billedBehind
set_option maxRecDepth 20000 in
theorem ggL_law_X1_billedBehind : GoodIn wsL_law wsX1_billedBehind := goodIn_r _ [391, 38, 366, 367, 368, 5, 369, 328, 329, 330, 331, 295, 69, 70, 71, 72, 73, 74, 75, 76, 542, 543, 544, 545, 546, 547, 548, 549, 550, 551, 552, 553, 554, 555] (by decide +kernel) (by decide +kernel)
set_option maxRecDepth 20000 in
theorem gL_law_X1_billedBehind : GoodIn wsL_law (wsV RL 159 RX1 yX1_billedBehind wsX1_billedBehind) := goodIn_app (goodIn_of _ (by decide +kernel)) ggL_law_X1_billedBehind
set_option maxRecDepth 20000 in
theorem ggL_law_L_heldBehind : GoodIn wsL_law wsL_heldBehind := goodIn_ca (goodIn_r _ [394, 88, 395, 396, 397, 2, 398, 24, 316, 317, 318, 319, 97, 98, 277, 527, 528, 529, 530, 531, 532, 533, 534, 535, 536, 537, 538, 539, 540, 541] (by decide +kernel) (by decide +kernel)) (goodIn_sub (fun _ h => List.mem_append_right _ h) (by decide +kernel))
set_option maxRecDepth 20000 in
theorem gL_law_L_heldBehind : GoodIn wsL_law (va_wsS RL 160 yL_heldBehind wsL_heldBehind) := goodIn_app (goodIn_of _ (by decide +kernel)) ggL_law_L_heldBehind
set_option maxRecDepth 20000 in
theorem ggL_law_X1_heldBehind : GoodIn wsL_law wsX1_heldBehind := goodIn_r _ [402, 39, 366, 367, 368, 5, 369, 328, 329, 330, 331, 295, 69, 70, 71, 72, 73, 74, 75, 76, 542, 543, 544, 545, 546, 547, 548, 549, 550, 551, 552, 553, 554, 555] (by decide +kernel) (by decide +kernel)
set_option maxRecDepth 20000 in
theorem gL_law_X1_heldBehind : GoodIn wsL_law (wsV RL 162 RX1 yX1_heldBehind wsX1_heldBehind) := goodIn_app (goodIn_of _ (by decide +kernel)) ggL_law_X1_heldBehind
set_option maxRecDepth 20000 in
theorem ggL_law_X0_lines : GoodIn wsL_law wsX0_lines := goodIn_r _ [406, 51, 527, 528, 529, 530, 531, 532, 533, 534, 535, 536, 537, 538, 539, 540, 541] (by decide +kernel) (by decide +kernel)
set_option maxRecDepth 20000 in
theorem gL_law_X0_lines : GoodIn wsL_law (wsV RL 163 RX0 yX0_lines wsX0_lines) := goodIn_app (goodIn_of _ (by decide +kernel)) ggL_law_X0_lines
set_option maxRecDepth 20000 in
theorem ggL_law_X1_lines : GoodIn wsL_law wsX1_lines := goodIn_r _ [410, 68, 230, 231, 232, 5, 233, 76, 542, 543, 544, 545, 546, 547, 548, 549, 550, 551, 552, 553, 554, 555] (by decide +kernel) (by decide +kernel)
set_option maxRecDepth 20000 in
theorem gL_law_X1_lines : GoodIn wsL_law (wsV RL 166 RX1 yX1_lines wsX1_lines) := goodIn_app (goodIn_of _ (by decide +kernel)) ggL_law_X1_lines
set_option maxRecDepth 20000 in
theorem ggL_law_L_value : GoodIn wsL_law wsL_value := goodIn_ca (goodIn_r _ [413, 88, 414, 415, 416, 2, 417, 14, 93, 94, 95, 96, 97, 98, 51, 527, 528, 529, 530, 531, 532, 533, 534, 535, 536, 537, 538, 539, 540, 541] (by decide +kernel) (by decide +kernel)) (goodIn_sub (fun _ h => List.mem_append_right _ h) (by decide +kernel))
set_option maxRecDepth 20000 in
theorem gL_law_L_value : GoodIn wsL_law (va_wsS RL 167 yL_value wsL_value) := goodIn_app (goodIn_of _ (by decide +kernel)) ggL_law_L_value
set_option maxRecDepth 20000 in
theorem ggL_law_X1_value : GoodIn wsL_law wsX1_value := goodIn_r _ [421, 30, 422, 423, 424, 5, 425, 103, 104, 105, 106, 68, 69, 70, 71, 72, 73, 74, 75, 76, 542, 543, 544, 545, 546, 547, 548, 549, 550, 551, 552, 553, 554, 555] (by decide +kernel) (by decide +kernel)
set_option maxRecDepth 20000 in
theorem gL_law_X1_value : GoodIn wsL_law (wsV RL 169 RX1 yX1_value wsX1_value) := goodIn_app (goodIn_of _ (by decide +kernel)) ggL_law_X1_value
set_option maxRecDepth 20000 in
theorem ggL_law_L_work : GoodIn wsL_law wsL_work := goodIn_ca (goodIn_r _ [428, 88, 429, 430, 431, 2, 432, 16, 93, 94, 95, 96, 97, 98, 51, 527, 528, 529, 530, 531, 532, 533, 534, 535, 536, 537, 538, 539, 540, 541] (by decide +kernel) (by decide +kernel)) (goodIn_sub (fun _ h => List.mem_append_right _ h) (by decide +kernel))
set_option maxRecDepth 20000 in
theorem gL_law_L_work : GoodIn wsL_law (va_wsS RL 170 yL_work wsL_work) := goodIn_app (goodIn_of _ (by decide +kernel)) ggL_law_L_work
set_option maxRecDepth 20000 in
theorem ggL_law_X1_work : GoodIn wsL_law wsX1_work := goodIn_r _ [436, 32, 422, 423, 424, 5, 425, 103, 104, 105, 106, 68, 69, 70, 71, 72, 73, 74, 75, 76, 542, 543, 544, 545, 546, 547, 548, 549, 550, 551, 552, 553, 554, 555] (by decide +kernel) (by decide +kernel)
set_option maxRecDepth 20000 in
theorem gL_law_X1_work : GoodIn wsL_law (wsV RL 172 RX1 yX1_work wsX1_work) := goodIn_app (goodIn_of _ (by decide +kernel)) ggL_law_X1_work
set_option maxRecDepth 20000 in
theorem ggL_law_L_goods : GoodIn wsL_law wsL_goods := goodIn_ca (goodIn_r _ [439, 88, 440, 441, 442, 2, 443, 15, 16, 93, 94, 95, 96, 97, 98, 51, 527, 528, 529, 530, 531, 532, 533, 534, 535, 536, 537, 538, 539, 540, 541] (by decide +kernel) (by decide +kernel)) (goodIn_sub (fun _ h => List.mem_append_right _ h) (by decide +kernel))
set_option maxRecDepth 20000 in
theorem gL_law_L_goods : GoodIn wsL_law (va_wsS RL 173 yL_goods wsL_goods) := goodIn_app (goodIn_of _ (by decide +kernel)) ggL_law_L_goods
set_option maxRecDepth 20000 in
theorem ggL_law_X1_goods : GoodIn wsL_law wsX1_goods := goodIn_r _ [447, 31, 32, 422, 423, 424, 5, 425, 103, 104, 105, 106, 68, 69, 70, 71, 72, 73, 74, 75, 76, 542, 543, 544, 545, 546, 547, 548, 549, 550, 551, 552, 553, 554, 555] (by decide +kernel) (by decide +kernel)
set_option maxRecDepth 20000 in
theorem gL_law_X1_goods : GoodIn wsL_law (wsV RL 175 RX1 yX1_goods wsX1_goods) := goodIn_app (goodIn_of _ (by decide +kernel)) ggL_law_X1_goods
set_option maxRecDepth 20000 in
theorem ggL_law_L_billed : GoodIn wsL_law wsL_billed := goodIn_ca (goodIn_r _ [450, 88, 451, 452, 453, 2, 454, 17, 93, 94, 95, 96, 97, 98, 51, 527, 528, 529, 530, 531, 532, 533, 534, 535, 536, 537, 538, 539, 540, 541] (by decide +kernel) (by decide +kernel)) (goodIn_sub (fun _ h => List.mem_append_right _ h) (by decide +kernel))
set_option maxRecDepth 20000 in
theorem gL_law_L_billed : GoodIn wsL_law (va_wsS RL 176 yL_billed wsL_billed) := goodIn_app (goodIn_of _ (by decide +kernel)) ggL_law_L_billed
set_option maxRecDepth 20000 in
theorem ggL_law_X1_billed : GoodIn wsL_law wsX1_billed := goodIn_r _ [458, 33, 422, 423, 424, 5, 425, 103, 104, 105, 106, 68, 69, 70, 71, 72, 73, 74, 75, 76, 542, 543, 544, 545, 546, 547, 548, 549, 550, 551, 552, 553, 554, 555] (by decide +kernel) (by decide +kernel)
set_option maxRecDepth 20000 in
theorem gL_law_X1_billed : GoodIn wsL_law (wsV RL 178 RX1 yX1_billed wsX1_billed) := goodIn_app (goodIn_of _ (by decide +kernel)) ggL_law_X1_billed
set_option maxRecDepth 20000 in
theorem ggL_law_L_held : GoodIn wsL_law wsL_held := goodIn_ca (goodIn_r _ [461, 88, 462, 463, 464, 2, 465, 18, 93, 94, 95, 96, 97, 98, 51, 527, 528, 529, 530, 531, 532, 533, 534, 535, 536, 537, 538, 539, 540, 541] (by decide +kernel) (by decide +kernel)) (goodIn_sub (fun _ h => List.mem_append_right _ h) (by decide +kernel))
set_option maxRecDepth 20000 in
theorem gL_law_L_held : GoodIn wsL_law (va_wsS RL 179 yL_held wsL_held) := goodIn_app (goodIn_of _ (by decide +kernel)) ggL_law_L_held
set_option maxRecDepth 20000 in
theorem ggL_law_X1_held : GoodIn wsL_law wsX1_held := goodIn_r _ [469, 34, 422, 423, 424, 5, 425, 103, 104, 105, 106, 68, 69, 70, 71, 72, 73, 74, 75, 76, 542, 543, 544, 545, 546, 547, 548, 549, 550, 551, 552, 553, 554, 555] (by decide +kernel) (by decide +kernel)
set_option maxRecDepth 20000 in
theorem gL_law_X1_held : GoodIn wsL_law (wsV RL 181 RX1 yX1_held wsX1_held) := goodIn_app (goodIn_of _ (by decide +kernel)) ggL_law_X1_held
set_option maxRecDepth 20000 in
theorem ggL_law_L_lineByShare : GoodIn wsL_law wsL_lineByShare := goodIn_ca (goodIn_r _ [472, 88, 473, 474, 475, 2, 476, 51, 93, 94, 95, 96, 97, 98, 477, 478, 479, 480, 481, 482, 483, 484, 16, 485, 486, 487, 488, 14, 489, 490, 491, 492, 527, 528, 529, 530, 531, 532, 533, 534, 535, 536, 537, 538, 539, 540, 541] (by decide +kernel) (by decide +kernel)) (goodIn_sub (fun _ h => List.mem_append_right _ h) (by decide +kernel))
set_option maxRecDepth 20000 in
theorem gL_law_L_lineByShare : GoodIn wsL_law (va_wsS RL 182 yL_lineByShare wsL_lineByShare) := goodIn_app (goodIn_of _ (by decide +kernel)) ggL_law_L_lineByShare
set_option maxRecDepth 20000 in
theorem ggL_law_X1_lineByShare : GoodIn wsL_law wsX1_lineByShare := goodIn_r _ [496, 68, 497, 498, 499, 5, 500, 32, 30, 72, 73, 74, 75, 76, 542, 543, 544, 545, 546, 547, 548, 549, 550, 551, 552, 553, 554, 555] (by decide +kernel) (by decide +kernel)
set_option maxRecDepth 20000 in
theorem gL_law_X1_lineByShare : GoodIn wsL_law (wsV RL 184 RX1 yX1_lineByShare wsX1_lineByShare) := goodIn_app (goodIn_of _ (by decide +kernel)) ggL_law_X1_lineByShare
set_option maxRecDepth 20000 in
theorem ggL_law_X0_contractSum : GoodIn wsL_law wsX0_contractSum := goodIn_r _ [244, 14, 51, 238, 239, 2, 240, 527, 528, 529, 530, 531, 532, 533, 534, 535, 536, 537, 538, 539, 540, 541] (by decide +kernel) (by decide +kernel)
set_option maxRecDepth 20000 in
theorem gL_law_X0_contractSum : GoodIn wsL_law (wsV RL 185 RX0 yX0_contractSum wsX0_contractSum) := goodIn_app (goodIn_of _ (by decide +kernel)) ggL_law_X0_contractSum
set_option maxRecDepth 20000 in
theorem ggL_law_X1_contractSum : GoodIn wsL_law wsX1_contractSum := goodIn_r _ [505, 30, 253, 254, 255, 5, 256, 68, 230, 231, 232, 233, 76, 542, 543, 544, 545, 546, 547, 548, 549, 550, 551, 552, 553, 554, 555] (by decide +kernel) (by decide +kernel)
set_option maxRecDepth 20000 in
theorem gL_law_X1_contractSum : GoodIn wsL_law (wsV RL 188 RX1 yX1_contractSum wsX1_contractSum) := goodIn_app (goodIn_of _ (by decide +kernel)) ggL_law_X1_contractSum
set_option maxRecDepth 20000 in
theorem ggL_law_X0_paid : GoodIn wsL_law wsX0_paid := goodIn_r _ [509, 277, 21, 22, 527, 528, 529, 530, 531, 532, 533, 534, 535, 536, 537, 538, 539, 540, 541] (by decide +kernel) (by decide +kernel)
set_option maxRecDepth 20000 in
theorem gL_law_X0_paid : GoodIn wsL_law (wsV RL 189 RX0 yX0_paid wsX0_paid) := goodIn_app (goodIn_of _ (by decide +kernel)) ggL_law_X0_paid
set_option maxRecDepth 20000 in
theorem ggL_law_X1_paid : GoodIn wsL_law wsX1_paid := goodIn_r _ [513, 514, 515, 516, 5, 517, 295, 36, 37, 230, 231, 232, 233, 76, 542, 543, 544, 545, 546, 547, 548, 549, 550, 551, 552, 553, 554, 555] (by decide +kernel) (by decide +kernel)
set_option maxRecDepth 20000 in
theorem gL_law_X1_paid : GoodIn wsL_law (wsV RL 192 RX1 yX1_paid wsX1_paid) := goodIn_app (goodIn_of _ (by decide +kernel)) ggL_law_X1_paid
set_option maxRecDepth 20000 in
theorem ggL_law_X0_toCome : GoodIn wsL_law wsX0_toCome := goodIn_r _ [521, 241, 242, 243, 2, 244, 14, 51, 238, 239, 240, 522, 507, 508, 509, 277, 21, 22, 527, 528, 529, 530, 531, 532, 533, 534, 535, 536, 537, 538, 539, 540, 541] (by decide +kernel) (by decide +kernel)
set_option maxRecDepth 20000 in
theorem gL_law_X0_toCome : GoodIn wsL_law (wsV RL 193 RX0 yX0_toCome wsX0_toCome) := goodIn_app (goodIn_of _ (by decide +kernel)) ggL_law_X0_toCome
set_option maxRecDepth 20000 in
theorem ggL_law_X1_toCome : GoodIn wsL_law wsX1_toCome := goodIn_r _ [526, 30, 253, 254, 255, 5, 256, 68, 514, 515, 516, 517, 295, 36, 37, 230, 231, 232, 233, 76, 542, 543, 544, 545, 546, 547, 548, 549, 550, 551, 552, 553, 554, 555] (by decide +kernel) (by decide +kernel)
set_option maxRecDepth 20000 in
theorem gL_law_X1_toCome : GoodIn wsL_law (wsV RL 196 RX1 yX1_toCome wsX1_toCome) := goodIn_app (goodIn_of _ (by decide +kernel)) ggL_law_X1_toCome
end
section
theorem dL_law_0 : decode cL_law 0 = .ok (.new 8, 3) := by decide +kernel
theorem dL_law_3 : decode cL_law 3 = .ok (.dup, 1) := by decide +kernel
theorem dL_law_4 : decode cL_law 4 = .ok (.invokespecial 81, 3) := by decide +kernel
theorem dL_law_7 : decode cL_law 7 = .ok (.astore_n 1, 1) := by decide +kernel
theorem dL_law_8 : decode cL_law 8 = .ok (.new 82, 3) := by decide +kernel
theorem dL_law_11 : decode cL_law 11 = .ok (.dup, 1) := by decide +kernel
theorem dL_law_12 : decode cL_law 12 = .ok (.invokespecial 84, 3) := by decide +kernel
theorem dL_law_15 : decode cL_law 15 = .ok (.astore_n 2, 1) := by decide +kernel
theorem dL_law_16 : decode cL_law 16 = .ok (.iconst 1, 1) := by decide +kernel
theorem dL_law_17 : decode cL_law 17 = .ok (.newarray .long, 2) := by decide +kernel
theorem dL_law_19 : decode cL_law 19 = .ok (.astore_n 3, 1) := by decide +kernel
theorem dL_law_20 : decode cL_law 20 = .ok (.iconst 0, 1) := by decide +kernel
theorem dL_law_21 : decode cL_law 21 = .ok (.istore 4, 2) := by decide +kernel
theorem dL_law_23 : decode cL_law 23 = .ok (.iload 4, 2) := by decide +kernel
theorem dL_law_25 : decode cL_law 25 = .ok (.aload_n 0, 1) := by decide +kernel
theorem dL_law_26 : decode cL_law 26 = .ok (.arraylength, 1) := by decide +kernel
theorem dL_law_27 : decode cL_law 27 = .ok (.iconst 3, 1) := by decide +kernel
theorem dL_law_28 : decode cL_law 28 = .ok (.isub, 1) := by decide +kernel
theorem dL_law_29 : decode cL_law 29 = .ok (.if_icmp .gt 1547, 3) := by decide +kernel
theorem dL_law_32 : decode cL_law 32 = .ok (.aload_n 0, 1) := by decide +kernel
theorem dL_law_33 : decode cL_law 33 = .ok (.iload 4, 2) := by decide +kernel
theorem dL_law_35 : decode cL_law 35 = .ok (.iaload, 1) := by decide +kernel
theorem dL_law_36 : decode cL_law 36 = .ok (.bipush 31, 2) := by decide +kernel
theorem dL_law_38 : decode cL_law 38 = .ok (.iand, 1) := by decide +kernel
theorem dL_law_39 : decode cL_law 39 = .ok (.tableswitch 1531 0 30 #[137, 193, 261, 329, 397, 465, 533, 601, 657, 698, 711, 724, 737, 781, 794, 850, 906, 919, 975, 1031, 1087, 1143, 1156, 1212, 1268, 1324, 1380, 1436, 1492, 1505, 1518], 137) := by decide +kernel
theorem dL_law_176 : decode cL_law 176 = .ok (.aload_n 1, 1) := by decide +kernel
theorem dL_law_177 : decode cL_law 177 = .ok (.aload_n 0, 1) := by decide +kernel
theorem dL_law_178 : decode cL_law 178 = .ok (.iload 4, 2) := by decide +kernel
theorem dL_law_180 : decode cL_law 180 = .ok (.iconst 1, 1) := by decide +kernel
theorem dL_law_181 : decode cL_law 181 = .ok (.iadd, 1) := by decide +kernel
theorem dL_law_182 : decode cL_law 182 = .ok (.iaload, 1) := by decide +kernel
theorem dL_law_183 : decode cL_law 183 = .ok (.aload_n 3, 1) := by decide +kernel
theorem dL_law_184 : decode cL_law 184 = .ok (.invokestatic 85, 3) := by decide +kernel
theorem dL_law_187 : decode cL_law 187 = .ok (.istore 5, 2) := by decide +kernel
theorem dL_law_189 : decode cL_law 189 = .ok (.aload_n 2, 1) := by decide +kernel
theorem dL_law_190 : decode cL_law 190 = .ok (.aload_n 0, 1) := by decide +kernel
theorem dL_law_191 : decode cL_law 191 = .ok (.iload 4, 2) := by decide +kernel
theorem dL_law_193 : decode cL_law 193 = .ok (.iconst 1, 1) := by decide +kernel
theorem dL_law_194 : decode cL_law 194 = .ok (.iadd, 1) := by decide +kernel
theorem dL_law_195 : decode cL_law 195 = .ok (.iaload, 1) := by decide +kernel
theorem dL_law_196 : decode cL_law 196 = .ok (.invokevirtual 90, 3) := by decide +kernel
theorem dL_law_199 : decode cL_law 199 = .ok (.istore 6, 2) := by decide +kernel
theorem dL_law_201 : decode cL_law 201 = .ok (.aload_n 2, 1) := by decide +kernel
theorem dL_law_202 : decode cL_law 202 = .ok (.invokevirtual 91, 3) := by decide +kernel
theorem dL_law_205 : decode cL_law 205 = .ok (.iload 5, 2) := by decide +kernel
theorem dL_law_207 : decode cL_law 207 = .ok (.if_icmp .eq 5, 3) := by decide +kernel
theorem dL_law_210 : decode cL_law 210 = .ok (.iconst 0, 1) := by decide +kernel
theorem dL_law_211 : decode cL_law 211 = .ok (.ireturn, 1) := by decide +kernel
theorem dL_law_212 : decode cL_law 212 = .ok (.iload 5, 2) := by decide +kernel
theorem dL_law_214 : decode cL_law 214 = .ok (.ifCond .ne 15, 3) := by decide +kernel
theorem dL_law_217 : decode cL_law 217 = .ok (.aload_n 3, 1) := by decide +kernel
theorem dL_law_218 : decode cL_law 218 = .ok (.iconst 0, 1) := by decide +kernel
theorem dL_law_219 : decode cL_law 219 = .ok (.laload, 1) := by decide +kernel
theorem dL_law_220 : decode cL_law 220 = .ok (.iload 6, 2) := by decide +kernel
theorem dL_law_222 : decode cL_law 222 = .ok (.i2l, 1) := by decide +kernel
theorem dL_law_223 : decode cL_law 223 = .ok (.lcmp, 1) := by decide +kernel
theorem dL_law_224 : decode cL_law 224 = .ok (.ifCond .eq 5, 3) := by decide +kernel
theorem dL_law_227 : decode cL_law 227 = .ok (.iconst 0, 1) := by decide +kernel
theorem dL_law_228 : decode cL_law 228 = .ok (.ireturn, 1) := by decide +kernel
theorem dL_law_229 : decode cL_law 229 = .ok (.goto 1341, 3) := by decide +kernel
theorem dL_law_232 : decode cL_law 232 = .ok (.aload_n 1, 1) := by decide +kernel
theorem dL_law_233 : decode cL_law 233 = .ok (.aload_n 0, 1) := by decide +kernel
theorem dL_law_234 : decode cL_law 234 = .ok (.iload 4, 2) := by decide +kernel
theorem dL_law_236 : decode cL_law 236 = .ok (.iconst 1, 1) := by decide +kernel
theorem dL_law_237 : decode cL_law 237 = .ok (.iadd, 1) := by decide +kernel
theorem dL_law_238 : decode cL_law 238 = .ok (.iaload, 1) := by decide +kernel
theorem dL_law_239 : decode cL_law 239 = .ok (.aload_n 0, 1) := by decide +kernel
theorem dL_law_240 : decode cL_law 240 = .ok (.iload 4, 2) := by decide +kernel
theorem dL_law_242 : decode cL_law 242 = .ok (.iconst 2, 1) := by decide +kernel
theorem dL_law_243 : decode cL_law 243 = .ok (.iadd, 1) := by decide +kernel
theorem dL_law_244 : decode cL_law 244 = .ok (.iaload, 1) := by decide +kernel
theorem dL_law_245 : decode cL_law 245 = .ok (.aload_n 3, 1) := by decide +kernel
theorem dL_law_246 : decode cL_law 246 = .ok (.invokestatic 94, 3) := by decide +kernel
theorem dL_law_249 : decode cL_law 249 = .ok (.istore 5, 2) := by decide +kernel
theorem dL_law_251 : decode cL_law 251 = .ok (.aload_n 2, 1) := by decide +kernel
theorem dL_law_252 : decode cL_law 252 = .ok (.aload_n 0, 1) := by decide +kernel
theorem dL_law_253 : decode cL_law 253 = .ok (.iload 4, 2) := by decide +kernel
theorem dL_law_255 : decode cL_law 255 = .ok (.iconst 1, 1) := by decide +kernel
theorem dL_law_256 : decode cL_law 256 = .ok (.iadd, 1) := by decide +kernel
theorem dL_law_257 : decode cL_law 257 = .ok (.iaload, 1) := by decide +kernel
theorem dL_law_258 : decode cL_law 258 = .ok (.aload_n 0, 1) := by decide +kernel
theorem dL_law_259 : decode cL_law 259 = .ok (.iload 4, 2) := by decide +kernel
theorem dL_law_261 : decode cL_law 261 = .ok (.iconst 2, 1) := by decide +kernel
theorem dL_law_262 : decode cL_law 262 = .ok (.iadd, 1) := by decide +kernel
theorem dL_law_263 : decode cL_law 263 = .ok (.iaload, 1) := by decide +kernel
theorem dL_law_264 : decode cL_law 264 = .ok (.invokevirtual 97, 3) := by decide +kernel
theorem dL_law_267 : decode cL_law 267 = .ok (.istore 6, 2) := by decide +kernel
theorem dL_law_269 : decode cL_law 269 = .ok (.aload_n 2, 1) := by decide +kernel
theorem dL_law_270 : decode cL_law 270 = .ok (.invokevirtual 91, 3) := by decide +kernel
theorem dL_law_273 : decode cL_law 273 = .ok (.iload 5, 2) := by decide +kernel
theorem dL_law_275 : decode cL_law 275 = .ok (.if_icmp .eq 5, 3) := by decide +kernel
theorem dL_law_278 : decode cL_law 278 = .ok (.iconst 0, 1) := by decide +kernel
theorem dL_law_279 : decode cL_law 279 = .ok (.ireturn, 1) := by decide +kernel
theorem dL_law_280 : decode cL_law 280 = .ok (.iload 5, 2) := by decide +kernel
theorem dL_law_282 : decode cL_law 282 = .ok (.ifCond .ne 15, 3) := by decide +kernel
theorem dL_law_285 : decode cL_law 285 = .ok (.aload_n 3, 1) := by decide +kernel
theorem dL_law_286 : decode cL_law 286 = .ok (.iconst 0, 1) := by decide +kernel
theorem dL_law_287 : decode cL_law 287 = .ok (.laload, 1) := by decide +kernel
theorem dL_law_288 : decode cL_law 288 = .ok (.iload 6, 2) := by decide +kernel
theorem dL_law_290 : decode cL_law 290 = .ok (.i2l, 1) := by decide +kernel
theorem dL_law_291 : decode cL_law 291 = .ok (.lcmp, 1) := by decide +kernel
theorem dL_law_292 : decode cL_law 292 = .ok (.ifCond .eq 5, 3) := by decide +kernel
theorem dL_law_295 : decode cL_law 295 = .ok (.iconst 0, 1) := by decide +kernel
theorem dL_law_296 : decode cL_law 296 = .ok (.ireturn, 1) := by decide +kernel
theorem dL_law_297 : decode cL_law 297 = .ok (.goto 1273, 3) := by decide +kernel
theorem dL_law_300 : decode cL_law 300 = .ok (.aload_n 1, 1) := by decide +kernel
theorem dL_law_301 : decode cL_law 301 = .ok (.aload_n 0, 1) := by decide +kernel
theorem dL_law_302 : decode cL_law 302 = .ok (.iload 4, 2) := by decide +kernel
theorem dL_law_304 : decode cL_law 304 = .ok (.iconst 1, 1) := by decide +kernel
theorem dL_law_305 : decode cL_law 305 = .ok (.iadd, 1) := by decide +kernel
theorem dL_law_306 : decode cL_law 306 = .ok (.iaload, 1) := by decide +kernel
theorem dL_law_307 : decode cL_law 307 = .ok (.aload_n 0, 1) := by decide +kernel
theorem dL_law_308 : decode cL_law 308 = .ok (.iload 4, 2) := by decide +kernel
theorem dL_law_310 : decode cL_law 310 = .ok (.iconst 2, 1) := by decide +kernel
theorem dL_law_311 : decode cL_law 311 = .ok (.iadd, 1) := by decide +kernel
theorem dL_law_312 : decode cL_law 312 = .ok (.iaload, 1) := by decide +kernel
theorem dL_law_313 : decode cL_law 313 = .ok (.aload_n 3, 1) := by decide +kernel
theorem dL_law_314 : decode cL_law 314 = .ok (.invokestatic 98, 3) := by decide +kernel
theorem dL_law_317 : decode cL_law 317 = .ok (.istore 5, 2) := by decide +kernel
theorem dL_law_319 : decode cL_law 319 = .ok (.aload_n 2, 1) := by decide +kernel
theorem dL_law_320 : decode cL_law 320 = .ok (.aload_n 0, 1) := by decide +kernel
theorem dL_law_321 : decode cL_law 321 = .ok (.iload 4, 2) := by decide +kernel
theorem dL_law_323 : decode cL_law 323 = .ok (.iconst 1, 1) := by decide +kernel
theorem dL_law_324 : decode cL_law 324 = .ok (.iadd, 1) := by decide +kernel
theorem dL_law_325 : decode cL_law 325 = .ok (.iaload, 1) := by decide +kernel
theorem dL_law_326 : decode cL_law 326 = .ok (.aload_n 0, 1) := by decide +kernel
theorem dL_law_327 : decode cL_law 327 = .ok (.iload 4, 2) := by decide +kernel
theorem dL_law_329 : decode cL_law 329 = .ok (.iconst 2, 1) := by decide +kernel
theorem dL_law_330 : decode cL_law 330 = .ok (.iadd, 1) := by decide +kernel
theorem dL_law_331 : decode cL_law 331 = .ok (.iaload, 1) := by decide +kernel
theorem dL_law_332 : decode cL_law 332 = .ok (.invokevirtual 100, 3) := by decide +kernel
theorem dL_law_335 : decode cL_law 335 = .ok (.istore 6, 2) := by decide +kernel
theorem dL_law_337 : decode cL_law 337 = .ok (.aload_n 2, 1) := by decide +kernel
theorem dL_law_338 : decode cL_law 338 = .ok (.invokevirtual 91, 3) := by decide +kernel
theorem dL_law_341 : decode cL_law 341 = .ok (.iload 5, 2) := by decide +kernel
theorem dL_law_343 : decode cL_law 343 = .ok (.if_icmp .eq 5, 3) := by decide +kernel
theorem dL_law_346 : decode cL_law 346 = .ok (.iconst 0, 1) := by decide +kernel
theorem dL_law_347 : decode cL_law 347 = .ok (.ireturn, 1) := by decide +kernel
theorem dL_law_348 : decode cL_law 348 = .ok (.iload 5, 2) := by decide +kernel
theorem dL_law_350 : decode cL_law 350 = .ok (.ifCond .ne 15, 3) := by decide +kernel
theorem dL_law_353 : decode cL_law 353 = .ok (.aload_n 3, 1) := by decide +kernel
theorem dL_law_354 : decode cL_law 354 = .ok (.iconst 0, 1) := by decide +kernel
theorem dL_law_355 : decode cL_law 355 = .ok (.laload, 1) := by decide +kernel
theorem dL_law_356 : decode cL_law 356 = .ok (.iload 6, 2) := by decide +kernel
theorem dL_law_358 : decode cL_law 358 = .ok (.i2l, 1) := by decide +kernel
theorem dL_law_359 : decode cL_law 359 = .ok (.lcmp, 1) := by decide +kernel
theorem dL_law_360 : decode cL_law 360 = .ok (.ifCond .eq 5, 3) := by decide +kernel
theorem dL_law_363 : decode cL_law 363 = .ok (.iconst 0, 1) := by decide +kernel
theorem dL_law_364 : decode cL_law 364 = .ok (.ireturn, 1) := by decide +kernel
theorem dL_law_365 : decode cL_law 365 = .ok (.goto 1205, 3) := by decide +kernel
theorem dL_law_368 : decode cL_law 368 = .ok (.aload_n 1, 1) := by decide +kernel
theorem dL_law_369 : decode cL_law 369 = .ok (.aload_n 0, 1) := by decide +kernel
theorem dL_law_370 : decode cL_law 370 = .ok (.iload 4, 2) := by decide +kernel
theorem dL_law_372 : decode cL_law 372 = .ok (.iconst 1, 1) := by decide +kernel
theorem dL_law_373 : decode cL_law 373 = .ok (.iadd, 1) := by decide +kernel
theorem dL_law_374 : decode cL_law 374 = .ok (.iaload, 1) := by decide +kernel
theorem dL_law_375 : decode cL_law 375 = .ok (.aload_n 0, 1) := by decide +kernel
theorem dL_law_376 : decode cL_law 376 = .ok (.iload 4, 2) := by decide +kernel
theorem dL_law_378 : decode cL_law 378 = .ok (.iconst 2, 1) := by decide +kernel
theorem dL_law_379 : decode cL_law 379 = .ok (.iadd, 1) := by decide +kernel
theorem dL_law_380 : decode cL_law 380 = .ok (.iaload, 1) := by decide +kernel
theorem dL_law_381 : decode cL_law 381 = .ok (.aload_n 3, 1) := by decide +kernel
theorem dL_law_382 : decode cL_law 382 = .ok (.invokestatic 101, 3) := by decide +kernel
theorem dL_law_385 : decode cL_law 385 = .ok (.istore 5, 2) := by decide +kernel
theorem dL_law_387 : decode cL_law 387 = .ok (.aload_n 2, 1) := by decide +kernel
theorem dL_law_388 : decode cL_law 388 = .ok (.aload_n 0, 1) := by decide +kernel
theorem dL_law_389 : decode cL_law 389 = .ok (.iload 4, 2) := by decide +kernel
theorem dL_law_391 : decode cL_law 391 = .ok (.iconst 1, 1) := by decide +kernel
theorem dL_law_392 : decode cL_law 392 = .ok (.iadd, 1) := by decide +kernel
theorem dL_law_393 : decode cL_law 393 = .ok (.iaload, 1) := by decide +kernel
theorem dL_law_394 : decode cL_law 394 = .ok (.aload_n 0, 1) := by decide +kernel
theorem dL_law_395 : decode cL_law 395 = .ok (.iload 4, 2) := by decide +kernel
theorem dL_law_397 : decode cL_law 397 = .ok (.iconst 2, 1) := by decide +kernel
theorem dL_law_398 : decode cL_law 398 = .ok (.iadd, 1) := by decide +kernel
theorem dL_law_399 : decode cL_law 399 = .ok (.iaload, 1) := by decide +kernel
theorem dL_law_400 : decode cL_law 400 = .ok (.invokevirtual 103, 3) := by decide +kernel
theorem dL_law_403 : decode cL_law 403 = .ok (.istore 6, 2) := by decide +kernel
theorem dL_law_405 : decode cL_law 405 = .ok (.aload_n 2, 1) := by decide +kernel
theorem dL_law_406 : decode cL_law 406 = .ok (.invokevirtual 91, 3) := by decide +kernel
theorem dL_law_409 : decode cL_law 409 = .ok (.iload 5, 2) := by decide +kernel
theorem dL_law_411 : decode cL_law 411 = .ok (.if_icmp .eq 5, 3) := by decide +kernel
theorem dL_law_414 : decode cL_law 414 = .ok (.iconst 0, 1) := by decide +kernel
theorem dL_law_415 : decode cL_law 415 = .ok (.ireturn, 1) := by decide +kernel
theorem dL_law_416 : decode cL_law 416 = .ok (.iload 5, 2) := by decide +kernel
theorem dL_law_418 : decode cL_law 418 = .ok (.ifCond .ne 15, 3) := by decide +kernel
theorem dL_law_421 : decode cL_law 421 = .ok (.aload_n 3, 1) := by decide +kernel
theorem dL_law_422 : decode cL_law 422 = .ok (.iconst 0, 1) := by decide +kernel
theorem dL_law_423 : decode cL_law 423 = .ok (.laload, 1) := by decide +kernel
theorem dL_law_424 : decode cL_law 424 = .ok (.iload 6, 2) := by decide +kernel
theorem dL_law_426 : decode cL_law 426 = .ok (.i2l, 1) := by decide +kernel
theorem dL_law_427 : decode cL_law 427 = .ok (.lcmp, 1) := by decide +kernel
theorem dL_law_428 : decode cL_law 428 = .ok (.ifCond .eq 5, 3) := by decide +kernel
theorem dL_law_431 : decode cL_law 431 = .ok (.iconst 0, 1) := by decide +kernel
theorem dL_law_432 : decode cL_law 432 = .ok (.ireturn, 1) := by decide +kernel
theorem dL_law_433 : decode cL_law 433 = .ok (.goto 1137, 3) := by decide +kernel
theorem dL_law_436 : decode cL_law 436 = .ok (.aload_n 1, 1) := by decide +kernel
theorem dL_law_437 : decode cL_law 437 = .ok (.aload_n 0, 1) := by decide +kernel
theorem dL_law_438 : decode cL_law 438 = .ok (.iload 4, 2) := by decide +kernel
theorem dL_law_440 : decode cL_law 440 = .ok (.iconst 1, 1) := by decide +kernel
theorem dL_law_441 : decode cL_law 441 = .ok (.iadd, 1) := by decide +kernel
theorem dL_law_442 : decode cL_law 442 = .ok (.iaload, 1) := by decide +kernel
theorem dL_law_443 : decode cL_law 443 = .ok (.aload_n 0, 1) := by decide +kernel
theorem dL_law_444 : decode cL_law 444 = .ok (.iload 4, 2) := by decide +kernel
theorem dL_law_446 : decode cL_law 446 = .ok (.iconst 2, 1) := by decide +kernel
theorem dL_law_447 : decode cL_law 447 = .ok (.iadd, 1) := by decide +kernel
theorem dL_law_448 : decode cL_law 448 = .ok (.iaload, 1) := by decide +kernel
theorem dL_law_449 : decode cL_law 449 = .ok (.aload_n 3, 1) := by decide +kernel
theorem dL_law_450 : decode cL_law 450 = .ok (.invokestatic 104, 3) := by decide +kernel
theorem dL_law_453 : decode cL_law 453 = .ok (.istore 5, 2) := by decide +kernel
theorem dL_law_455 : decode cL_law 455 = .ok (.aload_n 2, 1) := by decide +kernel
theorem dL_law_456 : decode cL_law 456 = .ok (.aload_n 0, 1) := by decide +kernel
theorem dL_law_457 : decode cL_law 457 = .ok (.iload 4, 2) := by decide +kernel
theorem dL_law_459 : decode cL_law 459 = .ok (.iconst 1, 1) := by decide +kernel
theorem dL_law_460 : decode cL_law 460 = .ok (.iadd, 1) := by decide +kernel
theorem dL_law_461 : decode cL_law 461 = .ok (.iaload, 1) := by decide +kernel
theorem dL_law_462 : decode cL_law 462 = .ok (.aload_n 0, 1) := by decide +kernel
theorem dL_law_463 : decode cL_law 463 = .ok (.iload 4, 2) := by decide +kernel
theorem dL_law_465 : decode cL_law 465 = .ok (.iconst 2, 1) := by decide +kernel
theorem dL_law_466 : decode cL_law 466 = .ok (.iadd, 1) := by decide +kernel
theorem dL_law_467 : decode cL_law 467 = .ok (.iaload, 1) := by decide +kernel
theorem dL_law_468 : decode cL_law 468 = .ok (.invokevirtual 106, 3) := by decide +kernel
theorem dL_law_471 : decode cL_law 471 = .ok (.istore 6, 2) := by decide +kernel
theorem dL_law_473 : decode cL_law 473 = .ok (.aload_n 2, 1) := by decide +kernel
theorem dL_law_474 : decode cL_law 474 = .ok (.invokevirtual 91, 3) := by decide +kernel
theorem dL_law_477 : decode cL_law 477 = .ok (.iload 5, 2) := by decide +kernel
theorem dL_law_479 : decode cL_law 479 = .ok (.if_icmp .eq 5, 3) := by decide +kernel
theorem dL_law_482 : decode cL_law 482 = .ok (.iconst 0, 1) := by decide +kernel
theorem dL_law_483 : decode cL_law 483 = .ok (.ireturn, 1) := by decide +kernel
theorem dL_law_484 : decode cL_law 484 = .ok (.iload 5, 2) := by decide +kernel
theorem dL_law_486 : decode cL_law 486 = .ok (.ifCond .ne 15, 3) := by decide +kernel
theorem dL_law_489 : decode cL_law 489 = .ok (.aload_n 3, 1) := by decide +kernel
theorem dL_law_490 : decode cL_law 490 = .ok (.iconst 0, 1) := by decide +kernel
theorem dL_law_491 : decode cL_law 491 = .ok (.laload, 1) := by decide +kernel
theorem dL_law_492 : decode cL_law 492 = .ok (.iload 6, 2) := by decide +kernel
theorem dL_law_494 : decode cL_law 494 = .ok (.i2l, 1) := by decide +kernel
theorem dL_law_495 : decode cL_law 495 = .ok (.lcmp, 1) := by decide +kernel
theorem dL_law_496 : decode cL_law 496 = .ok (.ifCond .eq 5, 3) := by decide +kernel
theorem dL_law_499 : decode cL_law 499 = .ok (.iconst 0, 1) := by decide +kernel
theorem dL_law_500 : decode cL_law 500 = .ok (.ireturn, 1) := by decide +kernel
theorem dL_law_501 : decode cL_law 501 = .ok (.goto 1069, 3) := by decide +kernel
theorem dL_law_504 : decode cL_law 504 = .ok (.aload_n 1, 1) := by decide +kernel
theorem dL_law_505 : decode cL_law 505 = .ok (.aload_n 0, 1) := by decide +kernel
theorem dL_law_506 : decode cL_law 506 = .ok (.iload 4, 2) := by decide +kernel
theorem dL_law_508 : decode cL_law 508 = .ok (.iconst 1, 1) := by decide +kernel
theorem dL_law_509 : decode cL_law 509 = .ok (.iadd, 1) := by decide +kernel
theorem dL_law_510 : decode cL_law 510 = .ok (.iaload, 1) := by decide +kernel
theorem dL_law_511 : decode cL_law 511 = .ok (.aload_n 0, 1) := by decide +kernel
theorem dL_law_512 : decode cL_law 512 = .ok (.iload 4, 2) := by decide +kernel
theorem dL_law_514 : decode cL_law 514 = .ok (.iconst 2, 1) := by decide +kernel
theorem dL_law_515 : decode cL_law 515 = .ok (.iadd, 1) := by decide +kernel
theorem dL_law_516 : decode cL_law 516 = .ok (.iaload, 1) := by decide +kernel
theorem dL_law_517 : decode cL_law 517 = .ok (.aload_n 3, 1) := by decide +kernel
theorem dL_law_518 : decode cL_law 518 = .ok (.invokestatic 107, 3) := by decide +kernel
theorem dL_law_521 : decode cL_law 521 = .ok (.istore 5, 2) := by decide +kernel
theorem dL_law_523 : decode cL_law 523 = .ok (.aload_n 2, 1) := by decide +kernel
theorem dL_law_524 : decode cL_law 524 = .ok (.aload_n 0, 1) := by decide +kernel
theorem dL_law_525 : decode cL_law 525 = .ok (.iload 4, 2) := by decide +kernel
theorem dL_law_527 : decode cL_law 527 = .ok (.iconst 1, 1) := by decide +kernel
theorem dL_law_528 : decode cL_law 528 = .ok (.iadd, 1) := by decide +kernel
theorem dL_law_529 : decode cL_law 529 = .ok (.iaload, 1) := by decide +kernel
theorem dL_law_530 : decode cL_law 530 = .ok (.aload_n 0, 1) := by decide +kernel
theorem dL_law_531 : decode cL_law 531 = .ok (.iload 4, 2) := by decide +kernel
theorem dL_law_533 : decode cL_law 533 = .ok (.iconst 2, 1) := by decide +kernel
theorem dL_law_534 : decode cL_law 534 = .ok (.iadd, 1) := by decide +kernel
theorem dL_law_535 : decode cL_law 535 = .ok (.iaload, 1) := by decide +kernel
theorem dL_law_536 : decode cL_law 536 = .ok (.invokevirtual 109, 3) := by decide +kernel
theorem dL_law_539 : decode cL_law 539 = .ok (.istore 6, 2) := by decide +kernel
theorem dL_law_541 : decode cL_law 541 = .ok (.aload_n 2, 1) := by decide +kernel
theorem dL_law_542 : decode cL_law 542 = .ok (.invokevirtual 91, 3) := by decide +kernel
theorem dL_law_545 : decode cL_law 545 = .ok (.iload 5, 2) := by decide +kernel
theorem dL_law_547 : decode cL_law 547 = .ok (.if_icmp .eq 5, 3) := by decide +kernel
theorem dL_law_550 : decode cL_law 550 = .ok (.iconst 0, 1) := by decide +kernel
theorem dL_law_551 : decode cL_law 551 = .ok (.ireturn, 1) := by decide +kernel
theorem dL_law_552 : decode cL_law 552 = .ok (.iload 5, 2) := by decide +kernel
theorem dL_law_554 : decode cL_law 554 = .ok (.ifCond .ne 15, 3) := by decide +kernel
theorem dL_law_557 : decode cL_law 557 = .ok (.aload_n 3, 1) := by decide +kernel
theorem dL_law_558 : decode cL_law 558 = .ok (.iconst 0, 1) := by decide +kernel
theorem dL_law_559 : decode cL_law 559 = .ok (.laload, 1) := by decide +kernel
theorem dL_law_560 : decode cL_law 560 = .ok (.iload 6, 2) := by decide +kernel
theorem dL_law_562 : decode cL_law 562 = .ok (.i2l, 1) := by decide +kernel
theorem dL_law_563 : decode cL_law 563 = .ok (.lcmp, 1) := by decide +kernel
theorem dL_law_564 : decode cL_law 564 = .ok (.ifCond .eq 5, 3) := by decide +kernel
theorem dL_law_567 : decode cL_law 567 = .ok (.iconst 0, 1) := by decide +kernel
theorem dL_law_568 : decode cL_law 568 = .ok (.ireturn, 1) := by decide +kernel
theorem dL_law_569 : decode cL_law 569 = .ok (.goto 1001, 3) := by decide +kernel
theorem dL_law_572 : decode cL_law 572 = .ok (.aload_n 1, 1) := by decide +kernel
theorem dL_law_573 : decode cL_law 573 = .ok (.aload_n 0, 1) := by decide +kernel
theorem dL_law_574 : decode cL_law 574 = .ok (.iload 4, 2) := by decide +kernel
theorem dL_law_576 : decode cL_law 576 = .ok (.iconst 1, 1) := by decide +kernel
theorem dL_law_577 : decode cL_law 577 = .ok (.iadd, 1) := by decide +kernel
theorem dL_law_578 : decode cL_law 578 = .ok (.iaload, 1) := by decide +kernel
theorem dL_law_579 : decode cL_law 579 = .ok (.aload_n 0, 1) := by decide +kernel
theorem dL_law_580 : decode cL_law 580 = .ok (.iload 4, 2) := by decide +kernel
theorem dL_law_582 : decode cL_law 582 = .ok (.iconst 2, 1) := by decide +kernel
theorem dL_law_583 : decode cL_law 583 = .ok (.iadd, 1) := by decide +kernel
theorem dL_law_584 : decode cL_law 584 = .ok (.iaload, 1) := by decide +kernel
theorem dL_law_585 : decode cL_law 585 = .ok (.aload_n 3, 1) := by decide +kernel
theorem dL_law_586 : decode cL_law 586 = .ok (.invokestatic 110, 3) := by decide +kernel
theorem dL_law_589 : decode cL_law 589 = .ok (.istore 5, 2) := by decide +kernel
theorem dL_law_591 : decode cL_law 591 = .ok (.aload_n 2, 1) := by decide +kernel
theorem dL_law_592 : decode cL_law 592 = .ok (.aload_n 0, 1) := by decide +kernel
theorem dL_law_593 : decode cL_law 593 = .ok (.iload 4, 2) := by decide +kernel
theorem dL_law_595 : decode cL_law 595 = .ok (.iconst 1, 1) := by decide +kernel
theorem dL_law_596 : decode cL_law 596 = .ok (.iadd, 1) := by decide +kernel
theorem dL_law_597 : decode cL_law 597 = .ok (.iaload, 1) := by decide +kernel
theorem dL_law_598 : decode cL_law 598 = .ok (.aload_n 0, 1) := by decide +kernel
theorem dL_law_599 : decode cL_law 599 = .ok (.iload 4, 2) := by decide +kernel
theorem dL_law_601 : decode cL_law 601 = .ok (.iconst 2, 1) := by decide +kernel
end
section
theorem dL_law_602 : decode cL_law 602 = .ok (.iadd, 1) := by decide +kernel
theorem dL_law_603 : decode cL_law 603 = .ok (.iaload, 1) := by decide +kernel
theorem dL_law_604 : decode cL_law 604 = .ok (.invokevirtual 112, 3) := by decide +kernel
theorem dL_law_607 : decode cL_law 607 = .ok (.istore 6, 2) := by decide +kernel
theorem dL_law_609 : decode cL_law 609 = .ok (.aload_n 2, 1) := by decide +kernel
theorem dL_law_610 : decode cL_law 610 = .ok (.invokevirtual 91, 3) := by decide +kernel
theorem dL_law_613 : decode cL_law 613 = .ok (.iload 5, 2) := by decide +kernel
theorem dL_law_615 : decode cL_law 615 = .ok (.if_icmp .eq 5, 3) := by decide +kernel
theorem dL_law_618 : decode cL_law 618 = .ok (.iconst 0, 1) := by decide +kernel
theorem dL_law_619 : decode cL_law 619 = .ok (.ireturn, 1) := by decide +kernel
theorem dL_law_620 : decode cL_law 620 = .ok (.iload 5, 2) := by decide +kernel
theorem dL_law_622 : decode cL_law 622 = .ok (.ifCond .ne 15, 3) := by decide +kernel
theorem dL_law_625 : decode cL_law 625 = .ok (.aload_n 3, 1) := by decide +kernel
theorem dL_law_626 : decode cL_law 626 = .ok (.iconst 0, 1) := by decide +kernel
theorem dL_law_627 : decode cL_law 627 = .ok (.laload, 1) := by decide +kernel
theorem dL_law_628 : decode cL_law 628 = .ok (.iload 6, 2) := by decide +kernel
theorem dL_law_630 : decode cL_law 630 = .ok (.i2l, 1) := by decide +kernel
theorem dL_law_631 : decode cL_law 631 = .ok (.lcmp, 1) := by decide +kernel
theorem dL_law_632 : decode cL_law 632 = .ok (.ifCond .eq 5, 3) := by decide +kernel
theorem dL_law_635 : decode cL_law 635 = .ok (.iconst 0, 1) := by decide +kernel
theorem dL_law_636 : decode cL_law 636 = .ok (.ireturn, 1) := by decide +kernel
theorem dL_law_637 : decode cL_law 637 = .ok (.goto 933, 3) := by decide +kernel
theorem dL_law_640 : decode cL_law 640 = .ok (.aload_n 1, 1) := by decide +kernel
theorem dL_law_641 : decode cL_law 641 = .ok (.aload_n 0, 1) := by decide +kernel
theorem dL_law_642 : decode cL_law 642 = .ok (.iload 4, 2) := by decide +kernel
theorem dL_law_644 : decode cL_law 644 = .ok (.iconst 1, 1) := by decide +kernel
theorem dL_law_645 : decode cL_law 645 = .ok (.iadd, 1) := by decide +kernel
theorem dL_law_646 : decode cL_law 646 = .ok (.iaload, 1) := by decide +kernel
theorem dL_law_647 : decode cL_law 647 = .ok (.aload_n 3, 1) := by decide +kernel
theorem dL_law_648 : decode cL_law 648 = .ok (.invokestatic 113, 3) := by decide +kernel
theorem dL_law_651 : decode cL_law 651 = .ok (.istore 5, 2) := by decide +kernel
theorem dL_law_653 : decode cL_law 653 = .ok (.aload_n 2, 1) := by decide +kernel
theorem dL_law_654 : decode cL_law 654 = .ok (.aload_n 0, 1) := by decide +kernel
theorem dL_law_655 : decode cL_law 655 = .ok (.iload 4, 2) := by decide +kernel
theorem dL_law_657 : decode cL_law 657 = .ok (.iconst 1, 1) := by decide +kernel
theorem dL_law_658 : decode cL_law 658 = .ok (.iadd, 1) := by decide +kernel
theorem dL_law_659 : decode cL_law 659 = .ok (.iaload, 1) := by decide +kernel
theorem dL_law_660 : decode cL_law 660 = .ok (.invokevirtual 115, 3) := by decide +kernel
theorem dL_law_663 : decode cL_law 663 = .ok (.istore 6, 2) := by decide +kernel
theorem dL_law_665 : decode cL_law 665 = .ok (.aload_n 2, 1) := by decide +kernel
theorem dL_law_666 : decode cL_law 666 = .ok (.invokevirtual 91, 3) := by decide +kernel
theorem dL_law_669 : decode cL_law 669 = .ok (.iload 5, 2) := by decide +kernel
theorem dL_law_671 : decode cL_law 671 = .ok (.if_icmp .eq 5, 3) := by decide +kernel
theorem dL_law_674 : decode cL_law 674 = .ok (.iconst 0, 1) := by decide +kernel
theorem dL_law_675 : decode cL_law 675 = .ok (.ireturn, 1) := by decide +kernel
theorem dL_law_676 : decode cL_law 676 = .ok (.iload 5, 2) := by decide +kernel
theorem dL_law_678 : decode cL_law 678 = .ok (.ifCond .ne 15, 3) := by decide +kernel
theorem dL_law_681 : decode cL_law 681 = .ok (.aload_n 3, 1) := by decide +kernel
theorem dL_law_682 : decode cL_law 682 = .ok (.iconst 0, 1) := by decide +kernel
theorem dL_law_683 : decode cL_law 683 = .ok (.laload, 1) := by decide +kernel
theorem dL_law_684 : decode cL_law 684 = .ok (.iload 6, 2) := by decide +kernel
theorem dL_law_686 : decode cL_law 686 = .ok (.i2l, 1) := by decide +kernel
theorem dL_law_687 : decode cL_law 687 = .ok (.lcmp, 1) := by decide +kernel
theorem dL_law_688 : decode cL_law 688 = .ok (.ifCond .eq 5, 3) := by decide +kernel
theorem dL_law_691 : decode cL_law 691 = .ok (.iconst 0, 1) := by decide +kernel
theorem dL_law_692 : decode cL_law 692 = .ok (.ireturn, 1) := by decide +kernel
theorem dL_law_693 : decode cL_law 693 = .ok (.goto 877, 3) := by decide +kernel
theorem dL_law_696 : decode cL_law 696 = .ok (.aload_n 1, 1) := by decide +kernel
theorem dL_law_697 : decode cL_law 697 = .ok (.aload_n 0, 1) := by decide +kernel
theorem dL_law_698 : decode cL_law 698 = .ok (.iload 4, 2) := by decide +kernel
theorem dL_law_700 : decode cL_law 700 = .ok (.iconst 1, 1) := by decide +kernel
theorem dL_law_701 : decode cL_law 701 = .ok (.iadd, 1) := by decide +kernel
theorem dL_law_702 : decode cL_law 702 = .ok (.iaload, 1) := by decide +kernel
theorem dL_law_703 : decode cL_law 703 = .ok (.ifCond .eq 7, 3) := by decide +kernel
theorem dL_law_706 : decode cL_law 706 = .ok (.iconst 1, 1) := by decide +kernel
theorem dL_law_707 : decode cL_law 707 = .ok (.goto 4, 3) := by decide +kernel
theorem dL_law_710 : decode cL_law 710 = .ok (.iconst 0, 1) := by decide +kernel
theorem dL_law_711 : decode cL_law 711 = .ok (.invokevirtual 116, 3) := by decide +kernel
theorem dL_law_714 : decode cL_law 714 = .ok (.aload_n 2, 1) := by decide +kernel
theorem dL_law_715 : decode cL_law 715 = .ok (.aload_n 0, 1) := by decide +kernel
theorem dL_law_716 : decode cL_law 716 = .ok (.iload 4, 2) := by decide +kernel
theorem dL_law_718 : decode cL_law 718 = .ok (.iconst 1, 1) := by decide +kernel
theorem dL_law_719 : decode cL_law 719 = .ok (.iadd, 1) := by decide +kernel
theorem dL_law_720 : decode cL_law 720 = .ok (.iaload, 1) := by decide +kernel
theorem dL_law_721 : decode cL_law 721 = .ok (.ifCond .eq 7, 3) := by decide +kernel
theorem dL_law_724 : decode cL_law 724 = .ok (.iconst 1, 1) := by decide +kernel
theorem dL_law_725 : decode cL_law 725 = .ok (.goto 4, 3) := by decide +kernel
theorem dL_law_728 : decode cL_law 728 = .ok (.iconst 0, 1) := by decide +kernel
theorem dL_law_729 : decode cL_law 729 = .ok (.invokevirtual 120, 3) := by decide +kernel
theorem dL_law_732 : decode cL_law 732 = .ok (.if_icmp .eq 838, 3) := by decide +kernel
theorem dL_law_735 : decode cL_law 735 = .ok (.iconst 0, 1) := by decide +kernel
theorem dL_law_736 : decode cL_law 736 = .ok (.ireturn, 1) := by decide +kernel
theorem dL_law_737 : decode cL_law 737 = .ok (.aload_n 1, 1) := by decide +kernel
theorem dL_law_738 : decode cL_law 738 = .ok (.invokevirtual 121, 3) := by decide +kernel
theorem dL_law_741 : decode cL_law 741 = .ok (.aload_n 2, 1) := by decide +kernel
theorem dL_law_742 : decode cL_law 742 = .ok (.invokevirtual 124, 3) := by decide +kernel
theorem dL_law_745 : decode cL_law 745 = .ok (.if_icmp .eq 825, 3) := by decide +kernel
theorem dL_law_748 : decode cL_law 748 = .ok (.iconst 0, 1) := by decide +kernel
theorem dL_law_749 : decode cL_law 749 = .ok (.ireturn, 1) := by decide +kernel
theorem dL_law_750 : decode cL_law 750 = .ok (.aload_n 1, 1) := by decide +kernel
theorem dL_law_751 : decode cL_law 751 = .ok (.invokevirtual 125, 3) := by decide +kernel
theorem dL_law_754 : decode cL_law 754 = .ok (.aload_n 2, 1) := by decide +kernel
theorem dL_law_755 : decode cL_law 755 = .ok (.invokevirtual 128, 3) := by decide +kernel
theorem dL_law_758 : decode cL_law 758 = .ok (.if_icmp .eq 812, 3) := by decide +kernel
theorem dL_law_761 : decode cL_law 761 = .ok (.iconst 0, 1) := by decide +kernel
theorem dL_law_762 : decode cL_law 762 = .ok (.ireturn, 1) := by decide +kernel
theorem dL_law_763 : decode cL_law 763 = .ok (.aload_n 1, 1) := by decide +kernel
theorem dL_law_764 : decode cL_law 764 = .ok (.invokevirtual 129, 3) := by decide +kernel
theorem dL_law_767 : decode cL_law 767 = .ok (.aload_n 2, 1) := by decide +kernel
theorem dL_law_768 : decode cL_law 768 = .ok (.invokevirtual 132, 3) := by decide +kernel
theorem dL_law_771 : decode cL_law 771 = .ok (.if_icmp .eq 799, 3) := by decide +kernel
theorem dL_law_774 : decode cL_law 774 = .ok (.iconst 0, 1) := by decide +kernel
theorem dL_law_775 : decode cL_law 775 = .ok (.ireturn, 1) := by decide +kernel
theorem dL_law_776 : decode cL_law 776 = .ok (.aload_n 1, 1) := by decide +kernel
theorem dL_law_777 : decode cL_law 777 = .ok (.aload_n 3, 1) := by decide +kernel
theorem dL_law_778 : decode cL_law 778 = .ok (.invokestatic 133, 3) := by decide +kernel
theorem dL_law_781 : decode cL_law 781 = .ok (.istore 5, 2) := by decide +kernel
theorem dL_law_783 : decode cL_law 783 = .ok (.aload_n 2, 1) := by decide +kernel
theorem dL_law_784 : decode cL_law 784 = .ok (.invokevirtual 136, 3) := by decide +kernel
theorem dL_law_787 : decode cL_law 787 = .ok (.istore 6, 2) := by decide +kernel
theorem dL_law_789 : decode cL_law 789 = .ok (.aload_n 2, 1) := by decide +kernel
theorem dL_law_790 : decode cL_law 790 = .ok (.invokevirtual 91, 3) := by decide +kernel
theorem dL_law_793 : decode cL_law 793 = .ok (.iload 5, 2) := by decide +kernel
theorem dL_law_795 : decode cL_law 795 = .ok (.if_icmp .eq 5, 3) := by decide +kernel
theorem dL_law_798 : decode cL_law 798 = .ok (.iconst 0, 1) := by decide +kernel
theorem dL_law_799 : decode cL_law 799 = .ok (.ireturn, 1) := by decide +kernel
theorem dL_law_800 : decode cL_law 800 = .ok (.iload 5, 2) := by decide +kernel
theorem dL_law_802 : decode cL_law 802 = .ok (.ifCond .ne 15, 3) := by decide +kernel
theorem dL_law_805 : decode cL_law 805 = .ok (.aload_n 3, 1) := by decide +kernel
theorem dL_law_806 : decode cL_law 806 = .ok (.iconst 0, 1) := by decide +kernel
theorem dL_law_807 : decode cL_law 807 = .ok (.laload, 1) := by decide +kernel
theorem dL_law_808 : decode cL_law 808 = .ok (.iload 6, 2) := by decide +kernel
theorem dL_law_810 : decode cL_law 810 = .ok (.i2l, 1) := by decide +kernel
theorem dL_law_811 : decode cL_law 811 = .ok (.lcmp, 1) := by decide +kernel
theorem dL_law_812 : decode cL_law 812 = .ok (.ifCond .eq 5, 3) := by decide +kernel
theorem dL_law_815 : decode cL_law 815 = .ok (.iconst 0, 1) := by decide +kernel
theorem dL_law_816 : decode cL_law 816 = .ok (.ireturn, 1) := by decide +kernel
theorem dL_law_817 : decode cL_law 817 = .ok (.goto 753, 3) := by decide +kernel
theorem dL_law_820 : decode cL_law 820 = .ok (.aload_n 1, 1) := by decide +kernel
theorem dL_law_821 : decode cL_law 821 = .ok (.invokevirtual 137, 3) := by decide +kernel
theorem dL_law_824 : decode cL_law 824 = .ok (.aload_n 2, 1) := by decide +kernel
theorem dL_law_825 : decode cL_law 825 = .ok (.invokevirtual 140, 3) := by decide +kernel
theorem dL_law_828 : decode cL_law 828 = .ok (.if_icmp .eq 742, 3) := by decide +kernel
theorem dL_law_831 : decode cL_law 831 = .ok (.iconst 0, 1) := by decide +kernel
theorem dL_law_832 : decode cL_law 832 = .ok (.ireturn, 1) := by decide +kernel
theorem dL_law_833 : decode cL_law 833 = .ok (.aload_n 1, 1) := by decide +kernel
theorem dL_law_834 : decode cL_law 834 = .ok (.aload_n 0, 1) := by decide +kernel
theorem dL_law_835 : decode cL_law 835 = .ok (.iload 4, 2) := by decide +kernel
theorem dL_law_837 : decode cL_law 837 = .ok (.iconst 1, 1) := by decide +kernel
theorem dL_law_838 : decode cL_law 838 = .ok (.iadd, 1) := by decide +kernel
theorem dL_law_839 : decode cL_law 839 = .ok (.iaload, 1) := by decide +kernel
theorem dL_law_840 : decode cL_law 840 = .ok (.aload_n 3, 1) := by decide +kernel
theorem dL_law_841 : decode cL_law 841 = .ok (.invokestatic 141, 3) := by decide +kernel
theorem dL_law_844 : decode cL_law 844 = .ok (.istore 5, 2) := by decide +kernel
theorem dL_law_846 : decode cL_law 846 = .ok (.aload_n 2, 1) := by decide +kernel
theorem dL_law_847 : decode cL_law 847 = .ok (.aload_n 0, 1) := by decide +kernel
theorem dL_law_848 : decode cL_law 848 = .ok (.iload 4, 2) := by decide +kernel
theorem dL_law_850 : decode cL_law 850 = .ok (.iconst 1, 1) := by decide +kernel
theorem dL_law_851 : decode cL_law 851 = .ok (.iadd, 1) := by decide +kernel
theorem dL_law_852 : decode cL_law 852 = .ok (.iaload, 1) := by decide +kernel
theorem dL_law_853 : decode cL_law 853 = .ok (.invokevirtual 143, 3) := by decide +kernel
theorem dL_law_856 : decode cL_law 856 = .ok (.istore 6, 2) := by decide +kernel
theorem dL_law_858 : decode cL_law 858 = .ok (.aload_n 2, 1) := by decide +kernel
theorem dL_law_859 : decode cL_law 859 = .ok (.invokevirtual 91, 3) := by decide +kernel
theorem dL_law_862 : decode cL_law 862 = .ok (.iload 5, 2) := by decide +kernel
theorem dL_law_864 : decode cL_law 864 = .ok (.if_icmp .eq 5, 3) := by decide +kernel
theorem dL_law_867 : decode cL_law 867 = .ok (.iconst 0, 1) := by decide +kernel
theorem dL_law_868 : decode cL_law 868 = .ok (.ireturn, 1) := by decide +kernel
theorem dL_law_869 : decode cL_law 869 = .ok (.iload 5, 2) := by decide +kernel
theorem dL_law_871 : decode cL_law 871 = .ok (.ifCond .ne 15, 3) := by decide +kernel
theorem dL_law_874 : decode cL_law 874 = .ok (.aload_n 3, 1) := by decide +kernel
theorem dL_law_875 : decode cL_law 875 = .ok (.iconst 0, 1) := by decide +kernel
theorem dL_law_876 : decode cL_law 876 = .ok (.laload, 1) := by decide +kernel
theorem dL_law_877 : decode cL_law 877 = .ok (.iload 6, 2) := by decide +kernel
theorem dL_law_879 : decode cL_law 879 = .ok (.i2l, 1) := by decide +kernel
theorem dL_law_880 : decode cL_law 880 = .ok (.lcmp, 1) := by decide +kernel
theorem dL_law_881 : decode cL_law 881 = .ok (.ifCond .eq 5, 3) := by decide +kernel
theorem dL_law_884 : decode cL_law 884 = .ok (.iconst 0, 1) := by decide +kernel
theorem dL_law_885 : decode cL_law 885 = .ok (.ireturn, 1) := by decide +kernel
theorem dL_law_886 : decode cL_law 886 = .ok (.goto 684, 3) := by decide +kernel
theorem dL_law_889 : decode cL_law 889 = .ok (.aload_n 1, 1) := by decide +kernel
theorem dL_law_890 : decode cL_law 890 = .ok (.aload_n 0, 1) := by decide +kernel
theorem dL_law_891 : decode cL_law 891 = .ok (.iload 4, 2) := by decide +kernel
theorem dL_law_893 : decode cL_law 893 = .ok (.iconst 1, 1) := by decide +kernel
theorem dL_law_894 : decode cL_law 894 = .ok (.iadd, 1) := by decide +kernel
theorem dL_law_895 : decode cL_law 895 = .ok (.iaload, 1) := by decide +kernel
theorem dL_law_896 : decode cL_law 896 = .ok (.aload_n 3, 1) := by decide +kernel
theorem dL_law_897 : decode cL_law 897 = .ok (.invokestatic 144, 3) := by decide +kernel
theorem dL_law_900 : decode cL_law 900 = .ok (.istore 5, 2) := by decide +kernel
theorem dL_law_902 : decode cL_law 902 = .ok (.aload_n 2, 1) := by decide +kernel
theorem dL_law_903 : decode cL_law 903 = .ok (.aload_n 0, 1) := by decide +kernel
theorem dL_law_904 : decode cL_law 904 = .ok (.iload 4, 2) := by decide +kernel
theorem dL_law_906 : decode cL_law 906 = .ok (.iconst 1, 1) := by decide +kernel
theorem dL_law_907 : decode cL_law 907 = .ok (.iadd, 1) := by decide +kernel
theorem dL_law_908 : decode cL_law 908 = .ok (.iaload, 1) := by decide +kernel
theorem dL_law_909 : decode cL_law 909 = .ok (.invokevirtual 146, 3) := by decide +kernel
theorem dL_law_912 : decode cL_law 912 = .ok (.istore 6, 2) := by decide +kernel
theorem dL_law_914 : decode cL_law 914 = .ok (.aload_n 2, 1) := by decide +kernel
theorem dL_law_915 : decode cL_law 915 = .ok (.invokevirtual 91, 3) := by decide +kernel
theorem dL_law_918 : decode cL_law 918 = .ok (.iload 5, 2) := by decide +kernel
theorem dL_law_920 : decode cL_law 920 = .ok (.if_icmp .eq 5, 3) := by decide +kernel
theorem dL_law_923 : decode cL_law 923 = .ok (.iconst 0, 1) := by decide +kernel
theorem dL_law_924 : decode cL_law 924 = .ok (.ireturn, 1) := by decide +kernel
theorem dL_law_925 : decode cL_law 925 = .ok (.iload 5, 2) := by decide +kernel
theorem dL_law_927 : decode cL_law 927 = .ok (.ifCond .ne 15, 3) := by decide +kernel
theorem dL_law_930 : decode cL_law 930 = .ok (.aload_n 3, 1) := by decide +kernel
theorem dL_law_931 : decode cL_law 931 = .ok (.iconst 0, 1) := by decide +kernel
theorem dL_law_932 : decode cL_law 932 = .ok (.laload, 1) := by decide +kernel
theorem dL_law_933 : decode cL_law 933 = .ok (.iload 6, 2) := by decide +kernel
theorem dL_law_935 : decode cL_law 935 = .ok (.i2l, 1) := by decide +kernel
theorem dL_law_936 : decode cL_law 936 = .ok (.lcmp, 1) := by decide +kernel
theorem dL_law_937 : decode cL_law 937 = .ok (.ifCond .eq 5, 3) := by decide +kernel
theorem dL_law_940 : decode cL_law 940 = .ok (.iconst 0, 1) := by decide +kernel
theorem dL_law_941 : decode cL_law 941 = .ok (.ireturn, 1) := by decide +kernel
theorem dL_law_942 : decode cL_law 942 = .ok (.goto 628, 3) := by decide +kernel
theorem dL_law_945 : decode cL_law 945 = .ok (.aload_n 1, 1) := by decide +kernel
theorem dL_law_946 : decode cL_law 946 = .ok (.invokevirtual 147, 3) := by decide +kernel
theorem dL_law_949 : decode cL_law 949 = .ok (.aload_n 2, 1) := by decide +kernel
theorem dL_law_950 : decode cL_law 950 = .ok (.invokevirtual 150, 3) := by decide +kernel
theorem dL_law_953 : decode cL_law 953 = .ok (.if_icmp .eq 617, 3) := by decide +kernel
theorem dL_law_956 : decode cL_law 956 = .ok (.iconst 0, 1) := by decide +kernel
theorem dL_law_957 : decode cL_law 957 = .ok (.ireturn, 1) := by decide +kernel
theorem dL_law_958 : decode cL_law 958 = .ok (.aload_n 1, 1) := by decide +kernel
theorem dL_law_959 : decode cL_law 959 = .ok (.aload_n 0, 1) := by decide +kernel
theorem dL_law_960 : decode cL_law 960 = .ok (.iload 4, 2) := by decide +kernel
theorem dL_law_962 : decode cL_law 962 = .ok (.iconst 1, 1) := by decide +kernel
theorem dL_law_963 : decode cL_law 963 = .ok (.iadd, 1) := by decide +kernel
theorem dL_law_964 : decode cL_law 964 = .ok (.iaload, 1) := by decide +kernel
theorem dL_law_965 : decode cL_law 965 = .ok (.aload_n 3, 1) := by decide +kernel
theorem dL_law_966 : decode cL_law 966 = .ok (.invokestatic 151, 3) := by decide +kernel
theorem dL_law_969 : decode cL_law 969 = .ok (.istore 5, 2) := by decide +kernel
theorem dL_law_971 : decode cL_law 971 = .ok (.aload_n 2, 1) := by decide +kernel
theorem dL_law_972 : decode cL_law 972 = .ok (.aload_n 0, 1) := by decide +kernel
theorem dL_law_973 : decode cL_law 973 = .ok (.iload 4, 2) := by decide +kernel
theorem dL_law_975 : decode cL_law 975 = .ok (.iconst 1, 1) := by decide +kernel
theorem dL_law_976 : decode cL_law 976 = .ok (.iadd, 1) := by decide +kernel
theorem dL_law_977 : decode cL_law 977 = .ok (.iaload, 1) := by decide +kernel
theorem dL_law_978 : decode cL_law 978 = .ok (.invokevirtual 153, 3) := by decide +kernel
theorem dL_law_981 : decode cL_law 981 = .ok (.istore 6, 2) := by decide +kernel
theorem dL_law_983 : decode cL_law 983 = .ok (.aload_n 2, 1) := by decide +kernel
theorem dL_law_984 : decode cL_law 984 = .ok (.invokevirtual 91, 3) := by decide +kernel
theorem dL_law_987 : decode cL_law 987 = .ok (.iload 5, 2) := by decide +kernel
theorem dL_law_989 : decode cL_law 989 = .ok (.if_icmp .eq 5, 3) := by decide +kernel
theorem dL_law_992 : decode cL_law 992 = .ok (.iconst 0, 1) := by decide +kernel
theorem dL_law_993 : decode cL_law 993 = .ok (.ireturn, 1) := by decide +kernel
theorem dL_law_994 : decode cL_law 994 = .ok (.iload 5, 2) := by decide +kernel
theorem dL_law_996 : decode cL_law 996 = .ok (.ifCond .ne 15, 3) := by decide +kernel
theorem dL_law_999 : decode cL_law 999 = .ok (.aload_n 3, 1) := by decide +kernel
theorem dL_law_1000 : decode cL_law 1000 = .ok (.iconst 0, 1) := by decide +kernel
theorem dL_law_1001 : decode cL_law 1001 = .ok (.laload, 1) := by decide +kernel
theorem dL_law_1002 : decode cL_law 1002 = .ok (.iload 6, 2) := by decide +kernel
theorem dL_law_1004 : decode cL_law 1004 = .ok (.i2l, 1) := by decide +kernel
theorem dL_law_1005 : decode cL_law 1005 = .ok (.lcmp, 1) := by decide +kernel
theorem dL_law_1006 : decode cL_law 1006 = .ok (.ifCond .eq 5, 3) := by decide +kernel
theorem dL_law_1009 : decode cL_law 1009 = .ok (.iconst 0, 1) := by decide +kernel
theorem dL_law_1010 : decode cL_law 1010 = .ok (.ireturn, 1) := by decide +kernel
theorem dL_law_1011 : decode cL_law 1011 = .ok (.goto 559, 3) := by decide +kernel
theorem dL_law_1014 : decode cL_law 1014 = .ok (.aload_n 1, 1) := by decide +kernel
theorem dL_law_1015 : decode cL_law 1015 = .ok (.aload_n 0, 1) := by decide +kernel
theorem dL_law_1016 : decode cL_law 1016 = .ok (.iload 4, 2) := by decide +kernel
theorem dL_law_1018 : decode cL_law 1018 = .ok (.iconst 1, 1) := by decide +kernel
theorem dL_law_1019 : decode cL_law 1019 = .ok (.iadd, 1) := by decide +kernel
theorem dL_law_1020 : decode cL_law 1020 = .ok (.iaload, 1) := by decide +kernel
theorem dL_law_1021 : decode cL_law 1021 = .ok (.aload_n 3, 1) := by decide +kernel
theorem dL_law_1022 : decode cL_law 1022 = .ok (.invokestatic 154, 3) := by decide +kernel
theorem dL_law_1025 : decode cL_law 1025 = .ok (.istore 5, 2) := by decide +kernel
theorem dL_law_1027 : decode cL_law 1027 = .ok (.aload_n 2, 1) := by decide +kernel
theorem dL_law_1028 : decode cL_law 1028 = .ok (.aload_n 0, 1) := by decide +kernel
theorem dL_law_1029 : decode cL_law 1029 = .ok (.iload 4, 2) := by decide +kernel
theorem dL_law_1031 : decode cL_law 1031 = .ok (.iconst 1, 1) := by decide +kernel
theorem dL_law_1032 : decode cL_law 1032 = .ok (.iadd, 1) := by decide +kernel
theorem dL_law_1033 : decode cL_law 1033 = .ok (.iaload, 1) := by decide +kernel
theorem dL_law_1034 : decode cL_law 1034 = .ok (.invokevirtual 156, 3) := by decide +kernel
theorem dL_law_1037 : decode cL_law 1037 = .ok (.istore 6, 2) := by decide +kernel
theorem dL_law_1039 : decode cL_law 1039 = .ok (.aload_n 2, 1) := by decide +kernel
theorem dL_law_1040 : decode cL_law 1040 = .ok (.invokevirtual 91, 3) := by decide +kernel
theorem dL_law_1043 : decode cL_law 1043 = .ok (.iload 5, 2) := by decide +kernel
theorem dL_law_1045 : decode cL_law 1045 = .ok (.if_icmp .eq 5, 3) := by decide +kernel
theorem dL_law_1048 : decode cL_law 1048 = .ok (.iconst 0, 1) := by decide +kernel
theorem dL_law_1049 : decode cL_law 1049 = .ok (.ireturn, 1) := by decide +kernel
theorem dL_law_1050 : decode cL_law 1050 = .ok (.iload 5, 2) := by decide +kernel
theorem dL_law_1052 : decode cL_law 1052 = .ok (.ifCond .ne 15, 3) := by decide +kernel
theorem dL_law_1055 : decode cL_law 1055 = .ok (.aload_n 3, 1) := by decide +kernel
theorem dL_law_1056 : decode cL_law 1056 = .ok (.iconst 0, 1) := by decide +kernel
theorem dL_law_1057 : decode cL_law 1057 = .ok (.laload, 1) := by decide +kernel
theorem dL_law_1058 : decode cL_law 1058 = .ok (.iload 6, 2) := by decide +kernel
theorem dL_law_1060 : decode cL_law 1060 = .ok (.i2l, 1) := by decide +kernel
theorem dL_law_1061 : decode cL_law 1061 = .ok (.lcmp, 1) := by decide +kernel
theorem dL_law_1062 : decode cL_law 1062 = .ok (.ifCond .eq 5, 3) := by decide +kernel
theorem dL_law_1065 : decode cL_law 1065 = .ok (.iconst 0, 1) := by decide +kernel
theorem dL_law_1066 : decode cL_law 1066 = .ok (.ireturn, 1) := by decide +kernel
theorem dL_law_1067 : decode cL_law 1067 = .ok (.goto 503, 3) := by decide +kernel
theorem dL_law_1070 : decode cL_law 1070 = .ok (.aload_n 1, 1) := by decide +kernel
theorem dL_law_1071 : decode cL_law 1071 = .ok (.aload_n 0, 1) := by decide +kernel
theorem dL_law_1072 : decode cL_law 1072 = .ok (.iload 4, 2) := by decide +kernel
theorem dL_law_1074 : decode cL_law 1074 = .ok (.iconst 1, 1) := by decide +kernel
theorem dL_law_1075 : decode cL_law 1075 = .ok (.iadd, 1) := by decide +kernel
theorem dL_law_1076 : decode cL_law 1076 = .ok (.iaload, 1) := by decide +kernel
theorem dL_law_1077 : decode cL_law 1077 = .ok (.aload_n 3, 1) := by decide +kernel
theorem dL_law_1078 : decode cL_law 1078 = .ok (.invokestatic 157, 3) := by decide +kernel
theorem dL_law_1081 : decode cL_law 1081 = .ok (.istore 5, 2) := by decide +kernel
theorem dL_law_1083 : decode cL_law 1083 = .ok (.aload_n 2, 1) := by decide +kernel
theorem dL_law_1084 : decode cL_law 1084 = .ok (.aload_n 0, 1) := by decide +kernel
theorem dL_law_1085 : decode cL_law 1085 = .ok (.iload 4, 2) := by decide +kernel
theorem dL_law_1087 : decode cL_law 1087 = .ok (.iconst 1, 1) := by decide +kernel
theorem dL_law_1088 : decode cL_law 1088 = .ok (.iadd, 1) := by decide +kernel
theorem dL_law_1089 : decode cL_law 1089 = .ok (.iaload, 1) := by decide +kernel
theorem dL_law_1090 : decode cL_law 1090 = .ok (.invokevirtual 159, 3) := by decide +kernel
theorem dL_law_1093 : decode cL_law 1093 = .ok (.istore 6, 2) := by decide +kernel
theorem dL_law_1095 : decode cL_law 1095 = .ok (.aload_n 2, 1) := by decide +kernel
end
section
theorem dL_law_1096 : decode cL_law 1096 = .ok (.invokevirtual 91, 3) := by decide +kernel
theorem dL_law_1099 : decode cL_law 1099 = .ok (.iload 5, 2) := by decide +kernel
theorem dL_law_1101 : decode cL_law 1101 = .ok (.if_icmp .eq 5, 3) := by decide +kernel
theorem dL_law_1104 : decode cL_law 1104 = .ok (.iconst 0, 1) := by decide +kernel
theorem dL_law_1105 : decode cL_law 1105 = .ok (.ireturn, 1) := by decide +kernel
theorem dL_law_1106 : decode cL_law 1106 = .ok (.iload 5, 2) := by decide +kernel
theorem dL_law_1108 : decode cL_law 1108 = .ok (.ifCond .ne 15, 3) := by decide +kernel
theorem dL_law_1111 : decode cL_law 1111 = .ok (.aload_n 3, 1) := by decide +kernel
theorem dL_law_1112 : decode cL_law 1112 = .ok (.iconst 0, 1) := by decide +kernel
theorem dL_law_1113 : decode cL_law 1113 = .ok (.laload, 1) := by decide +kernel
theorem dL_law_1114 : decode cL_law 1114 = .ok (.iload 6, 2) := by decide +kernel
theorem dL_law_1116 : decode cL_law 1116 = .ok (.i2l, 1) := by decide +kernel
theorem dL_law_1117 : decode cL_law 1117 = .ok (.lcmp, 1) := by decide +kernel
theorem dL_law_1118 : decode cL_law 1118 = .ok (.ifCond .eq 5, 3) := by decide +kernel
theorem dL_law_1121 : decode cL_law 1121 = .ok (.iconst 0, 1) := by decide +kernel
theorem dL_law_1122 : decode cL_law 1122 = .ok (.ireturn, 1) := by decide +kernel
theorem dL_law_1123 : decode cL_law 1123 = .ok (.goto 447, 3) := by decide +kernel
theorem dL_law_1126 : decode cL_law 1126 = .ok (.aload_n 1, 1) := by decide +kernel
theorem dL_law_1127 : decode cL_law 1127 = .ok (.aload_n 0, 1) := by decide +kernel
theorem dL_law_1128 : decode cL_law 1128 = .ok (.iload 4, 2) := by decide +kernel
theorem dL_law_1130 : decode cL_law 1130 = .ok (.iconst 1, 1) := by decide +kernel
theorem dL_law_1131 : decode cL_law 1131 = .ok (.iadd, 1) := by decide +kernel
theorem dL_law_1132 : decode cL_law 1132 = .ok (.iaload, 1) := by decide +kernel
theorem dL_law_1133 : decode cL_law 1133 = .ok (.aload_n 3, 1) := by decide +kernel
theorem dL_law_1134 : decode cL_law 1134 = .ok (.invokestatic 160, 3) := by decide +kernel
theorem dL_law_1137 : decode cL_law 1137 = .ok (.istore 5, 2) := by decide +kernel
theorem dL_law_1139 : decode cL_law 1139 = .ok (.aload_n 2, 1) := by decide +kernel
theorem dL_law_1140 : decode cL_law 1140 = .ok (.aload_n 0, 1) := by decide +kernel
theorem dL_law_1141 : decode cL_law 1141 = .ok (.iload 4, 2) := by decide +kernel
theorem dL_law_1143 : decode cL_law 1143 = .ok (.iconst 1, 1) := by decide +kernel
theorem dL_law_1144 : decode cL_law 1144 = .ok (.iadd, 1) := by decide +kernel
theorem dL_law_1145 : decode cL_law 1145 = .ok (.iaload, 1) := by decide +kernel
theorem dL_law_1146 : decode cL_law 1146 = .ok (.invokevirtual 162, 3) := by decide +kernel
theorem dL_law_1149 : decode cL_law 1149 = .ok (.istore 6, 2) := by decide +kernel
theorem dL_law_1151 : decode cL_law 1151 = .ok (.aload_n 2, 1) := by decide +kernel
theorem dL_law_1152 : decode cL_law 1152 = .ok (.invokevirtual 91, 3) := by decide +kernel
theorem dL_law_1155 : decode cL_law 1155 = .ok (.iload 5, 2) := by decide +kernel
theorem dL_law_1157 : decode cL_law 1157 = .ok (.if_icmp .eq 5, 3) := by decide +kernel
theorem dL_law_1160 : decode cL_law 1160 = .ok (.iconst 0, 1) := by decide +kernel
theorem dL_law_1161 : decode cL_law 1161 = .ok (.ireturn, 1) := by decide +kernel
theorem dL_law_1162 : decode cL_law 1162 = .ok (.iload 5, 2) := by decide +kernel
theorem dL_law_1164 : decode cL_law 1164 = .ok (.ifCond .ne 15, 3) := by decide +kernel
theorem dL_law_1167 : decode cL_law 1167 = .ok (.aload_n 3, 1) := by decide +kernel
theorem dL_law_1168 : decode cL_law 1168 = .ok (.iconst 0, 1) := by decide +kernel
theorem dL_law_1169 : decode cL_law 1169 = .ok (.laload, 1) := by decide +kernel
theorem dL_law_1170 : decode cL_law 1170 = .ok (.iload 6, 2) := by decide +kernel
theorem dL_law_1172 : decode cL_law 1172 = .ok (.i2l, 1) := by decide +kernel
theorem dL_law_1173 : decode cL_law 1173 = .ok (.lcmp, 1) := by decide +kernel
theorem dL_law_1174 : decode cL_law 1174 = .ok (.ifCond .eq 5, 3) := by decide +kernel
theorem dL_law_1177 : decode cL_law 1177 = .ok (.iconst 0, 1) := by decide +kernel
theorem dL_law_1178 : decode cL_law 1178 = .ok (.ireturn, 1) := by decide +kernel
theorem dL_law_1179 : decode cL_law 1179 = .ok (.goto 391, 3) := by decide +kernel
theorem dL_law_1182 : decode cL_law 1182 = .ok (.aload_n 1, 1) := by decide +kernel
theorem dL_law_1183 : decode cL_law 1183 = .ok (.invokevirtual 163, 3) := by decide +kernel
theorem dL_law_1186 : decode cL_law 1186 = .ok (.aload_n 2, 1) := by decide +kernel
theorem dL_law_1187 : decode cL_law 1187 = .ok (.invokevirtual 166, 3) := by decide +kernel
theorem dL_law_1190 : decode cL_law 1190 = .ok (.if_icmp .eq 380, 3) := by decide +kernel
theorem dL_law_1193 : decode cL_law 1193 = .ok (.iconst 0, 1) := by decide +kernel
theorem dL_law_1194 : decode cL_law 1194 = .ok (.ireturn, 1) := by decide +kernel
theorem dL_law_1195 : decode cL_law 1195 = .ok (.aload_n 1, 1) := by decide +kernel
theorem dL_law_1196 : decode cL_law 1196 = .ok (.aload_n 0, 1) := by decide +kernel
theorem dL_law_1197 : decode cL_law 1197 = .ok (.iload 4, 2) := by decide +kernel
theorem dL_law_1199 : decode cL_law 1199 = .ok (.iconst 1, 1) := by decide +kernel
theorem dL_law_1200 : decode cL_law 1200 = .ok (.iadd, 1) := by decide +kernel
theorem dL_law_1201 : decode cL_law 1201 = .ok (.iaload, 1) := by decide +kernel
theorem dL_law_1202 : decode cL_law 1202 = .ok (.aload_n 3, 1) := by decide +kernel
theorem dL_law_1203 : decode cL_law 1203 = .ok (.invokestatic 167, 3) := by decide +kernel
theorem dL_law_1206 : decode cL_law 1206 = .ok (.istore 5, 2) := by decide +kernel
theorem dL_law_1208 : decode cL_law 1208 = .ok (.aload_n 2, 1) := by decide +kernel
theorem dL_law_1209 : decode cL_law 1209 = .ok (.aload_n 0, 1) := by decide +kernel
theorem dL_law_1210 : decode cL_law 1210 = .ok (.iload 4, 2) := by decide +kernel
theorem dL_law_1212 : decode cL_law 1212 = .ok (.iconst 1, 1) := by decide +kernel
theorem dL_law_1213 : decode cL_law 1213 = .ok (.iadd, 1) := by decide +kernel
theorem dL_law_1214 : decode cL_law 1214 = .ok (.iaload, 1) := by decide +kernel
theorem dL_law_1215 : decode cL_law 1215 = .ok (.invokevirtual 169, 3) := by decide +kernel
theorem dL_law_1218 : decode cL_law 1218 = .ok (.istore 6, 2) := by decide +kernel
theorem dL_law_1220 : decode cL_law 1220 = .ok (.aload_n 2, 1) := by decide +kernel
theorem dL_law_1221 : decode cL_law 1221 = .ok (.invokevirtual 91, 3) := by decide +kernel
theorem dL_law_1224 : decode cL_law 1224 = .ok (.iload 5, 2) := by decide +kernel
theorem dL_law_1226 : decode cL_law 1226 = .ok (.if_icmp .eq 5, 3) := by decide +kernel
theorem dL_law_1229 : decode cL_law 1229 = .ok (.iconst 0, 1) := by decide +kernel
theorem dL_law_1230 : decode cL_law 1230 = .ok (.ireturn, 1) := by decide +kernel
theorem dL_law_1231 : decode cL_law 1231 = .ok (.iload 5, 2) := by decide +kernel
theorem dL_law_1233 : decode cL_law 1233 = .ok (.ifCond .ne 15, 3) := by decide +kernel
theorem dL_law_1236 : decode cL_law 1236 = .ok (.aload_n 3, 1) := by decide +kernel
theorem dL_law_1237 : decode cL_law 1237 = .ok (.iconst 0, 1) := by decide +kernel
theorem dL_law_1238 : decode cL_law 1238 = .ok (.laload, 1) := by decide +kernel
theorem dL_law_1239 : decode cL_law 1239 = .ok (.iload 6, 2) := by decide +kernel
theorem dL_law_1241 : decode cL_law 1241 = .ok (.i2l, 1) := by decide +kernel
theorem dL_law_1242 : decode cL_law 1242 = .ok (.lcmp, 1) := by decide +kernel
theorem dL_law_1243 : decode cL_law 1243 = .ok (.ifCond .eq 5, 3) := by decide +kernel
theorem dL_law_1246 : decode cL_law 1246 = .ok (.iconst 0, 1) := by decide +kernel
theorem dL_law_1247 : decode cL_law 1247 = .ok (.ireturn, 1) := by decide +kernel
theorem dL_law_1248 : decode cL_law 1248 = .ok (.goto 322, 3) := by decide +kernel
theorem dL_law_1251 : decode cL_law 1251 = .ok (.aload_n 1, 1) := by decide +kernel
theorem dL_law_1252 : decode cL_law 1252 = .ok (.aload_n 0, 1) := by decide +kernel
theorem dL_law_1253 : decode cL_law 1253 = .ok (.iload 4, 2) := by decide +kernel
theorem dL_law_1255 : decode cL_law 1255 = .ok (.iconst 1, 1) := by decide +kernel
theorem dL_law_1256 : decode cL_law 1256 = .ok (.iadd, 1) := by decide +kernel
theorem dL_law_1257 : decode cL_law 1257 = .ok (.iaload, 1) := by decide +kernel
theorem dL_law_1258 : decode cL_law 1258 = .ok (.aload_n 3, 1) := by decide +kernel
theorem dL_law_1259 : decode cL_law 1259 = .ok (.invokestatic 170, 3) := by decide +kernel
theorem dL_law_1262 : decode cL_law 1262 = .ok (.istore 5, 2) := by decide +kernel
theorem dL_law_1264 : decode cL_law 1264 = .ok (.aload_n 2, 1) := by decide +kernel
theorem dL_law_1265 : decode cL_law 1265 = .ok (.aload_n 0, 1) := by decide +kernel
theorem dL_law_1266 : decode cL_law 1266 = .ok (.iload 4, 2) := by decide +kernel
theorem dL_law_1268 : decode cL_law 1268 = .ok (.iconst 1, 1) := by decide +kernel
theorem dL_law_1269 : decode cL_law 1269 = .ok (.iadd, 1) := by decide +kernel
theorem dL_law_1270 : decode cL_law 1270 = .ok (.iaload, 1) := by decide +kernel
theorem dL_law_1271 : decode cL_law 1271 = .ok (.invokevirtual 172, 3) := by decide +kernel
theorem dL_law_1274 : decode cL_law 1274 = .ok (.istore 6, 2) := by decide +kernel
theorem dL_law_1276 : decode cL_law 1276 = .ok (.aload_n 2, 1) := by decide +kernel
theorem dL_law_1277 : decode cL_law 1277 = .ok (.invokevirtual 91, 3) := by decide +kernel
theorem dL_law_1280 : decode cL_law 1280 = .ok (.iload 5, 2) := by decide +kernel
theorem dL_law_1282 : decode cL_law 1282 = .ok (.if_icmp .eq 5, 3) := by decide +kernel
theorem dL_law_1285 : decode cL_law 1285 = .ok (.iconst 0, 1) := by decide +kernel
theorem dL_law_1286 : decode cL_law 1286 = .ok (.ireturn, 1) := by decide +kernel
theorem dL_law_1287 : decode cL_law 1287 = .ok (.iload 5, 2) := by decide +kernel
theorem dL_law_1289 : decode cL_law 1289 = .ok (.ifCond .ne 15, 3) := by decide +kernel
theorem dL_law_1292 : decode cL_law 1292 = .ok (.aload_n 3, 1) := by decide +kernel
theorem dL_law_1293 : decode cL_law 1293 = .ok (.iconst 0, 1) := by decide +kernel
theorem dL_law_1294 : decode cL_law 1294 = .ok (.laload, 1) := by decide +kernel
theorem dL_law_1295 : decode cL_law 1295 = .ok (.iload 6, 2) := by decide +kernel
theorem dL_law_1297 : decode cL_law 1297 = .ok (.i2l, 1) := by decide +kernel
theorem dL_law_1298 : decode cL_law 1298 = .ok (.lcmp, 1) := by decide +kernel
theorem dL_law_1299 : decode cL_law 1299 = .ok (.ifCond .eq 5, 3) := by decide +kernel
theorem dL_law_1302 : decode cL_law 1302 = .ok (.iconst 0, 1) := by decide +kernel
theorem dL_law_1303 : decode cL_law 1303 = .ok (.ireturn, 1) := by decide +kernel
theorem dL_law_1304 : decode cL_law 1304 = .ok (.goto 266, 3) := by decide +kernel
theorem dL_law_1307 : decode cL_law 1307 = .ok (.aload_n 1, 1) := by decide +kernel
theorem dL_law_1308 : decode cL_law 1308 = .ok (.aload_n 0, 1) := by decide +kernel
theorem dL_law_1309 : decode cL_law 1309 = .ok (.iload 4, 2) := by decide +kernel
theorem dL_law_1311 : decode cL_law 1311 = .ok (.iconst 1, 1) := by decide +kernel
theorem dL_law_1312 : decode cL_law 1312 = .ok (.iadd, 1) := by decide +kernel
theorem dL_law_1313 : decode cL_law 1313 = .ok (.iaload, 1) := by decide +kernel
theorem dL_law_1314 : decode cL_law 1314 = .ok (.aload_n 3, 1) := by decide +kernel
theorem dL_law_1315 : decode cL_law 1315 = .ok (.invokestatic 173, 3) := by decide +kernel
theorem dL_law_1318 : decode cL_law 1318 = .ok (.istore 5, 2) := by decide +kernel
theorem dL_law_1320 : decode cL_law 1320 = .ok (.aload_n 2, 1) := by decide +kernel
theorem dL_law_1321 : decode cL_law 1321 = .ok (.aload_n 0, 1) := by decide +kernel
theorem dL_law_1322 : decode cL_law 1322 = .ok (.iload 4, 2) := by decide +kernel
theorem dL_law_1324 : decode cL_law 1324 = .ok (.iconst 1, 1) := by decide +kernel
theorem dL_law_1325 : decode cL_law 1325 = .ok (.iadd, 1) := by decide +kernel
theorem dL_law_1326 : decode cL_law 1326 = .ok (.iaload, 1) := by decide +kernel
theorem dL_law_1327 : decode cL_law 1327 = .ok (.invokevirtual 175, 3) := by decide +kernel
theorem dL_law_1330 : decode cL_law 1330 = .ok (.istore 6, 2) := by decide +kernel
theorem dL_law_1332 : decode cL_law 1332 = .ok (.aload_n 2, 1) := by decide +kernel
theorem dL_law_1333 : decode cL_law 1333 = .ok (.invokevirtual 91, 3) := by decide +kernel
theorem dL_law_1336 : decode cL_law 1336 = .ok (.iload 5, 2) := by decide +kernel
theorem dL_law_1338 : decode cL_law 1338 = .ok (.if_icmp .eq 5, 3) := by decide +kernel
theorem dL_law_1341 : decode cL_law 1341 = .ok (.iconst 0, 1) := by decide +kernel
theorem dL_law_1342 : decode cL_law 1342 = .ok (.ireturn, 1) := by decide +kernel
theorem dL_law_1343 : decode cL_law 1343 = .ok (.iload 5, 2) := by decide +kernel
theorem dL_law_1345 : decode cL_law 1345 = .ok (.ifCond .ne 15, 3) := by decide +kernel
theorem dL_law_1348 : decode cL_law 1348 = .ok (.aload_n 3, 1) := by decide +kernel
theorem dL_law_1349 : decode cL_law 1349 = .ok (.iconst 0, 1) := by decide +kernel
theorem dL_law_1350 : decode cL_law 1350 = .ok (.laload, 1) := by decide +kernel
theorem dL_law_1351 : decode cL_law 1351 = .ok (.iload 6, 2) := by decide +kernel
theorem dL_law_1353 : decode cL_law 1353 = .ok (.i2l, 1) := by decide +kernel
theorem dL_law_1354 : decode cL_law 1354 = .ok (.lcmp, 1) := by decide +kernel
theorem dL_law_1355 : decode cL_law 1355 = .ok (.ifCond .eq 5, 3) := by decide +kernel
theorem dL_law_1358 : decode cL_law 1358 = .ok (.iconst 0, 1) := by decide +kernel
theorem dL_law_1359 : decode cL_law 1359 = .ok (.ireturn, 1) := by decide +kernel
theorem dL_law_1360 : decode cL_law 1360 = .ok (.goto 210, 3) := by decide +kernel
theorem dL_law_1363 : decode cL_law 1363 = .ok (.aload_n 1, 1) := by decide +kernel
theorem dL_law_1364 : decode cL_law 1364 = .ok (.aload_n 0, 1) := by decide +kernel
theorem dL_law_1365 : decode cL_law 1365 = .ok (.iload 4, 2) := by decide +kernel
theorem dL_law_1367 : decode cL_law 1367 = .ok (.iconst 1, 1) := by decide +kernel
theorem dL_law_1368 : decode cL_law 1368 = .ok (.iadd, 1) := by decide +kernel
theorem dL_law_1369 : decode cL_law 1369 = .ok (.iaload, 1) := by decide +kernel
theorem dL_law_1370 : decode cL_law 1370 = .ok (.aload_n 3, 1) := by decide +kernel
theorem dL_law_1371 : decode cL_law 1371 = .ok (.invokestatic 176, 3) := by decide +kernel
theorem dL_law_1374 : decode cL_law 1374 = .ok (.istore 5, 2) := by decide +kernel
theorem dL_law_1376 : decode cL_law 1376 = .ok (.aload_n 2, 1) := by decide +kernel
theorem dL_law_1377 : decode cL_law 1377 = .ok (.aload_n 0, 1) := by decide +kernel
theorem dL_law_1378 : decode cL_law 1378 = .ok (.iload 4, 2) := by decide +kernel
theorem dL_law_1380 : decode cL_law 1380 = .ok (.iconst 1, 1) := by decide +kernel
theorem dL_law_1381 : decode cL_law 1381 = .ok (.iadd, 1) := by decide +kernel
theorem dL_law_1382 : decode cL_law 1382 = .ok (.iaload, 1) := by decide +kernel
theorem dL_law_1383 : decode cL_law 1383 = .ok (.invokevirtual 178, 3) := by decide +kernel
theorem dL_law_1386 : decode cL_law 1386 = .ok (.istore 6, 2) := by decide +kernel
theorem dL_law_1388 : decode cL_law 1388 = .ok (.aload_n 2, 1) := by decide +kernel
theorem dL_law_1389 : decode cL_law 1389 = .ok (.invokevirtual 91, 3) := by decide +kernel
theorem dL_law_1392 : decode cL_law 1392 = .ok (.iload 5, 2) := by decide +kernel
theorem dL_law_1394 : decode cL_law 1394 = .ok (.if_icmp .eq 5, 3) := by decide +kernel
theorem dL_law_1397 : decode cL_law 1397 = .ok (.iconst 0, 1) := by decide +kernel
theorem dL_law_1398 : decode cL_law 1398 = .ok (.ireturn, 1) := by decide +kernel
theorem dL_law_1399 : decode cL_law 1399 = .ok (.iload 5, 2) := by decide +kernel
theorem dL_law_1401 : decode cL_law 1401 = .ok (.ifCond .ne 15, 3) := by decide +kernel
theorem dL_law_1404 : decode cL_law 1404 = .ok (.aload_n 3, 1) := by decide +kernel
theorem dL_law_1405 : decode cL_law 1405 = .ok (.iconst 0, 1) := by decide +kernel
theorem dL_law_1406 : decode cL_law 1406 = .ok (.laload, 1) := by decide +kernel
theorem dL_law_1407 : decode cL_law 1407 = .ok (.iload 6, 2) := by decide +kernel
theorem dL_law_1409 : decode cL_law 1409 = .ok (.i2l, 1) := by decide +kernel
theorem dL_law_1410 : decode cL_law 1410 = .ok (.lcmp, 1) := by decide +kernel
theorem dL_law_1411 : decode cL_law 1411 = .ok (.ifCond .eq 5, 3) := by decide +kernel
theorem dL_law_1414 : decode cL_law 1414 = .ok (.iconst 0, 1) := by decide +kernel
theorem dL_law_1415 : decode cL_law 1415 = .ok (.ireturn, 1) := by decide +kernel
theorem dL_law_1416 : decode cL_law 1416 = .ok (.goto 154, 3) := by decide +kernel
theorem dL_law_1419 : decode cL_law 1419 = .ok (.aload_n 1, 1) := by decide +kernel
theorem dL_law_1420 : decode cL_law 1420 = .ok (.aload_n 0, 1) := by decide +kernel
theorem dL_law_1421 : decode cL_law 1421 = .ok (.iload 4, 2) := by decide +kernel
theorem dL_law_1423 : decode cL_law 1423 = .ok (.iconst 1, 1) := by decide +kernel
theorem dL_law_1424 : decode cL_law 1424 = .ok (.iadd, 1) := by decide +kernel
theorem dL_law_1425 : decode cL_law 1425 = .ok (.iaload, 1) := by decide +kernel
theorem dL_law_1426 : decode cL_law 1426 = .ok (.aload_n 3, 1) := by decide +kernel
theorem dL_law_1427 : decode cL_law 1427 = .ok (.invokestatic 179, 3) := by decide +kernel
theorem dL_law_1430 : decode cL_law 1430 = .ok (.istore 5, 2) := by decide +kernel
theorem dL_law_1432 : decode cL_law 1432 = .ok (.aload_n 2, 1) := by decide +kernel
theorem dL_law_1433 : decode cL_law 1433 = .ok (.aload_n 0, 1) := by decide +kernel
theorem dL_law_1434 : decode cL_law 1434 = .ok (.iload 4, 2) := by decide +kernel
theorem dL_law_1436 : decode cL_law 1436 = .ok (.iconst 1, 1) := by decide +kernel
theorem dL_law_1437 : decode cL_law 1437 = .ok (.iadd, 1) := by decide +kernel
theorem dL_law_1438 : decode cL_law 1438 = .ok (.iaload, 1) := by decide +kernel
theorem dL_law_1439 : decode cL_law 1439 = .ok (.invokevirtual 181, 3) := by decide +kernel
theorem dL_law_1442 : decode cL_law 1442 = .ok (.istore 6, 2) := by decide +kernel
theorem dL_law_1444 : decode cL_law 1444 = .ok (.aload_n 2, 1) := by decide +kernel
theorem dL_law_1445 : decode cL_law 1445 = .ok (.invokevirtual 91, 3) := by decide +kernel
theorem dL_law_1448 : decode cL_law 1448 = .ok (.iload 5, 2) := by decide +kernel
theorem dL_law_1450 : decode cL_law 1450 = .ok (.if_icmp .eq 5, 3) := by decide +kernel
theorem dL_law_1453 : decode cL_law 1453 = .ok (.iconst 0, 1) := by decide +kernel
theorem dL_law_1454 : decode cL_law 1454 = .ok (.ireturn, 1) := by decide +kernel
theorem dL_law_1455 : decode cL_law 1455 = .ok (.iload 5, 2) := by decide +kernel
theorem dL_law_1457 : decode cL_law 1457 = .ok (.ifCond .ne 15, 3) := by decide +kernel
theorem dL_law_1460 : decode cL_law 1460 = .ok (.aload_n 3, 1) := by decide +kernel
theorem dL_law_1461 : decode cL_law 1461 = .ok (.iconst 0, 1) := by decide +kernel
theorem dL_law_1462 : decode cL_law 1462 = .ok (.laload, 1) := by decide +kernel
theorem dL_law_1463 : decode cL_law 1463 = .ok (.iload 6, 2) := by decide +kernel
theorem dL_law_1465 : decode cL_law 1465 = .ok (.i2l, 1) := by decide +kernel
theorem dL_law_1466 : decode cL_law 1466 = .ok (.lcmp, 1) := by decide +kernel
theorem dL_law_1467 : decode cL_law 1467 = .ok (.ifCond .eq 5, 3) := by decide +kernel
theorem dL_law_1470 : decode cL_law 1470 = .ok (.iconst 0, 1) := by decide +kernel
theorem dL_law_1471 : decode cL_law 1471 = .ok (.ireturn, 1) := by decide +kernel
theorem dL_law_1472 : decode cL_law 1472 = .ok (.goto 98, 3) := by decide +kernel
theorem dL_law_1475 : decode cL_law 1475 = .ok (.aload_n 1, 1) := by decide +kernel
theorem dL_law_1476 : decode cL_law 1476 = .ok (.aload_n 0, 1) := by decide +kernel
theorem dL_law_1477 : decode cL_law 1477 = .ok (.iload 4, 2) := by decide +kernel
theorem dL_law_1479 : decode cL_law 1479 = .ok (.iconst 1, 1) := by decide +kernel
theorem dL_law_1480 : decode cL_law 1480 = .ok (.iadd, 1) := by decide +kernel
theorem dL_law_1481 : decode cL_law 1481 = .ok (.iaload, 1) := by decide +kernel
theorem dL_law_1482 : decode cL_law 1482 = .ok (.aload_n 3, 1) := by decide +kernel
theorem dL_law_1483 : decode cL_law 1483 = .ok (.invokestatic 182, 3) := by decide +kernel
theorem dL_law_1486 : decode cL_law 1486 = .ok (.istore 5, 2) := by decide +kernel
theorem dL_law_1488 : decode cL_law 1488 = .ok (.aload_n 2, 1) := by decide +kernel
theorem dL_law_1489 : decode cL_law 1489 = .ok (.aload_n 0, 1) := by decide +kernel
theorem dL_law_1490 : decode cL_law 1490 = .ok (.iload 4, 2) := by decide +kernel
theorem dL_law_1492 : decode cL_law 1492 = .ok (.iconst 1, 1) := by decide +kernel
theorem dL_law_1493 : decode cL_law 1493 = .ok (.iadd, 1) := by decide +kernel
theorem dL_law_1494 : decode cL_law 1494 = .ok (.iaload, 1) := by decide +kernel
theorem dL_law_1495 : decode cL_law 1495 = .ok (.invokevirtual 184, 3) := by decide +kernel
theorem dL_law_1498 : decode cL_law 1498 = .ok (.istore 6, 2) := by decide +kernel
theorem dL_law_1500 : decode cL_law 1500 = .ok (.aload_n 2, 1) := by decide +kernel
theorem dL_law_1501 : decode cL_law 1501 = .ok (.invokevirtual 91, 3) := by decide +kernel
theorem dL_law_1504 : decode cL_law 1504 = .ok (.iload 5, 2) := by decide +kernel
theorem dL_law_1506 : decode cL_law 1506 = .ok (.if_icmp .eq 5, 3) := by decide +kernel
theorem dL_law_1509 : decode cL_law 1509 = .ok (.iconst 0, 1) := by decide +kernel
theorem dL_law_1510 : decode cL_law 1510 = .ok (.ireturn, 1) := by decide +kernel
theorem dL_law_1511 : decode cL_law 1511 = .ok (.iload 5, 2) := by decide +kernel
theorem dL_law_1513 : decode cL_law 1513 = .ok (.ifCond .ne 15, 3) := by decide +kernel
theorem dL_law_1516 : decode cL_law 1516 = .ok (.aload_n 3, 1) := by decide +kernel
theorem dL_law_1517 : decode cL_law 1517 = .ok (.iconst 0, 1) := by decide +kernel
theorem dL_law_1518 : decode cL_law 1518 = .ok (.laload, 1) := by decide +kernel
theorem dL_law_1519 : decode cL_law 1519 = .ok (.iload 6, 2) := by decide +kernel
theorem dL_law_1521 : decode cL_law 1521 = .ok (.i2l, 1) := by decide +kernel
theorem dL_law_1522 : decode cL_law 1522 = .ok (.lcmp, 1) := by decide +kernel
theorem dL_law_1523 : decode cL_law 1523 = .ok (.ifCond .eq 5, 3) := by decide +kernel
theorem dL_law_1526 : decode cL_law 1526 = .ok (.iconst 0, 1) := by decide +kernel
theorem dL_law_1527 : decode cL_law 1527 = .ok (.ireturn, 1) := by decide +kernel
theorem dL_law_1528 : decode cL_law 1528 = .ok (.goto 42, 3) := by decide +kernel
theorem dL_law_1531 : decode cL_law 1531 = .ok (.aload_n 1, 1) := by decide +kernel
theorem dL_law_1532 : decode cL_law 1532 = .ok (.invokevirtual 185, 3) := by decide +kernel
theorem dL_law_1535 : decode cL_law 1535 = .ok (.aload_n 2, 1) := by decide +kernel
theorem dL_law_1536 : decode cL_law 1536 = .ok (.invokevirtual 188, 3) := by decide +kernel
theorem dL_law_1539 : decode cL_law 1539 = .ok (.if_icmp .eq 31, 3) := by decide +kernel
theorem dL_law_1542 : decode cL_law 1542 = .ok (.iconst 0, 1) := by decide +kernel
theorem dL_law_1543 : decode cL_law 1543 = .ok (.ireturn, 1) := by decide +kernel
theorem dL_law_1544 : decode cL_law 1544 = .ok (.aload_n 1, 1) := by decide +kernel
theorem dL_law_1545 : decode cL_law 1545 = .ok (.invokevirtual 189, 3) := by decide +kernel
theorem dL_law_1548 : decode cL_law 1548 = .ok (.aload_n 2, 1) := by decide +kernel
theorem dL_law_1549 : decode cL_law 1549 = .ok (.invokevirtual 192, 3) := by decide +kernel
theorem dL_law_1552 : decode cL_law 1552 = .ok (.if_icmp .eq 18, 3) := by decide +kernel
theorem dL_law_1555 : decode cL_law 1555 = .ok (.iconst 0, 1) := by decide +kernel
theorem dL_law_1556 : decode cL_law 1556 = .ok (.ireturn, 1) := by decide +kernel
theorem dL_law_1557 : decode cL_law 1557 = .ok (.aload_n 1, 1) := by decide +kernel
theorem dL_law_1558 : decode cL_law 1558 = .ok (.invokevirtual 193, 3) := by decide +kernel
theorem dL_law_1561 : decode cL_law 1561 = .ok (.aload_n 2, 1) := by decide +kernel
theorem dL_law_1562 : decode cL_law 1562 = .ok (.invokevirtual 196, 3) := by decide +kernel
theorem dL_law_1565 : decode cL_law 1565 = .ok (.if_icmp .eq 5, 3) := by decide +kernel
theorem dL_law_1568 : decode cL_law 1568 = .ok (.iconst 0, 1) := by decide +kernel
theorem dL_law_1569 : decode cL_law 1569 = .ok (.ireturn, 1) := by decide +kernel
theorem dL_law_1570 : decode cL_law 1570 = .ok (.iinc 4 3, 3) := by decide +kernel
theorem dL_law_1573 : decode cL_law 1573 = .ok (.goto (-1550), 3) := by decide +kernel
theorem dL_law_1576 : decode cL_law 1576 = .ok (.iconst 1, 1) := by decide +kernel
theorem dL_law_1577 : decode cL_law 1577 = .ok (.ireturn, 1) := by decide +kernel
end
section
/-! THE STATE OF A BILLING, AND WHAT EACH CALL DOES TO IT (in Int32 as the bytecode counts): one value for the class and for the reference -/
abbrev FF : Type := Nat → Int32
abbrev MM : Type := (FF × FF × FF × FF × FF) × Nat × (FF × FF × Nat) × FF × Int32 × (FF × FF × FF × FF) × Nat
def m_lv (M : MM) : FF := M.1.1
def m_le (M : MM) : FF := M.1.2.1
def m_lw (M : MM) : FF := M.1.2.2.1
def m_lb (M : MM) : FF := M.1.2.2.2.1
def m_lh (M : MM) : FF := M.1.2.2.2.2
def m_ln (M : MM) : Nat := M.2.1
def m_st (M : MM) : FF := M.2.2.1.1
def m_sr (M : MM) : FF := M.2.2.1.2.1
def m_sn (M : MM) : Nat := M.2.2.1.2.2
def m_rt (M : MM) : FF := M.2.2.2.1
def m_hb (M : MM) : Int32 := M.2.2.2.2.1
def m_as (M : MM) : FF := M.2.2.2.2.2.1.1
def m_aa (M : MM) : FF := M.2.2.2.2.2.1.2.1
def m_ab (M : MM) : FF := M.2.2.2.2.2.1.2.2.1
def m_ah (M : MM) : FF := M.2.2.2.2.2.1.2.2.2
def m_an (M : MM) : Nat := M.2.2.2.2.2.2
def mk (lv le lw lb lh : FF) (ln : Nat) (st sr : FF) (sn : Nat) (rt : FF) (hb : Int32) (as aa ab ah : FF) (an : Nat) : MM := ((lv, le, lw, lb, lh), ln, (st, sr, sn), rt, hb, (as, aa, ab, ah), an)
def s_lv (M : MM) (f : FF) : MM := mk f (m_le M) (m_lw M) (m_lb M) (m_lh M) (m_ln M) (m_st M) (m_sr M) (m_sn M) (m_rt M) (m_hb M) (m_as M) (m_aa M) (m_ab M) (m_ah M) (m_an M)
def s_le (M : MM) (f : FF) : MM := mk (m_lv M) f (m_lw M) (m_lb M) (m_lh M) (m_ln M) (m_st M) (m_sr M) (m_sn M) (m_rt M) (m_hb M) (m_as M) (m_aa M) (m_ab M) (m_ah M) (m_an M)
def s_lw (M : MM) (f : FF) : MM := mk (m_lv M) (m_le M) f (m_lb M) (m_lh M) (m_ln M) (m_st M) (m_sr M) (m_sn M) (m_rt M) (m_hb M) (m_as M) (m_aa M) (m_ab M) (m_ah M) (m_an M)
def s_lb (M : MM) (f : FF) : MM := mk (m_lv M) (m_le M) (m_lw M) f (m_lh M) (m_ln M) (m_st M) (m_sr M) (m_sn M) (m_rt M) (m_hb M) (m_as M) (m_aa M) (m_ab M) (m_ah M) (m_an M)
def s_lh (M : MM) (f : FF) : MM := mk (m_lv M) (m_le M) (m_lw M) (m_lb M) f (m_ln M) (m_st M) (m_sr M) (m_sn M) (m_rt M) (m_hb M) (m_as M) (m_aa M) (m_ab M) (m_ah M) (m_an M)
def s_ln (M : MM) (n : Nat) : MM := mk (m_lv M) (m_le M) (m_lw M) (m_lb M) (m_lh M) n (m_st M) (m_sr M) (m_sn M) (m_rt M) (m_hb M) (m_as M) (m_aa M) (m_ab M) (m_ah M) (m_an M)
def s_st (M : MM) (f : FF) : MM := mk (m_lv M) (m_le M) (m_lw M) (m_lb M) (m_lh M) (m_ln M) f (m_sr M) (m_sn M) (m_rt M) (m_hb M) (m_as M) (m_aa M) (m_ab M) (m_ah M) (m_an M)
def s_sr (M : MM) (f : FF) : MM := mk (m_lv M) (m_le M) (m_lw M) (m_lb M) (m_lh M) (m_ln M) (m_st M) f (m_sn M) (m_rt M) (m_hb M) (m_as M) (m_aa M) (m_ab M) (m_ah M) (m_an M)
def s_sn (M : MM) (n : Nat) : MM := mk (m_lv M) (m_le M) (m_lw M) (m_lb M) (m_lh M) (m_ln M) (m_st M) (m_sr M) n (m_rt M) (m_hb M) (m_as M) (m_aa M) (m_ab M) (m_ah M) (m_an M)
def s_rt (M : MM) (f : FF) : MM := mk (m_lv M) (m_le M) (m_lw M) (m_lb M) (m_lh M) (m_ln M) (m_st M) (m_sr M) (m_sn M) f (m_hb M) (m_as M) (m_aa M) (m_ab M) (m_ah M) (m_an M)
def s_hb (M : MM) (x : Int32) : MM := mk (m_lv M) (m_le M) (m_lw M) (m_lb M) (m_lh M) (m_ln M) (m_st M) (m_sr M) (m_sn M) (m_rt M) x (m_as M) (m_aa M) (m_ab M) (m_ah M) (m_an M)
def s_as (M : MM) (f : FF) : MM := mk (m_lv M) (m_le M) (m_lw M) (m_lb M) (m_lh M) (m_ln M) (m_st M) (m_sr M) (m_sn M) (m_rt M) (m_hb M) f (m_aa M) (m_ab M) (m_ah M) (m_an M)
def s_aa (M : MM) (f : FF) : MM := mk (m_lv M) (m_le M) (m_lw M) (m_lb M) (m_lh M) (m_ln M) (m_st M) (m_sr M) (m_sn M) (m_rt M) (m_hb M) (m_as M) f (m_ab M) (m_ah M) (m_an M)
def s_ab (M : MM) (f : FF) : MM := mk (m_lv M) (m_le M) (m_lw M) (m_lb M) (m_lh M) (m_ln M) (m_st M) (m_sr M) (m_sn M) (m_rt M) (m_hb M) (m_as M) (m_aa M) f (m_ah M) (m_an M)
def s_ah (M : MM) (f : FF) : MM := mk (m_lv M) (m_le M) (m_lw M) (m_lb M) (m_lh M) (m_ln M) (m_st M) (m_sr M) (m_sn M) (m_rt M) (m_hb M) (m_as M) (m_aa M) (m_ab M) f (m_an M)
def s_an (M : MM) (n : Nat) : MM := mk (m_lv M) (m_le M) (m_lw M) (m_lb M) (m_lh M) (m_ln M) (m_st M) (m_sr M) (m_sn M) (m_rt M) (m_hb M) (m_as M) (m_aa M) (m_ab M) (m_ah M) n
/-- the class's cells, the reference's cells -/
def w0 (h : Nat → Nat) (cA : ClassId) (M : MM) : va_W := [(h 0, .inr (0, [.ref (h 1), .ref (h 2), .ref (h 3), .ref (h 4), .ref (h 5), .int (nI (m_ln M)), .ref (h 6), .ref (h 7), .int (nI (m_sn M)), .int (m_hb M), .ref (h 8), .ref (h 9), .ref (h 10), .ref (h 11), .int (nI (m_an M))])),
  (h 1, .inl (cA, 16, .inl (m_lv M))), (h 2, .inl (cA, 16, .inl (m_le M))), (h 3, .inl (cA, 16, .inl (m_lw M))), (h 4, .inl (cA, 16, .inl (m_lb M))), (h 5, .inl (cA, 16, .inl (m_lh M))),
  (h 6, .inl (cA, 6, .inl (m_st M))), (h 7, .inl (cA, 6, .inl (m_sr M))), (h 8, .inl (cA, 60, .inl (m_as M))), (h 9, .inl (cA, 60, .inl (m_aa M))), (h 10, .inl (cA, 60, .inl (m_ab M))), (h 11, .inl (cA, 60, .inl (m_ah M)))]
def w1 (h : Nat → Nat) (cA : ClassId) (rf : Int32) (M : MM) : va_W := [(h 0, .inr (1, [.int rf, .int (nI (m_ln M)), .ref (h 1), .ref (h 2), .ref (h 3), .ref (h 4), .ref (h 5), .ref (h 6), .int (m_hb M), .int (nI (m_an M)), .ref (h 7), .ref (h 8), .ref (h 9), .ref (h 10)])),
  (h 1, .inl (cA, 16, .inl (m_lv M))), (h 2, .inl (cA, 16, .inl (m_le M))), (h 3, .inl (cA, 16, .inl (m_lw M))), (h 4, .inl (cA, 16, .inl (m_lb M))), (h 5, .inl (cA, 16, .inl (m_lh M))),
  (h 6, .inl (cA, 1001, .inl (m_rt M))), (h 7, .inl (cA, 60, .inl (m_as M))), (h 8, .inl (cA, 60, .inl (m_aa M))), (h 9, .inl (cA, 60, .inl (m_ab M))), (h 10, .inl (cA, 60, .inl (m_ah M)))]
/-- the bounds that keep every index in its row -/
def OKM (M : MM) : Prop := m_ln M ≤ 16 ∧ 1 ≤ m_sn M ∧ m_sn M ≤ 6 ∧ m_an M ≤ 60
-- what the parts of the calls answer
def ixL (n : Nat) (x : Int32) : Option Nat := if 0 ≤ x.toInt ∧ x.toInt < n then some x.toInt.toNat else none
def inR (x lo hi : Int32) : Bool := decide (lo ≤ x) && decide (x ≤ hi)
def psum (f : FF) : Nat → Int32
  | 0 => 0
  | k + 1 => psum f k + f k
def fd64 (x y : Int64) : Int64 := if (x ^^^ y) < 0 ∧ ¬ (x / y) * y = x then x / y - 1 else x / y
def x_th (a s : Int32) : Int32 := (fd64 (a.toInt64 * s.toInt64 + 500) 1000).toInt32
def x_sd (a f d : Int32) : Int32 := if d = 0 then 0 else (fd64 (a.toInt64 * f.toInt64) d.toInt64).toInt32
def y_th (a s : Int32) : Int32 := ((a.toInt64 * s.toInt64 + 500) / 1000).toInt32
def y_sh (a p v : Int32) : Int32 := (a.toInt64 * p.toInt64 / v.toInt64).toInt32
def x_csum (M : MM) : Int32 := psum (m_lv M) (m_ln M)
def x_progress (M : MM) : Int32 := x_sd (psum (m_lw M) (m_ln M)) 1000 (x_csum M)
def y_reached (M : MM) : Int32 := if psum (m_lv M) (m_ln M) = 0 then 0 else ((psum (m_lw M) (m_ln M)).toInt64 * 1000 / (psum (m_lv M) (m_ln M)).toInt64).toInt32
def x_best (st : FF) (p : Int32) : Nat → Nat
  | 0 => 0
  | k + 1 => if ¬ p < st (k + 1) ∧ st (x_best st p k) < st (k + 1) then k + 1 else x_best st p k
def x_rate (M : MM) : Int32 := m_sr M (x_best (m_st M) (x_progress M) (m_sn M - 1))
def y_scan (rt : FF) : Nat → Int32
  | 0 => rt 0
  | k + 1 => if rt (k + 1) = -1 then y_scan rt k else rt (k + 1)
def y_rate (M : MM) : Int32 := y_scan (m_rt M) (y_reached M).toNatClampNeg
/-- what the reference's rate needs to come to an end -/
def RTM (M : MM) : Prop := m_ln M ≤ 16 ∧ m_an M ≤ 60 ∧ (∃ k : Nat, k ≤ 1000 ∧ y_reached M = nI k) ∧ ¬ m_rt M 0 = -1
def x_hIf (M : MM) (j : Nat) (r : Int32) : Int32 := if m_hb M = 0 then x_th (m_le M j) r else m_lh M j + x_th (m_le M j - m_lb M j) r
def y_hTh (M : MM) (j : Nat) : Int32 := if m_hb M = 0 then y_th (m_le M j) (y_rate M) else m_lh M j + y_th (m_le M j - m_lb M j) (y_rate M)
def x_nsub (M : MM) (r a : Int32) : Nat → Int32
  | 0 => a
  | k + 1 => x_nsub M r a k - x_hIf M k r
def x_next (M : MM) : Int32 := x_nsub M (x_rate M) (psum (m_le M) (m_ln M) - psum (m_aa M) (m_an M)) (m_ln M)
def y_nsub (M : MM) (a : Int32) : Nat → Int32
  | 0 => a
  | k + 1 => y_nsub M a k - y_hTh M k
def y_asub (f : FF) (a : Int32) : Nat → Int32
  | 0 => a
  | k + 1 => y_asub f a k - f k
def y_amt (M : MM) : Int32 := y_asub (m_aa M) (y_nsub M (psum (m_le M) (m_ln M)) (m_ln M)) (m_an M)
def x_bill (M : MM) (r : Int32) : Nat → MM
  | 0 => M
  | k + 1 => s_lb (s_lh (x_bill M r k) (upd (m_lh (x_bill M r k)) k (x_hIf (x_bill M r k) k r))) (upd (m_lb (x_bill M r k)) k (m_le (x_bill M r k) k))
def y_bill (M : MM) : Nat → MM
  | 0 => M
  | k + 1 => s_lb (s_lh (y_bill M k) (upd (m_lh (y_bill M k)) k (y_hTh (y_bill M k) k))) (upd (m_lb (y_bill M k)) k (m_le (y_bill M k) k))
/-- the end of a closing: the application's row -/
def z_app (M : MM) (n : Nat) : MM := s_an (s_ah (s_ab (s_as M (upd (m_as M) n 0)) (upd (m_ab M) n (psum (m_lb M) (m_ln M)))) (upd (m_ah M) n (psum (m_lh M) (m_ln M)))) (n + 1)
def x_cl1 (M : MM) : MM := s_aa M (upd (m_aa M) (m_an M) (x_next M))
def y_cl1 (M : MM) : MM := s_aa M (upd (m_aa M) (m_an M) (y_amt M))
def cnt2 (f : FF) : Nat → Nat
  | 0 => 0
  | k + 1 => if f k = 2 then cnt2 f k + 1 else cnt2 f k
def y_pf (f : FF) : Nat → Nat → Nat
  | 0, i => i
  | k + 1, i => if f i = 2 then y_pf f k (i + 1) else i
def x_psum (as aa : FF) : Nat → Int32
  | 0 => 0
  | k + 1 => if as k = 0 then x_psum as aa k else x_psum as aa k + aa k
def y_psum (as aa : FF) : Nat → Int32
  | 0 => 0
  | k + 1 => y_psum as aa k + (if as k = 0 then 0 else aa k)
def x_dv (M : MM) (j : Nat) : Int32 := if m_lv M j < 1 then 1 else m_lv M j
def y_dv (M : MM) (j : Nat) : Int32 := if m_lv M j = 0 then 1 else m_lv M j
def z_ah (w d : Nat → Int32) (a b : Nat) : Bool := decide ((w b).toInt64 * (d a).toInt64 < (w a).toInt64 * (d b).toInt64) || (decide ((w a).toInt64 * (d b).toInt64 = (w b).toInt64 * (d a).toInt64) && decide (a < b))
def z_rk (w d : Nat → Int32) (j : Nat) : Nat → Nat
  | 0 => 0
  | k + 1 => if z_ah w d k j = true then z_rk w d j k + 1 else z_rk w d j k
def x_rank (M : MM) (j : Nat) : Nat := z_rk (m_lw M) (x_dv M) j (m_ln M)
def y_rank (M : MM) (j : Nat) : Nat := z_rk (m_lw M) (y_dv M) j (m_ln M)
def x_fl (M : MM) (p : Nat) : Nat → Nat → Nat
  | 0, i => i
  | k + 1, i => if x_rank M i = p then i else x_fl M p k (i + 1)
def y_fl (M : MM) (x : Int32) : Nat → Int32
  | 0 => -1
  | k + 1 => if nI (y_rank M k) = x then nI k else y_fl M x k
def x_fs (st : FF) (t : Int32) : Nat → Nat → Option Nat
  | 0, _ => none
  | k + 1, i => if st i = t then some i else x_fs st t k (i + 1)
def cntS (rt : FF) : Nat → Nat
  | 0 => 0
  | k + 1 => if rt k = -1 then cntS rt k else cntS rt k + 1
-- what the calls do: which exception of the list (0: none), the answer, the state behind
abbrev RR : Type := Nat × Int32 × MM
def o_addLine (M : MM) (v : Int32) : RR := if inR v 0 10000000 = true then (if m_ln M = 16 then (2, 0, M) else (0, nI (m_ln M), s_ln (s_lv M (upd (m_lv M) (m_ln M) v)) (m_ln M + 1))) else (1, 0, M)
def o_changeValue (M : MM) (x v : Int32) : RR := match ixL (m_ln M) x with
  | none => (1, 0, M)
  | some j => if inR v 0 10000000 = true then (if v < m_le M j then (3, 0, M) else (0, v - m_lv M j, s_lv M (upd (m_lv M) j v))) else (2, 0, M)
def x_mv (f : FF) (j n : Nat) (p w : Int32) : FF := upd (upd f n (x_sd (f j) p w)) j (upd f n (x_sd (f j) p w) j - x_sd (f j) p w)
def y_mv (f : FF) (j n : Nat) (p w : Int32) : FF := upd (upd f n (y_sh (f j) p w)) j (upd f n (y_sh (f j) p w) j - upd f n (y_sh (f j) p w) n)
def x_split (M : MM) (x p : Int32) : RR := match ixL (m_ln M) x with
  | none => (1, 0, M)
  | some j => if inR p 1 (m_lv M j - 1) = true then (if m_ln M = 16 then (3, 0, M) else
      (0, nI (m_ln M), mk (upd (upd (m_lv M) (m_ln M) p) j (m_lv M j - p)) (x_mv (m_le M) j (m_ln M) p (m_lv M j)) (x_mv (m_lw M) j (m_ln M) p (m_lv M j)) (x_mv (m_lb M) j (m_ln M) p (m_lv M j)) (x_mv (m_lh M) j (m_ln M) p (m_lv M j)) (m_ln M + 1) (m_st M) (m_sr M) (m_sn M) (m_rt M) (m_hb M) (m_as M) (m_aa M) (m_ab M) (m_ah M) (m_an M))) else (2, 0, M)
def y_split (M : MM) (x p : Int32) : RR := match ixL (m_ln M) x with
  | none => (1, 0, M)
  | some j => if inR p 1 (m_lv M j - 1) = true then (if m_ln M = 16 then (3, 0, M) else
      (0, nI (m_ln M), mk (upd (upd (m_lv M) (m_ln M) p) j (m_lv M j - p)) (y_mv (m_le M) j (m_ln M) p (m_lv M j)) (y_mv (m_lw M) j (m_ln M) p (m_lv M j)) (y_mv (m_lb M) j (m_ln M) p (m_lv M j)) (y_mv (m_lh M) j (m_ln M) p (m_lv M j)) (m_ln M + 1) (m_st M) (m_sr M) (m_sn M) (m_rt M) (m_hb M) (m_as M) (m_aa M) (m_ab M) (m_ah M) (m_an M))) else (2, 0, M)
def x_setWork (M : MM) (x s : Int32) : RR := match ixL (m_ln M) x with
  | none => (1, 0, M)
  | some j => if inR s 0 1000 = true then (if x_th (m_lv M j) s - m_lw M j < 0 then (3, 0, M) else if m_lv M j < m_le M j + (x_th (m_lv M j) s - m_lw M j) then (3, 0, M) else
      (0, x_th (m_lv M j) s - m_lw M j, s_le (s_lw M (upd (m_lw M) j (m_lw M j + (x_th (m_lv M j) s - m_lw M j)))) (upd (m_le M) j (m_le M j + (x_th (m_lv M j) s - m_lw M j))))) else (2, 0, M)
def y_setWork (M : MM) (x s : Int32) : RR := match ixL (m_ln M) x with
  | none => (1, 0, M)
  | some j => if inR s 0 1000 = true then (if y_th (m_lv M j) s < m_lw M j then (3, 0, M) else if m_lv M j - m_le M j < y_th (m_lv M j) s - m_lw M j then (3, 0, M) else
      (0, y_th (m_lv M j) s - m_lw M j, s_le (s_lw M (upd (m_lw M) j (y_th (m_lv M j) s))) (upd (m_le M) j (m_le M j + (y_th (m_lv M j) s - m_lw M j))))) else (2, 0, M)
def x_store (M : MM) (x c : Int32) : RR := match ixL (m_ln M) x with
  | none => (1, 0, M)
  | some j => if inR c 1 10000000 = true then (if m_lv M j < m_le M j + c then (3, 0, M) else (0, m_le M j + c - m_lw M j, s_le M (upd (m_le M) j (m_le M j + c)))) else (2, 0, M)
def y_store (M : MM) (x c : Int32) : RR := match ixL (m_ln M) x with
  | none => (1, 0, M)
  | some j => if inR c 1 10000000 = true then (if m_lv M j - m_le M j < c then (3, 0, M) else (0, m_le M j + c - m_lw M j, s_le M (upd (m_le M) j (m_le M j + c)))) else (2, 0, M)
def o_place (M : MM) (x c : Int32) : RR := match ixL (m_ln M) x with
  | none => (1, 0, M)
  | some j => if inR c 1 10000000 = true then (if m_le M j - m_lw M j < c then (3, 0, M) else (0, m_lw M j + c, s_lw M (upd (m_lw M) j (m_lw M j + c)))) else (2, 0, M)
def x_setStep (M : MM) (t r : Int32) : RR := if inR t 0 1000 = true then (if inR r 0 1000 = true then (match x_fs (m_st M) t (m_sn M) 0 with
    | none => if m_sn M = 6 then (2, 0, M) else (0, -1, s_sn (s_sr (s_st M (upd (m_st M) (m_sn M) t)) (upd (m_sr M) (m_sn M) r)) (m_sn M + 1))
    | some i => (0, m_sr M i, s_sr M (upd (m_sr M) i r))) else (1, 0, M)) else (1, 0, M)
def y_setStep (M : MM) (t r : Int32) : RR := if inR t 0 1000 = true then (if inR r 0 1000 = true then
    (if m_rt M t.toNatClampNeg = -1 ∧ cntS (m_rt M) 1001 = 6 then (2, 0, M) else (0, m_rt M t.toNatClampNeg, s_rt M (upd (m_rt M) t.toNatClampNeg r))) else (1, 0, M)) else (1, 0, M)
def x_dropStep (M : MM) (t : Int32) : RR := if inR t 1 1000 = true then (match x_fs (m_st M) t (m_sn M) 0 with
    | none => (2, 0, M)
    | some i => (0, m_sr M i, s_sn (s_sr (s_st M (upd (m_st M) i (m_st M (m_sn M - 1)))) (upd (m_sr M) i (m_sr M (m_sn M - 1)))) (m_sn M - 1))) else (1, 0, M)
def y_dropStep (M : MM) (t : Int32) : RR := if inR t 1 1000 = true then (if m_rt M t.toNatClampNeg = -1 then (2, 0, M) else (0, m_rt M t.toNatClampNeg, s_rt M (upd (m_rt M) t.toNatClampNeg (-1)))) else (1, 0, M)
def x_close (M : MM) : RR := if m_ln M = 0 then (1, 0, M) else if m_an M = 60 then (1, 0, M) else (0, nI (m_an M), z_app (x_bill (x_cl1 M) (x_rate (x_cl1 M)) (m_ln M)) (m_an M))
def y_close (M : MM) : RR := if m_ln M = 0 then (1, 0, M) else if m_an M = 60 then (1, 0, M) else (0, nI (m_an M), z_app (y_bill (y_cl1 M) (m_ln M)) (m_an M))
def x_pay (M : MM) (x : Int32) : RR := match ixL (m_an M) x with
  | none => (1, 0, M)
  | some j => if m_as M j = 0 then (if cnt2 (m_as M) (m_an M) < j then (2, 0, M) else (0, m_aa M j, s_as M (upd (m_as M) j 1))) else (2, 0, M)
def y_pay (M : MM) (x : Int32) : RR := match ixL (m_an M) x with
  | none => (1, 0, M)
  | some j => if m_as M j = 0 then (if y_pf (m_as M) (m_an M) 0 < j then (2, 0, M) else (0, m_aa M j, s_as M (upd (m_as M) j 1))) else (2, 0, M)
def x_waive (M : MM) (x : Int32) : RR := match ixL (m_an M) x with
  | none => (1, 0, M)
  | some j => if m_as M j = 1 then (0, nI (cnt2 (upd (m_as M) j 2) (m_an M)), s_as M (upd (m_as M) j 2)) else (2, 0, M)
def y_waive (M : MM) (x : Int32) : RR := match ixL (m_an M) x with
  | none => (1, 0, M)
  | some j => if m_as M j = 1 then (0, nI (y_pf (upd (m_as M) j 2) (m_an M) 0), s_as M (upd (m_as M) j 2)) else (2, 0, M)
/-- a row read at an index -/
def o_row (M : MM) (n : Nat) (f : FF) (x : Int32) : RR := match ixL n x with
  | none => (1, 0, M)
  | some j => (0, f j, M)
def x_lbs (M : MM) (x : Int32) : RR := match ixL (m_ln M) x with
  | none => (1, 0, M)
  | some p => (0, nI (x_fl M p (m_ln M - 1) 0), M)
def y_lbs (M : MM) (x : Int32) : RR := if y_fl M x (m_ln M) = -1 then (1, 0, M) else (0, y_fl M x (m_ln M), M)
end
section
/-! ROWS THAT THE WALKS USE: calls whose callee leaves the heap as it was, or throws and leaves it; worlds side by side; throws of the class -/
/-- the heap has only grown -/
def g_row (st t : State) : Prop := st.heap.size ≤ t.heap.size ∧ ∀ q : Nat, q < st.heap.size → t.heap[q]? = st.heap[q]?
def g_X (PX : String → Prop) : String → State → State → Prop := fun E st t => PX E ∧ g_row st t
/-- a callee's start and end, where it changes its world wc -/
def pW (D : va_G) (tys : List (ClassId × FieldType)) (wc : va_W) (sz : Nat) : State → Prop := fun U => U.heap.size = sz ∧ va_P D vwCl wc U.heap ∧ va_K D vwCl tys U ∧ va_D (fun _ => True) wc
def qW (D : va_G) (A : Nat → Prop) (w : va_W) : State → Prop := fun t => va_P D vwCl w t.heap ∧ va_D A w
/-- a callee's start, where it only reads -/
def pR (D : va_G) (tys : List (ClassId × FieldType)) (wc : va_W) : State → Prop := fun U => va_P D vwCl wc U.heap ∧ va_K D vwCl tys U
theorem pR_fb {D : va_G} {tys : List (ClassId × FieldType)} {wc : va_W} {av : List Value} : FrameBlind (va_Pc av (pR D tys wc)) := fun a U g mk q => ⟨q.1, q.2.1, va_K.moved (u := U) (U := U.calling g mk a) (Vm.Alike.refl U.vm) q.2.2⟩
theorem pR_mk {D : va_G} {tys : List (ClassId × FieldType)} {wc : va_W} {av : List Value} {s : State} {H : Heap} (hP : va_P D vwCl wc H) (hK : va_K D vwCl tys s) : ∀ U : State, U.heap = H → s.WarmedH U.vm → va_Pc av (pR D tys wc) av.toArray U := fun U hU hW => ⟨rfl, by rw [hU]; exact hP, va_K.moved hW.alike hK⟩
theorem pW_fb {D : va_G} {tys : List (ClassId × FieldType)} {wc : va_W} {sz : Nat} {av : List Value} : FrameBlind (va_Pc av (pW D tys wc sz)) := fun a U g mk q => ⟨q.1, q.2.1, q.2.2.1, va_K.moved (u := U) (U := U.calling g mk a) (Vm.Alike.refl U.vm) q.2.2.2.1, q.2.2.2.2⟩
theorem pW_mk {D : va_G} {tys : List (ClassId × FieldType)} {wc : va_W} {av : List Value} {s : State} {H : Heap} {A : Nat → Prop} (hP : va_P D vwCl wc H) (hK : va_K D vwCl tys s) (hD : va_D A wc) : ∀ U : State, U.heap = H → s.WarmedH U.vm → va_Pc av (pW D tys wc H.size) av.toArray U := fun U hU hW => ⟨rfl, by rw [hU], by rw [hU]; exact hP, va_K.moved hW.alike hK, hD.weaken (fun _ _ _ _ => trivial)⟩
theorem nil_fb {av : List Value} : FrameBlind (va_Pc av (fun _ => True)) := fun _ _ _ _ q => q
theorem nil_mk {av : List Value} {s : State} {H : Heap} : ∀ U : State, U.heap = H → s.WarmedH U.vm → va_Pc av (fun _ => True) av.toArray U := fun _ _ _ => ⟨rfl, trivial⟩
/-! worlds side by side -/
theorem d_left {A : Nat → Prop} {a b : va_W} (h : va_D A (a ++ b)) : va_D A a := by
  refine ⟨fun i j x y hi hj e => h.1 i j x y ?_ ?_ e, fun k q hk => h.2 k q ?_⟩
  · rw [List.getElem?_append_left (List.getElem?_eq_some_iff.mp hi).1]; exact hi
  · rw [List.getElem?_append_left (List.getElem?_eq_some_iff.mp hj).1]; exact hj
  · rw [List.getElem?_append_left (List.getElem?_eq_some_iff.mp hk).1]; exact hk
theorem d_at {a b : va_W} {k : Nat} {q : Nat × va_E} (hk : b[k]? = some q) : (a ++ b)[a.length + k]? = some q := by
  rw [List.getElem?_append_right (by omega), show a.length + k - a.length = k by omega]; exact hk
theorem d_atl {a b : va_W} {k : Nat} {q : Nat × va_E} (hk : a[k]? = some q) : (a ++ b)[k]? = some q := by
  rw [List.getElem?_append_left (List.getElem?_eq_some_iff.mp hk).1]; exact hk
theorem d_right {A : Nat → Prop} {a b : va_W} (h : va_D A (a ++ b)) : va_D A b := by
  refine ⟨fun i j x y hi hj e => ?_, fun k q hk => h.2 _ q (d_at hk)⟩
  have := h.1 _ _ x y (d_at (a := a) hi) (d_at (a := a) hj) e
  omega
theorem d_cross {A : Nat → Prop} {a b : va_W} (h : va_D A (a ++ b)) : ∀ (i j : Nat) (x y : Nat × va_E), a[i]? = some x → b[j]? = some y → x.1 ≠ y.1 := by
  intro i j x y hi hj e
  have h1 := h.1 _ _ x y (d_atl (b := b) hi) (d_at (a := a) hj) e
  have h2 := (List.getElem?_eq_some_iff.mp hi).1
  omega
theorem p_left {D : va_G} {cl : List vw_C} {a b : va_W} {H : Heap} (h : va_P D cl (a ++ b) H) : va_P D cl a H := fun k q hk => h k q (d_atl hk)
theorem p_right {D : va_G} {cl : List vw_C} {a b : va_W} {H : Heap} (h : va_P D cl (a ++ b) H) : va_P D cl b H := fun _ q hk => h _ q (d_at hk)
/-- which cells a middle part's callee may change -/
theorem g_free {A0 : Nat → Prop} {wl wc wr : va_W} {H0 H : Heap} {locs : List Loc} (hD : va_D A0 (wl ++ (wc ++ wr))) (hS : va_S A0 H0 H locs) (hA : ∀ q, H0.size ≤ q → A0 q) : ∀ q, va_A wc H.size q → A0 q := by
  intro q h
  rcases h with ⟨k, e, h⟩ | h
  · exact hD.2 _ (q, e) (d_at (d_atl h))
  · exact hA q (Nat.le_trans hS.1 h)
/-- behind a call: the middle part is the callee's, the rest is as it was -/
theorem g_join {A0 : Nat → Prop} {D : va_G} {cl : List vw_C} {wl wc wr w1 : va_W} {H H1 : Heap} (hP : va_P D cl (wl ++ (wc ++ wr)) H) (hD : va_D A0 (wl ++ (wc ++ wr)))
    (hk : ∀ q : Nat, q < H.size → ¬ va_A wc H.size q → H1[q]? = H[q]?) (hF : ∀ q, va_A wc H.size q → A0 q) (hP1 : va_P D cl w1 H1) (hD1 : va_D (va_A wc H.size) w1) : va_P D cl (wl ++ (w1 ++ wr)) H1 ∧ va_D A0 (wl ++ (w1 ++ wr)) := by
  have hl : ∀ (k : Nat) (q : Nat × va_E), wl[k]? = some q → q.1 < H.size ∧ ¬ va_A wc H.size q.1 := by
    intro k q hq
    have hlt := (hP _ q (d_atl hq)).lt
    refine ⟨hlt, fun h => ?_⟩
    rcases h with ⟨k2, e, h⟩ | h
    · exact d_cross hD _ _ q (q.1, e) hq (d_atl h) rfl
    · omega
  have hr : ∀ (k : Nat) (q : Nat × va_E), wr[k]? = some q → q.1 < H.size ∧ ¬ va_A wc H.size q.1 := by
    intro k q hq
    have hlt := (hP _ q (d_at (d_at hq))).lt
    refine ⟨hlt, fun h => ?_⟩
    rcases h with ⟨k2, e, h⟩ | h
    · exact d_cross (d_right hD) _ _ (q.1, e) q h hq rfl
    · omega
  refine ⟨va_P.app (fun k q hq => (hP _ q (d_atl hq)).kept (hk q.1 (hl k q hq).1 (hl k q hq).2)) (va_P.app hP1 (fun k q hq => (hP _ q (d_at (d_at hq))).kept (hk q.1 (hr k q hq).1 (hr k q hq).2))), ?_⟩
  refine va_D.app (d_left hD) (va_D.app (hD1.weaken (fun k q _ h => hF q.1 h)) (d_right (d_right hD)) (fun i j x y hi hj e => ?_)) (fun i j x y hi hj e => ?_)
  · exact (hr j y hj).2 (by rw [← e]; exact hD1.2 i x hi)
  · rcases List.mem_append.mp (List.mem_of_getElem? hj) with h | h
    · obtain ⟨k, hk2⟩ := List.getElem?_of_mem h
      exact (hl i x hi).2 (by rw [e]; exact hD1.2 k y hk2)
    · obtain ⟨k, hk2⟩ := List.getElem?_of_mem h
      exact d_cross hD _ _ x y hi (d_at hk2) e
section CORE
variable {p : Program} {l : Launch} {e : Env} {R : Room} {s : State} {m : MethodId} {args : Array Value} {below : List Frame} {meth : Method} {c : Code} {H : Heap} {locs : List Loc} {cells slots : Nat} {Q : State → Prop}
variable {mc ms : Nat} {free : Addr → Prop} {A0 : Nat → Prop} {D : va_G} {a : Array Value} {pc : Nat} {ls : Array Slot} {st0 rest : List Value}
theorem w_abs {Q0 : State → Prop} {g : JFrame} (k : ∀ Q : State → Prop, Q = Q0 → W p l e R s m args below meth c H locs cells slots Q g) : W p l e R s m args below meth c H locs cells slots Q0 g := k Q0 rfl
/-- nothing came: the stand counts what it counted before -/
theorem st_back {T T' : State} {k n : Nat} (X : Stand p l e R s m args below meth c T locs cells slots) (X' : Stand p l e R s m args below meth c T' locs k n) (h : T'.heap = T.heap) : Stand p l e R s m args below meth c T' locs cells slots := by
  obtain ⟨a1, a2, a3, a4, a5, a6⟩ := X.same
  obtain ⟨b1, b2, b3, b4, b5, b6⟩ := X'.same
  refine { X' with same := ⟨b1, b2, ?_, b4, ?_, b6⟩ }
  · show T'.heap.size ≤ _
    rw [h]; exact a3
  · show ((T'.heap.toList.drop s.heap.size).map (·.slots.size)).sum ≤ slots
    rw [h]; exact a5
/-- a void callee that reads, or throws -/
theorem g_callv {post : Unit → Prop} {PX : String → Prop} (hr : vx_Run p l e R s m args below meth c H locs cells slots mc ms (F0 m pc ls st0) rest (va_Sv post a) (g_X PX) (fun _ => False))
    (kx : ∀ (E : String) (ce : Cell) (q9 : Addr) (H1 : Heap), PX E → H.size ≤ H1.size → (∀ q : Nat, q < H.size → H1[q]? = H[q]?) → H1[q9]? = some ce → ce.vm = .none → s.vm.findClass E = some ce.cls → vx_W p l e R s m args below meth c H1 locs (cells + mc) (slots + ms) Q (F0 m pc ls rest) q9)
    (kk : post () → W p l e R s m args below meth c H locs cells slots Q (F0 m (pc + 3) ls rest)) : W p l e R s m args below meth c H locs cells slots Q (F0 m pc ls st0) := by
  intro T hT X
  rcases hr T hT X with ⟨v, st₀, t, T', L, h0, X', hL, e1, e2, ⟨hv, hp, hh⟩, st⟩ | ⟨q, st₀, t, T', L, E, ce, h0, X', hL, e1, e2, ⟨hx, hz, hk⟩, hce, hcv, hcl, st⟩
  · cases hv
    have X2 := Stand.forget X' (fun q h => (hL q h).elim)
    obtain ⟨t2, a1, b1⟩ := kk hp T' (by rw [e1, hh, h0]) (st_back X X2 (by rw [e1, hh, h0, hT]))
    exact ⟨t2, st t2 a1, b1⟩
  · have X2 := Stand.forget X' (fun q h => (hL q h).elim)
    obtain ⟨t2, a1, b1⟩ := kx E ce q T'.heap hx (by rw [e1, ← h0]; exact hz) (fun q hq => by rw [e1, ← h0]; exact hk q (by rw [h0]; exact hq)) (by rw [e1]; exact hce) hcv hcl T' rfl X2
    exact ⟨t2, st.trans a1, b1⟩
/-- a callee that changes the middle part of the world, an int -/
theorem g_calliW {S : Type} {post : Int32 → S → Prop} {wf : S → va_W} {wl wc wr ws : va_W} (hr : va_Run p l e R s m args below meth c H locs cells slots mc ms (F0 m pc ls st0) rest (va_Qi post (fun u => qW D (va_A wc H.size) (wf u)) (va_A wc H.size) a) (va_A wc H.size))
    (hws : ws = wl ++ (wc ++ wr)) (hP : va_P D vwCl ws H) (hD : va_D A0 ws) (hS : va_S A0 s.heap H locs) (hA : ∀ q, s.heap.size ≤ q → A0 q)
    (kk : ∀ (r : Int32) (u : S) (H : Heap) (locs : List Loc), post r u → va_P D vwCl (wl ++ (wf u ++ wr)) H → va_D A0 (wl ++ (wf u ++ wr)) → va_S A0 s.heap H locs → W p l e R s m args below meth c H locs (cells + mc) (slots + ms) Q (F0 m (pc + 3) ls (.int r :: rest))) : W p l e R s m args below meth c H locs cells slots Q (F0 m pc ls st0) := by
  subst hws
  have hF := g_free hD hS hA
  refine va_calli hr hS (fun q _ h => hF q h) hF (fun r u t H1 locs1 ht hvm hw hB hz hk hS1 => ?_)
  obtain ⟨hP1, hD1⟩ := hB
  rw [ht] at hP1
  obtain ⟨j1, j2⟩ := g_join hP hD hk hF hP1 hD1
  exact kk r u H1 locs1 hw j1 j2 hS1
theorem g_callvW {S : Type} {post : S → Prop} {wf : S → va_W} {wl wc wr ws : va_W} (hr : va_Run p l e R s m args below meth c H locs cells slots mc ms (F0 m pc ls st0) rest (va_Qv post (fun u => qW D (va_A wc H.size) (wf u)) (va_A wc H.size) a) (va_A wc H.size))
    (hws : ws = wl ++ (wc ++ wr)) (hP : va_P D vwCl ws H) (hD : va_D A0 ws) (hS : va_S A0 s.heap H locs) (hA : ∀ q, s.heap.size ≤ q → A0 q)
    (kk : ∀ (u : S) (H : Heap) (locs : List Loc), post u → va_P D vwCl (wl ++ (wf u ++ wr)) H → va_D A0 (wl ++ (wf u ++ wr)) → va_S A0 s.heap H locs → W p l e R s m args below meth c H locs (cells + mc) (slots + ms) Q (F0 m (pc + 3) ls rest)) : W p l e R s m args below meth c H locs cells slots Q (F0 m pc ls st0) := by
  subst hws
  have hF := g_free hD hS hA
  refine va_callv hr hS (fun q _ h => hF q h) hF (fun u t H1 locs1 ht hvm hw hB hz hk hS1 => ?_)
  obtain ⟨hP1, hD1⟩ := hB
  rw [ht] at hP1
  obtain ⟨j1, j2⟩ := g_join hP hD hk hF hP1 hD1
  exact kk u H1 locs1 hw j1 j2 hS1
theorem g_grow {A : Nat → Prop} {H0 H H1 : Heap} {locs L : List Loc} (hS : va_S A H0 H locs) (h1 : H.size ≤ H1.size) (h2 : ∀ q : Nat, q < H.size → H1[q]? = H[q]?) (hL : ∀ q ∈ L, A q.base) : va_S A H0 H1 (locs ++ L) :=
  ⟨Nat.le_trans hS.1 h1, fun q a b => (h2 q (Nat.lt_of_lt_of_le a hS.1)).trans (hS.2.1 q a b), fun q hq => (List.mem_append.mp hq).elim (hS.2.2 q) (hL q)⟩
theorem g_growP {cl : List vw_C} {ws : va_W} {H H1 : Heap} (hP : va_P D cl ws H) (h2 : ∀ q : Nat, q < H.size → H1[q]? = H[q]?) : va_P D cl ws H1 := hP.kept (fun k q hk => h2 q.1 (hP k q hk).lt)
/-- the same, of a callee that changes its world or throws and changes nothing -/
theorem g_calliX {S : Type} {post : Int32 → S → Prop} {PX : String → Prop} {wf : S → va_W} {wl wc wr ws : va_W} (hr : vx_Run p l e R s m args below meth c H locs cells slots mc ms (F0 m pc ls st0) rest (va_Qi post (fun u => qW D (va_A wc H.size) (wf u)) (va_A wc H.size) a) (g_X PX) (va_A wc H.size))
    (hws : ws = wl ++ (wc ++ wr)) (hP : va_P D vwCl ws H) (hD : va_D A0 ws) (hS : va_S A0 s.heap H locs) (hA : ∀ q, s.heap.size ≤ q → A0 q)
    (kx : ∀ (E : String) (ce : Cell) (q9 : Addr) (H1 : Heap) (locs : List Loc), PX E → H.size ≤ H1.size → (∀ q : Nat, q < H.size → H1[q]? = H[q]?) → va_P D vwCl ws H1 → va_S A0 s.heap H1 locs → H1[q9]? = some ce → ce.vm = .none → s.vm.findClass E = some ce.cls → vx_W p l e R s m args below meth c H1 locs (cells + mc) (slots + ms) Q (F0 m pc ls rest) q9)
    (kk : ∀ (r : Int32) (u : S) (H : Heap) (locs : List Loc), post r u → va_P D vwCl (wl ++ (wf u ++ wr)) H → va_D A0 (wl ++ (wf u ++ wr)) → va_S A0 s.heap H locs → W p l e R s m args below meth c H locs (cells + mc) (slots + ms) Q (F0 m (pc + 3) ls (.int r :: rest))) : W p l e R s m args below meth c H locs cells slots Q (F0 m pc ls st0) := by
  subst hws
  have hF := g_free hD hS hA
  intro T hT X
  rcases hr T hT X with ⟨v, st₀, t, T', L, h0, X', hL, e1, e2, ⟨⟨r, u, hv, hp, hB⟩, hFr⟩, st⟩ | ⟨q, st₀, t, T', L, E, ce, h0, X', hL, e1, e2, ⟨hx, hz, hk⟩, hce, hcv, hcl, st⟩
  · cases hv
    obtain ⟨k1, k2, k3⟩ := vx_keep h0 e1 hS (fun q _ h => hF q h) hF hL hFr
    obtain ⟨hP1, hD1⟩ := hB
    rw [← e1] at hP1
    obtain ⟨j1, j2⟩ := g_join hP hD k2 hF hP1 hD1
    obtain ⟨t2, a1, b1⟩ := kk r u T'.heap (locs ++ L) hp j1 j2 k3 T' rfl X'
    exact ⟨t2, st t2 a1, b1⟩
  · have g1 : H.size ≤ T'.heap.size := by rw [e1, ← h0]; exact hz
    have g2 : ∀ q : Nat, q < H.size → T'.heap[q]? = H[q]? := fun q hq => by rw [e1, ← h0]; exact hk q (by rw [h0]; exact hq)
    obtain ⟨t2, a1, b1⟩ := kx E ce q T'.heap (locs ++ L) hx g1 g2 (g_growP hP g2) (g_grow hS g1 g2 (fun q hq => hF _ (hL q hq))) (by rw [e1]; exact hce) hcv hcl T' rfl X'
    exact ⟨t2, st.trans a1, b1⟩
theorem g_callvX {S : Type} {post : S → Prop} {PX : String → Prop} {wf : S → va_W} {wl wc wr ws : va_W} (hr : vx_Run p l e R s m args below meth c H locs cells slots mc ms (F0 m pc ls st0) rest (va_Qv post (fun u => qW D (va_A wc H.size) (wf u)) (va_A wc H.size) a) (g_X PX) (va_A wc H.size))
    (hws : ws = wl ++ (wc ++ wr)) (hP : va_P D vwCl ws H) (hD : va_D A0 ws) (hS : va_S A0 s.heap H locs) (hA : ∀ q, s.heap.size ≤ q → A0 q)
    (kx : ∀ (E : String) (ce : Cell) (q9 : Addr) (H1 : Heap) (locs : List Loc), PX E → H.size ≤ H1.size → (∀ q : Nat, q < H.size → H1[q]? = H[q]?) → va_P D vwCl ws H1 → va_S A0 s.heap H1 locs → H1[q9]? = some ce → ce.vm = .none → s.vm.findClass E = some ce.cls → vx_W p l e R s m args below meth c H1 locs (cells + mc) (slots + ms) Q (F0 m pc ls rest) q9)
    (kk : ∀ (u : S) (H : Heap) (locs : List Loc), post u → va_P D vwCl (wl ++ (wf u ++ wr)) H → va_D A0 (wl ++ (wf u ++ wr)) → va_S A0 s.heap H locs → W p l e R s m args below meth c H locs (cells + mc) (slots + ms) Q (F0 m (pc + 3) ls rest)) : W p l e R s m args below meth c H locs cells slots Q (F0 m pc ls st0) := by
  subst hws
  have hF := g_free hD hS hA
  intro T hT X
  rcases hr T hT X with ⟨v, st₀, t, T', L, h0, X', hL, e1, e2, ⟨⟨u, hv, hp, hB⟩, hFr⟩, st⟩ | ⟨q, st₀, t, T', L, E, ce, h0, X', hL, e1, e2, ⟨hx, hz, hk⟩, hce, hcv, hcl, st⟩
  · cases hv
    obtain ⟨k1, k2, k3⟩ := vx_keep h0 e1 hS (fun q _ h => hF q h) hF hL hFr
    obtain ⟨hP1, hD1⟩ := hB
    rw [← e1] at hP1
    obtain ⟨j1, j2⟩ := g_join hP hD k2 hF hP1 hD1
    obtain ⟨t2, a1, b1⟩ := kk u T'.heap (locs ++ L) hp j1 j2 k3 T' rfl X'
    exact ⟨t2, st t2 a1, b1⟩
  · have g1 : H.size ≤ T'.heap.size := by rw [e1, ← h0]; exact hz
    have g2 : ∀ q : Nat, q < H.size → T'.heap[q]? = H[q]? := fun q hq => by rw [e1, ← h0]; exact hk q (by rw [h0]; exact hq)
    obtain ⟨t2, a1, b1⟩ := kx E ce q T'.heap (locs ++ L) hx g1 g2 (g_growP hP g2) (g_grow hS g1 g2 (fun q hq => hF _ (hL q hq))) (by rw [e1]; exact hce) hcv hcl T' rfl X'
    exact ⟨t2, st.trans a1, b1⟩
/-- an array's place named by a Nat -/
theorem r_ald {cc : ByteArray} {cl : List vw_C} {tys : List (ClassId × FieldType)} {ws : va_W} {x : Nat} (hexec : p.tables.exec = Jvm.exec) (hb : c.code = cc) (hK : va_K D cl tys s) (hP : va_P D cl ws H) (q0 t0 : Nat) {cA : ClassId} {n : Nat} {f : Nat → Int32} (ha : ws[q0]? = some (x, .inl (cA, n, .inl f))) (ht : tys[t0]? = some (cA, .int)) {j : Nat} (hj : j < n) (hn : n < 2 ^ 31) (hdg : decode cc pc = .ok (.iaload, 1))
    (kk : W p l e R s m args below meth c H locs cells slots Q (F0 m (pc + 1) ls (.int (f j) :: rest))) : W p l e R s m args below meth c H locs cells slots Q (F0 m pc ls (.int (nI j) :: .ref x :: rest)) := by
  refine va_iald hexec hb hK hP q0 t0 ha ht (vp_in_nI hj hn) hdg ?_
  rw [nI_clamp (Nat.lt_trans hj hn)]
  exact kk
theorem r_ast {cc : ByteArray} {cl : List vw_C} {tys : List (ClassId × FieldType)} {ws : va_W} {x : Nat} {H0 : Heap} (hexec : p.tables.exec = Jvm.exec) (hb : c.code = cc) (hK : va_K D cl tys s) (hP : va_P D cl ws H) (hD : va_D A0 ws) (hS : va_S A0 H0 H locs) (q0 t0 : Nat) {cA : ClassId} {n : Nat} {f : Nat → Int32} (ha : ws[q0]? = some (x, .inl (cA, n, .inl f))) (ht : tys[t0]? = some (cA, .int)) {j : Nat} {v : Int32} (hj : j < n) (hn : n < 2 ^ 31) (hdg : decode cc pc = .ok (.iastore, 1))
    (kk : ∀ (H1 : Heap) (locs1 : List Loc), va_P D cl (ws.set q0 (x, .inl (cA, n, .inl (upd f j v)))) H1 → va_D A0 (ws.set q0 (x, .inl (cA, n, .inl (upd f j v)))) → va_S A0 H0 H1 locs1 → W p l e R s m args below meth c H1 locs1 cells slots Q (F0 m (pc + 1) ls rest)) : W p l e R s m args below meth c H locs cells slots Q (F0 m pc ls (.int v :: .int (nI j) :: .ref x :: rest)) := by
  have e := nI_clamp (Nat.lt_trans hj hn)
  refine va_iast hexec hb hK hP hD hS q0 t0 ha ht (vp_in_nI hj hn) hdg (fun H1 l1 h1 h2 h3 => ?_)
  rw [e] at h1 h2
  exact kk H1 l1 h1 h2 h3
end CORE
/-! what the tables and the heap say for a throw of the class: none of it changes while a billing is used -/
abbrev E_io : String := "java/lang/IndexOutOfBoundsException"
abbrev E_ia : String := "java/lang/IllegalArgumentException"
abbrev E_is : String := "java/lang/IllegalStateException"
abbrev E_up : List String := ["java/lang/RuntimeException", "java/lang/Exception"]
def x_dcl (C : String) : Cond := .declares ⟨C, "<init>", "(Ljava/lang/String;)V"⟩
def x_str : List (Nat × String) := [(113, "there are no lines"), (118, "there are 60 applications"), (135, "the application is paid already"), (140, "a waiver before it is not given"), (142, "the application is not in the state PAID"), (152, "there is no such line"), (155, "there is no such application"), (159, "an argument is out of its range"), (162, "there are 16 lines"), (164, "the line would have earned more than its value"), (166, "there are 6 steps"), (64, "the line has earned more than this value"), (77, "the work would become less"), (83, "the line has not so many goods"), (92, "no step has this threshold")]
def x_Ev (U : State) : Prop := va_Nw (.castable E_io E_io) U ∧ va_Nw (.castable E_ia E_ia) U ∧ va_Nw (.castable E_is E_is) U ∧ va_Nw (x_dcl "java/lang/RuntimeException") U ∧ va_Nw (x_dcl "java/lang/Exception") U ∧ va_Nw (x_dcl "java/lang/Throwable") U ∧ ∀ q ∈ x_str, ∃ a : Nat, vk_R RX0 q.1 q.2 a U
def x_Zz (A : Nat → Prop) (U : State) (H : Heap) : Prop := vx_Zq Bundle.tN "UNASSIGNED_STACK" Bundle.steD A U H ∧ vx_Zq Bundle.tN "SUPPRESSED_SENTINEL" Bundle.listD A U H
/-- both, as a callee wants them -/
def x_En (U : State) : Prop := x_Ev U ∧ x_Zz (fun _ => False) U U.heap
theorem x_Ev.warm {s U : State} (hW : s.WarmedH U.vm) (h : x_Ev s) : x_Ev U := by
  obtain ⟨h1, h2, h3, h4, h5, h6, h7⟩ := h
  exact ⟨va_Nw.warmC hW h1, va_Nw.warmC hW h2, va_Nw.warmC hW h3, va_Nw.warmD hW h4, va_Nw.warmD hW h5, va_Nw.warmD hW h6, fun q hq => by obtain ⟨a, ha⟩ := h7 q hq; exact ⟨a, vk_R.warm hW ha⟩⟩
theorem x_Ev.same {u U : State} (hv : U.vm = u.vm) (h : x_Ev u) : x_Ev U := by
  obtain ⟨h1, h2, h3, h4, h5, h6, h7⟩ := h
  exact ⟨va_Nw.same rfl hv.symm h1, va_Nw.same rfl hv.symm h2, va_Nw.same rfl hv.symm h3, va_Nw.same rfl hv.symm h4, va_Nw.same rfl hv.symm h5, va_Nw.same rfl hv.symm h6, fun q hq => by obtain ⟨a, ha⟩ := h7 q hq; exact ⟨a, vk_R.same hv ha⟩⟩
theorem x_Zz.moved {A : Nat → Prop} {u U : State} {H : Heap} (hvm : u.vm.Alike U.vm) (h : x_Zz A u H) : x_Zz A U H := ⟨vx_Zq.moved hvm h.1, vx_Zq.moved hvm h.2⟩
theorem x_Zz.kept {A : Nat → Prop} {U : State} {H H1 : Heap} (h : x_Zz A U H) (hq : ∀ a : Nat, a < H.size → ¬ A a → H1[a]? = H[a]?) : x_Zz A U H1 := ⟨vx_Zq.kept h.1 hq, vx_Zq.kept h.2 hq⟩
theorem x_Zz.narrow {A B : Nat → Prop} {U : State} {H : Heap} (h : x_Zz A U H) (hAB : ∀ q, B q → A q) : x_Zz B U H := ⟨vx_Zq.narrow h.1 hAB, vx_Zq.narrow h.2 hAB⟩
/-- at a call, in the heap of the method's own start -/
theorem x_En.call {s U : State} (h : x_En s) (hU : U.heap = s.heap) (hW : s.WarmedH U.vm) : x_En U := ⟨h.1.warm hW, by rw [hU]; exact h.2.moved hW.alike⟩
theorem x_En.calling {U : State} {g : JFrame} {mk : MethodId} {a : Array Value} (h : x_En U) : x_En (U.calling g mk a) := ⟨h.1.same rfl, h.2.moved (u := U) (Vm.Alike.refl U.vm)⟩
theorem pE_fb {av : List Value} {B : State → Prop} (h : FrameBlind (va_Pc av B)) : FrameBlind (va_Pc av (fun U => B U ∧ x_En U)) := fun a U g mk q => ⟨q.1, (h a U g mk ⟨q.1, q.2.1⟩).2, q.2.2.calling⟩
theorem pE_mk {av : List Value} {B : State → Prop} {s : State} {H : Heap} (hH : H = s.heap) (h : ∀ U : State, U.heap = H → s.WarmedH U.vm → va_Pc av B av.toArray U) (hE : x_En s) : ∀ U : State, U.heap = H → s.WarmedH U.vm → va_Pc av (fun U => B U ∧ x_En U) av.toArray U := fun U hU hW => ⟨rfl, (h U hU hW).2, hE.call (hU.trans hH) hW⟩
def t_io : List Cond := Cond.classLink RX0 150 E_io :: Cond.initialized E_io :: (vx_atS RX0 154 E_io E_up).filter goodWord
def t_ia : List Cond := Cond.classLink RX0 157 E_ia :: Cond.initialized E_ia :: (vx_atS RX0 161 E_ia E_up).filter goodWord
def t_is : List Cond := Cond.classLink RX0 62 E_is :: Cond.initialized E_is :: (vx_atS RX0 66 E_is E_up).filter goodWord
section THROW
variable {p : Program} {l : Launch} {e : Env} {R : Room} {s : State} {m : MethodId} {args : Array Value} {below : List Frame} {meth : Method} {c : Code} {free : Addr → Prop} {Qc : Array Value → State → Outcome → State → Prop} {PX : String → Prop} {cc : ByteArray} {pc : Nat} {ls : Array Slot} {rest : List Value} {Ts : List Cond}
set_option maxRecDepth 20000 in
theorem r_io {is : Nat} {text : String} (hexec : p.tables.exec = Jvm.exec) (hb : c.code = cc) (hl : l.stackTraces = false) (hown : s.vm.findClass RX0 = some m.cls) (hts : ∀ w ∈ Ts, w.before args s = true) (hT : ∀ w ∈ t_io, w ∈ Ts) (hE : x_En s) (hs : (is, text) ∈ x_str) (hsize : ls.size = c.maxLocals)
    (d0 : decode cc pc = .ok (.new 150, 3)) (d3 : decode cc (pc + 3) = .ok (.dup, 1)) (d4 : decode cc (pc + 4) = .ok (.ldc is, 2)) (d6 : decode cc (pc + 6) = .ok (.invokespecial 154, 3)) (d9 : decode cc (pc + 9) = .ok (.athrow, 1))
    (htab : ∀ x ∈ c.exceptionTable.toList, False) (hR : 6 ≤ R.frames ∧ (rest.map fun v => v.category).sum + 82 ≤ R.locals ∧ 1 ≤ R.cells ∧ 6 ≤ R.slots) (hlocks : meth.locks = false) (hP : PX E_io) :
    W p l e R s m args below meth c s.heap [] 0 0 (vx_MQ below Qc (g_X PX) args s 1 6 free) (F0 m pc ls rest) := by
  obtain ⟨⟨h1, h2, h3, h4, h5, h6, h7⟩, hU, hN⟩ := hE
  obtain ⟨sa, hsa⟩ := h7 _ hs
  exact vx_throwS (names := E_up) hexec hb hl hown (by decide +kernel) (by decide +kernel) (hts _ (hT _ List.mem_cons_self)) (hts _ (hT _ (List.mem_cons_of_mem _ List.mem_cons_self))) hsa
    (vx_hat (L := vx_atS RX0 154 E_io E_up) (B := [.castable E_io E_io, x_dcl "java/lang/RuntimeException", x_dcl "java/lang/Exception", x_dcl "java/lang/Throwable"]) (fun w hw => hts w (hT w (List.mem_cons_of_mem _ (List.mem_cons_of_mem _ hw)))) (by decide +kernel) (vx_c (va_Nw.use rfl h1) (vx_c (va_Nw.use rfl h4) (vx_c (va_Nw.use rfl h5) (vx_c (va_Nw.use rfl h6) vx_n)))))
    (by decide +kernel) hU hN va_S.rf hsize d0 d3 d4 d6 d9 (fun x hx => (htab x hx).elim) hR.1 hR.2.1 (by omega) (by omega) hlocks (fun t _ ha hq => ⟨hP, ha, hq⟩) (fun z hz => by cases hz) (Nat.le_refl _) (Nat.le_refl _)
set_option maxRecDepth 20000 in
theorem r_ia {is : Nat} {text : String} (hexec : p.tables.exec = Jvm.exec) (hb : c.code = cc) (hl : l.stackTraces = false) (hown : s.vm.findClass RX0 = some m.cls) (hts : ∀ w ∈ Ts, w.before args s = true) (hT : ∀ w ∈ t_ia, w ∈ Ts) (hE : x_En s) (hs : (is, text) ∈ x_str) (hsize : ls.size = c.maxLocals)
    (d0 : decode cc pc = .ok (.new 157, 3)) (d3 : decode cc (pc + 3) = .ok (.dup, 1)) (d4 : decode cc (pc + 4) = .ok (.ldc is, 2)) (d6 : decode cc (pc + 6) = .ok (.invokespecial 161, 3)) (d9 : decode cc (pc + 9) = .ok (.athrow, 1))
    (htab : ∀ x ∈ c.exceptionTable.toList, False) (hR : 6 ≤ R.frames ∧ (rest.map fun v => v.category).sum + 82 ≤ R.locals ∧ 1 ≤ R.cells ∧ 6 ≤ R.slots) (hlocks : meth.locks = false) (hP : PX E_ia) :
    W p l e R s m args below meth c s.heap [] 0 0 (vx_MQ below Qc (g_X PX) args s 1 6 free) (F0 m pc ls rest) := by
  obtain ⟨⟨h1, h2, h3, h4, h5, h6, h7⟩, hU, hN⟩ := hE
  obtain ⟨sa, hsa⟩ := h7 _ hs
  exact vx_throwS (names := E_up) hexec hb hl hown (by decide +kernel) (by decide +kernel) (hts _ (hT _ List.mem_cons_self)) (hts _ (hT _ (List.mem_cons_of_mem _ List.mem_cons_self))) hsa
    (vx_hat (L := vx_atS RX0 161 E_ia E_up) (B := [.castable E_ia E_ia, x_dcl "java/lang/RuntimeException", x_dcl "java/lang/Exception", x_dcl "java/lang/Throwable"]) (fun w hw => hts w (hT w (List.mem_cons_of_mem _ (List.mem_cons_of_mem _ hw)))) (by decide +kernel) (vx_c (va_Nw.use rfl h2) (vx_c (va_Nw.use rfl h4) (vx_c (va_Nw.use rfl h5) (vx_c (va_Nw.use rfl h6) vx_n)))))
    (by decide +kernel) hU hN va_S.rf hsize d0 d3 d4 d6 d9 (fun x hx => (htab x hx).elim) hR.1 hR.2.1 (by omega) (by omega) hlocks (fun t _ ha hq => ⟨hP, ha, hq⟩) (fun z hz => by cases hz) (Nat.le_refl _) (Nat.le_refl _)
set_option maxRecDepth 20000 in
theorem r_is {is : Nat} {text : String} (hexec : p.tables.exec = Jvm.exec) (hb : c.code = cc) (hl : l.stackTraces = false) (hown : s.vm.findClass RX0 = some m.cls) (hts : ∀ w ∈ Ts, w.before args s = true) (hT : ∀ w ∈ t_is, w ∈ Ts) (hE : x_En s) (hs : (is, text) ∈ x_str) (hsize : ls.size = c.maxLocals)
    (d0 : decode cc pc = .ok (.new 62, 3)) (d3 : decode cc (pc + 3) = .ok (.dup, 1)) (d4 : decode cc (pc + 4) = .ok (.ldc is, 2)) (d6 : decode cc (pc + 6) = .ok (.invokespecial 66, 3)) (d9 : decode cc (pc + 9) = .ok (.athrow, 1))
    (htab : ∀ x ∈ c.exceptionTable.toList, False) (hR : 6 ≤ R.frames ∧ (rest.map fun v => v.category).sum + 82 ≤ R.locals ∧ 1 ≤ R.cells ∧ 6 ≤ R.slots) (hlocks : meth.locks = false) (hP : PX E_is) :
    W p l e R s m args below meth c s.heap [] 0 0 (vx_MQ below Qc (g_X PX) args s 1 6 free) (F0 m pc ls rest) := by
  obtain ⟨⟨h1, h2, h3, h4, h5, h6, h7⟩, hU, hN⟩ := hE
  obtain ⟨sa, hsa⟩ := h7 _ hs
  exact vx_throwS (names := E_up) hexec hb hl hown (by decide +kernel) (by decide +kernel) (hts _ (hT _ List.mem_cons_self)) (hts _ (hT _ (List.mem_cons_of_mem _ List.mem_cons_self))) hsa
    (vx_hat (L := vx_atS RX0 66 E_is E_up) (B := [.castable E_is E_is, x_dcl "java/lang/RuntimeException", x_dcl "java/lang/Exception", x_dcl "java/lang/Throwable"]) (fun w hw => hts w (hT w (List.mem_cons_of_mem _ (List.mem_cons_of_mem _ hw)))) (by decide +kernel) (vx_c (va_Nw.use rfl h3) (vx_c (va_Nw.use rfl h4) (vx_c (va_Nw.use rfl h5) (vx_c (va_Nw.use rfl h6) vx_n)))))
    (by decide +kernel) hU hN va_S.rf hsize d0 d3 d4 d6 d9 (fun x hx => (htab x hx).elim) hR.1 hR.2.1 (by omega) (by omega) hlocks (fun t _ ha hq => ⟨hP, ha, hq⟩) (fun z hz => by cases hz) (Nat.le_refl _) (Nat.le_refl _)
/-- what a callee has thrown goes on to the caller; nothing was written -/
theorem r_out {E : String} {ce : Cell} {q : Addr} {H1 : Heap} {k n : Nat} (htab : ∀ x ∈ c.exceptionTable.toList, False) (hlocks : meth.locks = false) (h1 : s.heap.size ≤ H1.size) (h2 : ∀ q : Nat, q < s.heap.size → H1[q]? = s.heap[q]?) (hcell : H1[q]? = some ce) (hv : ce.vm = .none) (hcl : s.vm.findClass E = some ce.cls) (hP : PX E) (hk : k ≤ 1) (hn : n ≤ 6) :
    vx_W p l e R s m args below meth c H1 [] k n (vx_MQ below Qc (g_X PX) args s 1 6 free) (F0 m pc ls rest) q :=
  vx_out (fun x hx => (htab x hx).elim) hlocks hcell hv hcl (fun t ht _ => ⟨hP, by rw [ht]; exact h1, fun q hq => by rw [ht]; exact h2 q hq⟩) (fun z hz => by cases hz) hk hn
end THROW
end
section
/-! SMALL FACTS that the walks end with -/
theorem k_lt {a b : Nat} (ha : a < 2 ^ 31) (hb : b < 2 ^ 31) (c : nI a < nI b) : a < b := (nI_ltI ha hb).mp c
theorem k_nlt {a b : Nat} (ha : a < 2 ^ 31) (hb : b < 2 ^ 31) (c : ¬ nI a < nI b) : b ≤ a := Nat.not_lt.mp (fun h => c ((nI_ltI ha hb).mpr h))
theorem k_le {a b : Nat} (ha : a < 2 ^ 31) (hb : b < 2 ^ 31) (c : nI a ≤ nI b) : a ≤ b := (nI_leI ha hb).mp c
theorem k_nle {a b : Nat} (ha : a < 2 ^ 31) (hb : b < 2 ^ 31) (c : ¬ nI a ≤ nI b) : b < a := Nat.not_le.mp (fun h => c ((nI_leI ha hb).mpr h))
theorem k_eq {a b : Nat} (ha : a < 2 ^ 31) (hb : b < 2 ^ 31) (c : nI a = nI b) : a = b := (nI_eq ha hb).mp c
theorem k_ne {a b : Nat} (_ : a < 2 ^ 31) (_ : b < 2 ^ 31) (c : ¬ nI a = nI b) : ¬ a = b := fun h => c (by rw [h])
theorem k_pred {n : Nat} (h : 1 ≤ n) : nI n - 1 = nI (n - 1) := by
  obtain ⟨k, rfl⟩ : ∃ k, n = k + 1 := ⟨n - 1, by omega⟩
  exact nI_pred k
theorem k_dec {n : Nat} (h : 1 ≤ n) : nI n + Int32.ofInt (-1) = nI (n - 1) := by
  obtain ⟨k, rfl⟩ : ∃ k, n = k + 1 := ⟨n - 1, by omega⟩
  exact pk_m1 k
theorem k_cge {x y : Int64} (c : 0 ≤ lg_cmp x y) : ¬ x < y := Int64.not_lt.mpr ((lg_cmp_ge x y).mp c)
theorem k_cnge {x y : Int64} (c : ¬ 0 ≤ lg_cmp x y) : x < y := Int64.not_le.mp (fun h => c ((lg_cmp_ge x y).mpr h))
theorem k_ceq {x y : Int64} (c : lg_cmp x y = 0) : x = y := by
  unfold lg_cmp at c
  by_cases h : x > y
  · rw [if_pos h] at c; exact absurd c (by decide)
  · rw [if_neg h] at c
    by_cases h2 : x = y
    · exact h2
    · rw [if_neg h2] at c; exact absurd c (by decide)
theorem k_cne {x y : Int64} (c : ¬ lg_cmp x y = 0) : ¬ x = y := by
  intro h
  apply c
  unfold lg_cmp
  rw [if_neg (by rw [h]; exact Int64.lt_irrefl), if_pos h]
theorem k_cgt {x y : Int64} (c : 0 < lg_cmp x y) : y < x := by
  unfold lg_cmp at c
  by_cases h : x > y
  · exact h
  · rw [if_neg h] at c
    by_cases h2 : x = y
    · rw [if_pos h2] at c; exact absurd c (by decide)
    · rw [if_neg h2] at c; exact absurd c (by decide)
theorem k_cngt {x y : Int64} (c : ¬ 0 < lg_cmp x y) : ¬ y < x := by
  intro h
  apply c
  unfold lg_cmp
  rw [if_pos (show x > y from h)]
  decide
theorem ixL_neg {n : Nat} {x : Int32} (c : x < 0) : ixL n x = none := by
  have h : x.toInt < 0 := by
    have := Int32.lt_iff_toInt_lt.mp c
    rwa [Int32.toInt_zero] at this
  unfold ixL
  rw [if_neg (by omega)]
theorem ixL_big {n : Nat} {x : Int32} (hn : n < 2 ^ 31) (c : ¬ x < nI n) : ixL n x = none := by
  have h : ¬ x.toInt < (nI n).toInt := fun h => c (Int32.lt_iff_toInt_lt.mpr h)
  rw [nI_toInt hn] at h
  unfold ixL
  rw [if_neg (by omega)]
theorem ixL_nI {n j : Nat} (hn : n < 2 ^ 31) (h : j < n) : ixL n (nI j) = some j := by
  unfold ixL
  rw [nI_toInt (by omega), if_pos ⟨by omega, by omega⟩]
  rfl
theorem ixL_in {n : Nat} {x : Int32} (hn : n < 2 ^ 31) (c0 : ¬ x < 0) (c : x < nI n) : ∃ j : Nat, j < n ∧ x = nI j ∧ ixL n x = some j := by
  obtain ⟨j, hj, rfl⟩ := nI_of c0
  have h := (nI_ltI hj hn).mp c
  exact ⟨j, h, rfl, ixL_nI hn h⟩
theorem ixL_c {n : Nat} {x : Int32} (hn : n < 2 ^ 31) : ixL n x = none ∨ ∃ j : Nat, j < n ∧ x = nI j ∧ ixL n x = some j := by
  by_cases c0 : x < 0
  · exact Or.inl (ixL_neg c0)
  · by_cases c : x < nI n
    · exact Or.inr (ixL_in hn c0 c)
    · exact Or.inl (ixL_big hn c)
theorem inR_lo {n lo hi : Int32} (c : n < lo) : inR n lo hi = false := by
  unfold inR
  rw [decide_eq_false (Int32.not_le.mpr c)]; rfl
theorem inR_hi {n lo hi : Int32} (c : hi < n) : inR n lo hi = false := by
  unfold inR
  rw [decide_eq_false (p := n ≤ hi) (Int32.not_le.mpr c), Bool.and_false]
theorem inR_ok {n lo hi : Int32} (c1 : ¬ n < lo) (c2 : ¬ hi < n) : inR n lo hi = true := by
  unfold inR
  rw [decide_eq_true (Int32.not_lt.mp c1), decide_eq_true (Int32.not_lt.mp c2)]; rfl
theorem inR_le {n lo hi : Int32} (h : inR n lo hi = true) : lo ≤ n ∧ n ≤ hi := by
  unfold inR at h
  rw [Bool.and_eq_true] at h
  exact ⟨of_decide_eq_true h.1, of_decide_eq_true h.2⟩
theorem bl_c (b : Bool) : b = true ∨ b = false := by cases b <;> simp
/-! calls on the whole world -/
section SELF
variable {p : Program} {l : Launch} {e : Env} {R : Room} {s : State} {m : MethodId} {args : Array Value} {below : List Frame} {meth : Method} {c : Code} {H : Heap} {locs : List Loc} {cells slots : Nat} {Q : State → Prop}
variable {mc ms : Nat} {A0 : Nat → Prop} {D : va_G} {a : Array Value} {pc : Nat} {ls : Array Slot} {st0 rest : List Value}
theorem g_calliS {S : Type} {post : Int32 → S → Prop} {wf : S → va_W} {wc : va_W} (hr : va_Run p l e R s m args below meth c H locs cells slots mc ms (F0 m pc ls st0) rest (va_Qi post (fun u => qW D (va_A wc H.size) (wf u)) (va_A wc H.size) a) (va_A wc H.size))
    (hP : va_P D vwCl wc H) (hD : va_D A0 wc) (hS : va_S A0 s.heap H locs) (hA : ∀ q, s.heap.size ≤ q → A0 q)
    (kk : ∀ (r : Int32) (u : S) (H : Heap) (locs : List Loc), post r u → va_P D vwCl (wf u) H → va_D A0 (wf u) → va_S A0 s.heap H locs → W p l e R s m args below meth c H locs (cells + mc) (slots + ms) Q (F0 m (pc + 3) ls (.int r :: rest))) : W p l e R s m args below meth c H locs cells slots Q (F0 m pc ls st0) :=
  g_calliW (wl := []) (wr := []) hr (List.append_nil _).symm hP hD hS hA (fun r u H locs hq h1 h2 h3 => kk r u H locs hq (by rw [List.nil_append, List.append_nil] at h1; exact h1) (by rw [List.nil_append, List.append_nil] at h2; exact h2) h3)
theorem g_callvS {S : Type} {post : S → Prop} {wf : S → va_W} {wc : va_W} (hr : va_Run p l e R s m args below meth c H locs cells slots mc ms (F0 m pc ls st0) rest (va_Qv post (fun u => qW D (va_A wc H.size) (wf u)) (va_A wc H.size) a) (va_A wc H.size))
    (hP : va_P D vwCl wc H) (hD : va_D A0 wc) (hS : va_S A0 s.heap H locs) (hA : ∀ q, s.heap.size ≤ q → A0 q)
    (kk : ∀ (u : S) (H : Heap) (locs : List Loc), post u → va_P D vwCl (wf u) H → va_D A0 (wf u) → va_S A0 s.heap H locs → W p l e R s m args below meth c H locs (cells + mc) (slots + ms) Q (F0 m (pc + 3) ls rest)) : W p l e R s m args below meth c H locs cells slots Q (F0 m pc ls st0) :=
  g_callvW (wl := []) (wr := []) hr (List.append_nil _).symm hP hD hS hA (fun u H locs hq h1 h2 h3 => kk u H locs hq (by rw [List.nil_append, List.append_nil] at h1; exact h1) (by rw [List.nil_append, List.append_nil] at h2; exact h2) h3)
theorem g_callvXS {S : Type} {post : S → Prop} {PX : String → Prop} {wf : S → va_W} {wc : va_W} (hr : vx_Run p l e R s m args below meth c H locs cells slots mc ms (F0 m pc ls st0) rest (va_Qv post (fun u => qW D (va_A wc H.size) (wf u)) (va_A wc H.size) a) (g_X PX) (va_A wc H.size))
    (hP : va_P D vwCl wc H) (hD : va_D A0 wc) (hS : va_S A0 s.heap H locs) (hA : ∀ q, s.heap.size ≤ q → A0 q)
    (kx : ∀ (E : String) (ce : Cell) (q9 : Addr) (H1 : Heap) (locs : List Loc), PX E → H.size ≤ H1.size → (∀ q : Nat, q < H.size → H1[q]? = H[q]?) → va_P D vwCl wc H1 → va_S A0 s.heap H1 locs → H1[q9]? = some ce → ce.vm = .none → s.vm.findClass E = some ce.cls → vx_W p l e R s m args below meth c H1 locs (cells + mc) (slots + ms) Q (F0 m pc ls rest) q9)
    (kk : ∀ (u : S) (H : Heap) (locs : List Loc), post u → va_P D vwCl (wf u) H → va_D A0 (wf u) → va_S A0 s.heap H locs → W p l e R s m args below meth c H locs (cells + mc) (slots + ms) Q (F0 m (pc + 3) ls rest)) : W p l e R s m args below meth c H locs cells slots Q (F0 m pc ls st0) :=
  g_callvX (wl := []) (wr := []) hr (List.append_nil _).symm hP hD hS hA kx (fun u H locs hq h1 h2 h3 => kk u H locs hq (by rw [List.nil_append, List.append_nil] at h1; exact h1) (by rw [List.nil_append, List.append_nil] at h2; exact h2) h3)
end SELF
theorem x_best_le (st : FF) (p : Int32) : ∀ k : Nat, x_best st p k ≤ k
  | 0 => Nat.le_refl 0
  | k + 1 => by
    unfold x_best
    by_cases h : ¬ p < st (k + 1) ∧ st (x_best st p k) < st (k + 1)
    · rw [if_pos h]; exact Nat.le_refl _
    · rw [if_neg h]; exact Nat.le_succ_of_le (x_best_le st p k)
theorem x_fs_n {st : FF} {t : Int32} {n k : Nat} (h : k < n) (c : ¬ st k = t) : x_fs st t (n - k) k = x_fs st t (n - (k + 1)) (k + 1) := by
  obtain ⟨d, hd⟩ : ∃ d, n - k = d + 1 := ⟨n - k - 1, by omega⟩
  rw [hd, show n - (k + 1) = d by omega]
  show (if st k = t then some k else x_fs st t d (k + 1)) = _
  rw [if_neg c]
theorem x_fs_y {st : FF} {t : Int32} {n k : Nat} (h : k < n) (c : st k = t) : x_fs st t (n - k) k = some k := by
  obtain ⟨d, hd⟩ : ∃ d, n - k = d + 1 := ⟨n - k - 1, by omega⟩
  rw [hd]
  show (if st k = t then some k else x_fs st t d (k + 1)) = _
  rw [if_pos c]
theorem k_ne0 {d : Int32} (h : ¬ d = 0) : ¬ d.toInt64 = 0 := by
  intro e
  apply h
  have h1 : d.toInt64.toInt = 0 := by rw [e]; rfl
  rw [Int32.toInt_toInt64] at h1
  exact Int32.toInt_inj.mp (by rw [h1]; rfl)
/-- Met.ofW for a method of the library's own classes -/
theorem met_ofWF {l : Launch} {y : MethodName} {ws ws' : List Cond} {rm : Room} {Pc : Array Value → State → Prop} {Qc : Array Value → State → Outcome → State → Prop} {mc ms : Nat} {free : Addr → Prop} {cc : ByteArray} {maxL : Nat} {ret : Option FieldType}
    (hy : plainFor y = true) (hw : ws = Cond.code y cc maxL ret :: ws')
    (body : ∀ p e s m args below meth c s₁, BodyLoose p l y (headSpec ws rm) cc maxL ret e s m args below meth c s₁ → c.maxLocals = maxL → Pc args s →
      W p l e (headSpec ws rm).room s m args below meth c s.heap [] 0 0 (MQ below Qc args s mc ms free) (entryFrame m args maxL)) : Met l y ws rm Pc Qc mc ms free := by
  refine MetFree.of_bodySF (code := cc) (maxLocals := maxL) (ret := ret) hy ?_ ?_
  · intro args s m h hn
    obtain ⟨meth, c, h1, h2, h3, h4, h5, h6, -, -⟩ := Cond.code_spec hn (atoms_spec (ws := ws) h _ (by rw [hw]; exact List.mem_cons_self))
    exact ⟨meth, c, h1, h2, h3, h4, h5, h6⟩
  · intro p e s m args below meth c s₁ B hml hP _
    have hh0 : s₁.heap = s.heap := by rw [B.state]; rfl
    obtain ⟨t, a1, o, b1, b2, b3⟩ := body p e s m args below meth c s₁ B hml hP s₁ hh0 (Stand.of_body B)
    exact ⟨t, o, a1, b1, b2, ⟨b3.1, b3.2⟩⟩
theorem r_outL {c : Code} {meth : Method} {m : MethodId} {p : Program} {l : Launch} {e : Env} {R : Room} {s : State} {args : Array Value} {below : List Frame} {A : Addr → Prop} {Qc : Array Value → State → Outcome → State → Prop} {PX : String → Prop} {pc : Nat} {ls : Array Slot} {rest : List Value} {E : String} {ce : Cell} {q : Addr} {H1 : Heap} {locs : List Loc} {k n : Nat} (htab : ∀ x ∈ c.exceptionTable.toList, False) (hlocks : meth.locks = false) (hS : va_S A s.heap H1 locs) (h1 : s.heap.size ≤ H1.size) (h2 : ∀ q : Nat, q < s.heap.size → H1[q]? = s.heap[q]?) (hcell : H1[q]? = some ce) (hv : ce.vm = .none) (hcl : s.vm.findClass E = some ce.cls) (hP : PX E) (hk : k ≤ 1) (hn : n ≤ 6) :
    vx_W p l e R s m args below meth c H1 locs k n (vx_MQ below Qc (g_X PX) args s 1 6 A) (F0 m pc ls rest) q :=
  vx_out (fun x hx => (htab x hx).elim) hlocks hcell hv hcl (fun t ht _ => ⟨hP, by rw [ht]; exact h1, fun q hq => by rw [ht]; exact h2 q hq⟩) hS.2.2 hk hn
theorem x_split_ok {M : MM} {x p : Int32} {j : Nat} (h1 : ixL (m_ln M) x = some j) (h2 : inR p 1 (m_lv M j - 1) = true) (h3 : ¬ m_ln M = 16) : x_split M x p = (0, nI (m_ln M), mk (upd (upd (m_lv M) (m_ln M) p) j (m_lv M j - p)) (x_mv (m_le M) j (m_ln M) p (m_lv M j)) (x_mv (m_lw M) j (m_ln M) p (m_lv M j)) (x_mv (m_lb M) j (m_ln M) p (m_lv M j)) (x_mv (m_lh M) j (m_ln M) p (m_lv M j)) (m_ln M + 1) (m_st M) (m_sr M) (m_sn M) (m_rt M) (m_hb M) (m_as M) (m_aa M) (m_ab M) (m_ah M) (m_an M)) := by
  simp only [x_split, h1, h2, if_true, if_neg h3]
theorem x_bill_fix (M : MM) (r : Int32) : ∀ k : Nat, m_ln (x_bill M r k) = m_ln M ∧ m_an (x_bill M r k) = m_an M ∧ m_lv (x_bill M r k) = m_lv M ∧ m_le (x_bill M r k) = m_le M ∧ m_lw (x_bill M r k) = m_lw M ∧ m_st (x_bill M r k) = m_st M ∧ m_sr (x_bill M r k) = m_sr M ∧ m_sn (x_bill M r k) = m_sn M ∧ m_rt (x_bill M r k) = m_rt M ∧ m_hb (x_bill M r k) = m_hb M ∧ m_as (x_bill M r k) = m_as M ∧ m_aa (x_bill M r k) = m_aa M ∧ m_ab (x_bill M r k) = m_ab M ∧ m_ah (x_bill M r k) = m_ah M
  | 0 => ⟨rfl, rfl, rfl, rfl, rfl, rfl, rfl, rfl, rfl, rfl, rfl, rfl, rfl, rfl⟩
  | k + 1 => x_bill_fix M r k
theorem x_close_ok {M N : MM} (h1 : ¬ m_ln M = 0) (h2 : ¬ m_an M = 60) (hN : N = x_bill (x_cl1 M) (x_rate (x_cl1 M)) (m_ln M)) (hl : m_ln N = m_ln M) : x_close M = (0, nI (m_an M), s_an (s_ah (s_ab (s_as N (upd (m_as N) (m_an M) 0)) (upd (m_ab N) (m_an M) (psum (m_lb N) (m_ln M)))) (upd (m_ah N) (m_an M) (psum (m_lh N) (m_ln M)))) (m_an M + 1)) := by
  unfold x_close
  rw [if_neg h1, if_neg h2, ← hN]
  unfold z_app
  rw [hl]
theorem x_fl_n {M : MM} {p n k : Nat} (h : k < n) (c : ¬ x_rank M k = p) : x_fl M p (n - k) k = x_fl M p (n - (k + 1)) (k + 1) := by
  obtain ⟨d, hd⟩ : ∃ d, n - k = d + 1 := ⟨n - k - 1, by omega⟩
  rw [hd, show n - (k + 1) = d by omega]
  show (if x_rank M k = p then k else x_fl M p d (k + 1)) = _
  rw [if_neg c]
theorem x_fl_y {M : MM} {p n k : Nat} (c : x_rank M k = p) : x_fl M p n k = k := by
  cases n with
  | zero => rfl
  | succ d =>
    show (if x_rank M k = p then k else x_fl M p d (k + 1)) = _
    rw [if_pos c]
theorem cnt2_le (f : FF) : ∀ n : Nat, cnt2 f n ≤ n
  | 0 => Nat.le_refl 0
  | k + 1 => by
    unfold cnt2
    have := cnt2_le f k
    by_cases h : f k = 2
    · rw [if_pos h]; omega
    · rw [if_neg h]; omega
/-! a write to the world, as a write to the state -/
theorem q0_lv {h : Nat → Nat} {cA : ClassId} {M : MM} {f : FF} : List.set (w0 h cA M) 1 (h 1, .inl (cA, 16, .inl f)) = w0 h cA (s_lv M f) := rfl
theorem q0_le {h : Nat → Nat} {cA : ClassId} {M : MM} {f : FF} : List.set (w0 h cA M) 2 (h 2, .inl (cA, 16, .inl f)) = w0 h cA (s_le M f) := rfl
theorem q0_lw {h : Nat → Nat} {cA : ClassId} {M : MM} {f : FF} : List.set (w0 h cA M) 3 (h 3, .inl (cA, 16, .inl f)) = w0 h cA (s_lw M f) := rfl
theorem q0_lb {h : Nat → Nat} {cA : ClassId} {M : MM} {f : FF} : List.set (w0 h cA M) 4 (h 4, .inl (cA, 16, .inl f)) = w0 h cA (s_lb M f) := rfl
theorem q0_lh {h : Nat → Nat} {cA : ClassId} {M : MM} {f : FF} : List.set (w0 h cA M) 5 (h 5, .inl (cA, 16, .inl f)) = w0 h cA (s_lh M f) := rfl
theorem q0_st {h : Nat → Nat} {cA : ClassId} {M : MM} {f : FF} : List.set (w0 h cA M) 6 (h 6, .inl (cA, 6, .inl f)) = w0 h cA (s_st M f) := rfl
theorem q0_sr {h : Nat → Nat} {cA : ClassId} {M : MM} {f : FF} : List.set (w0 h cA M) 7 (h 7, .inl (cA, 6, .inl f)) = w0 h cA (s_sr M f) := rfl
theorem q0_as {h : Nat → Nat} {cA : ClassId} {M : MM} {f : FF} : List.set (w0 h cA M) 8 (h 8, .inl (cA, 60, .inl f)) = w0 h cA (s_as M f) := rfl
theorem q0_aa {h : Nat → Nat} {cA : ClassId} {M : MM} {f : FF} : List.set (w0 h cA M) 9 (h 9, .inl (cA, 60, .inl f)) = w0 h cA (s_aa M f) := rfl
theorem q0_ab {h : Nat → Nat} {cA : ClassId} {M : MM} {f : FF} : List.set (w0 h cA M) 10 (h 10, .inl (cA, 60, .inl f)) = w0 h cA (s_ab M f) := rfl
theorem q0_ah {h : Nat → Nat} {cA : ClassId} {M : MM} {f : FF} : List.set (w0 h cA M) 11 (h 11, .inl (cA, 60, .inl f)) = w0 h cA (s_ah M f) := rfl
theorem q0_ln {h : Nat → Nat} {cA : ClassId} {M : MM} {n : Nat} : List.set (w0 h cA M) 0 (h 0, .inr (0, List.set [.ref (h 1), .ref (h 2), .ref (h 3), .ref (h 4), .ref (h 5), .int (nI (m_ln M)), .ref (h 6), .ref (h 7), .int (nI (m_sn M)), .int (m_hb M), .ref (h 8), .ref (h 9), .ref (h 10), .ref (h 11), .int (nI (m_an M))] 5 (.int (nI n)))) = w0 h cA (s_ln M n) := rfl
theorem q0_sn {h : Nat → Nat} {cA : ClassId} {M : MM} {n : Nat} : List.set (w0 h cA M) 0 (h 0, .inr (0, List.set [.ref (h 1), .ref (h 2), .ref (h 3), .ref (h 4), .ref (h 5), .int (nI (m_ln M)), .ref (h 6), .ref (h 7), .int (nI (m_sn M)), .int (m_hb M), .ref (h 8), .ref (h 9), .ref (h 10), .ref (h 11), .int (nI (m_an M))] 8 (.int (nI n)))) = w0 h cA (s_sn M n) := rfl
theorem q0_an {h : Nat → Nat} {cA : ClassId} {M : MM} {n : Nat} : List.set (w0 h cA M) 0 (h 0, .inr (0, List.set [.ref (h 1), .ref (h 2), .ref (h 3), .ref (h 4), .ref (h 5), .int (nI (m_ln M)), .ref (h 6), .ref (h 7), .int (nI (m_sn M)), .int (m_hb M), .ref (h 8), .ref (h 9), .ref (h 10), .ref (h 11), .int (nI (m_an M))] 14 (.int (nI n)))) = w0 h cA (s_an M n) := rfl
theorem q0_hb {h : Nat → Nat} {cA : ClassId} {M : MM} {n : Int32} : List.set (w0 h cA M) 0 (h 0, .inr (0, List.set [.ref (h 1), .ref (h 2), .ref (h 3), .ref (h 4), .ref (h 5), .int (nI (m_ln M)), .ref (h 6), .ref (h 7), .int (nI (m_sn M)), .int (m_hb M), .ref (h 8), .ref (h 9), .ref (h 10), .ref (h 11), .int (nI (m_an M))] 9 (.int n))) = w0 h cA (s_hb M n) := rfl
theorem q1_lv {h : Nat → Nat} {cA : ClassId} {rf : Int32} {M : MM} {f : FF} : List.set (w1 h cA rf M) 1 (h 1, .inl (cA, 16, .inl f)) = w1 h cA rf (s_lv M f) := rfl
theorem q1_le {h : Nat → Nat} {cA : ClassId} {rf : Int32} {M : MM} {f : FF} : List.set (w1 h cA rf M) 2 (h 2, .inl (cA, 16, .inl f)) = w1 h cA rf (s_le M f) := rfl
theorem q1_lw {h : Nat → Nat} {cA : ClassId} {rf : Int32} {M : MM} {f : FF} : List.set (w1 h cA rf M) 3 (h 3, .inl (cA, 16, .inl f)) = w1 h cA rf (s_lw M f) := rfl
theorem q1_lb {h : Nat → Nat} {cA : ClassId} {rf : Int32} {M : MM} {f : FF} : List.set (w1 h cA rf M) 4 (h 4, .inl (cA, 16, .inl f)) = w1 h cA rf (s_lb M f) := rfl
theorem q1_lh {h : Nat → Nat} {cA : ClassId} {rf : Int32} {M : MM} {f : FF} : List.set (w1 h cA rf M) 5 (h 5, .inl (cA, 16, .inl f)) = w1 h cA rf (s_lh M f) := rfl
theorem q1_rt {h : Nat → Nat} {cA : ClassId} {rf : Int32} {M : MM} {f : FF} : List.set (w1 h cA rf M) 6 (h 6, .inl (cA, 1001, .inl f)) = w1 h cA rf (s_rt M f) := rfl
theorem q1_as {h : Nat → Nat} {cA : ClassId} {rf : Int32} {M : MM} {f : FF} : List.set (w1 h cA rf M) 7 (h 7, .inl (cA, 60, .inl f)) = w1 h cA rf (s_as M f) := rfl
theorem q1_aa {h : Nat → Nat} {cA : ClassId} {rf : Int32} {M : MM} {f : FF} : List.set (w1 h cA rf M) 8 (h 8, .inl (cA, 60, .inl f)) = w1 h cA rf (s_aa M f) := rfl
theorem q1_ab {h : Nat → Nat} {cA : ClassId} {rf : Int32} {M : MM} {f : FF} : List.set (w1 h cA rf M) 9 (h 9, .inl (cA, 60, .inl f)) = w1 h cA rf (s_ab M f) := rfl
theorem q1_ah {h : Nat → Nat} {cA : ClassId} {rf : Int32} {M : MM} {f : FF} : List.set (w1 h cA rf M) 10 (h 10, .inl (cA, 60, .inl f)) = w1 h cA rf (s_ah M f) := rfl
theorem q1_ln {h : Nat → Nat} {cA : ClassId} {rf : Int32} {M : MM} {n : Nat} : List.set (w1 h cA rf M) 0 (h 0, .inr (1, List.set [.int rf, .int (nI (m_ln M)), .ref (h 1), .ref (h 2), .ref (h 3), .ref (h 4), .ref (h 5), .ref (h 6), .int (m_hb M), .int (nI (m_an M)), .ref (h 7), .ref (h 8), .ref (h 9), .ref (h 10)] 1 (.int (nI n)))) = w1 h cA rf (s_ln M n) := rfl
theorem q1_an {h : Nat → Nat} {cA : ClassId} {rf : Int32} {M : MM} {n : Nat} : List.set (w1 h cA rf M) 0 (h 0, .inr (1, List.set [.int rf, .int (nI (m_ln M)), .ref (h 1), .ref (h 2), .ref (h 3), .ref (h 4), .ref (h 5), .ref (h 6), .int (m_hb M), .int (nI (m_an M)), .ref (h 7), .ref (h 8), .ref (h 9), .ref (h 10)] 9 (.int (nI n)))) = w1 h cA rf (s_an M n) := rfl
theorem q1_hb {h : Nat → Nat} {cA : ClassId} {rf : Int32} {M : MM} {n : Int32} : List.set (w1 h cA rf M) 0 (h 0, .inr (1, List.set [.int rf, .int (nI (m_ln M)), .ref (h 1), .ref (h 2), .ref (h 3), .ref (h 4), .ref (h 5), .ref (h 6), .int (m_hb M), .int (nI (m_an M)), .ref (h 7), .ref (h 8), .ref (h 9), .ref (h 10)] 8 (.int n))) = w1 h cA rf (s_hb M n) := rfl
theorem q1_rf {h : Nat → Nat} {cA : ClassId} {rf n : Int32} {M : MM} : List.set (w1 h cA rf M) 0 (h 0, .inr (1, List.set [.int rf, .int (nI (m_ln M)), .ref (h 1), .ref (h 2), .ref (h 3), .ref (h 4), .ref (h 5), .ref (h 6), .int (m_hb M), .int (nI (m_an M)), .ref (h 7), .ref (h 8), .ref (h 9), .ref (h 10)] 0 (.int n))) = w1 h cA n M := rfl
/-! for the reference -/
def OK1 (M : MM) : Prop := m_ln M ≤ 16 ∧ m_an M ≤ 60
def y_post (o : RR) (r : Int32) (u : Int32 × MM) : Prop := o.2.1 = r ∧ u.1 = nI o.1 ∧ u.2 = o.2.2
theorem y_pk {o : RR} {r rf : Int32} {M : MM} (k : Nat) (h : o = (k, r, M)) (hk : rf = nI k) : y_post o r (rf, M) := by rw [h]; exact ⟨rfl, hk, rfl⟩
theorem mk_eta (M : MM) : M = mk (m_lv M) (m_le M) (m_lw M) (m_lb M) (m_lh M) (m_ln M) (m_st M) (m_sr M) (m_sn M) (m_rt M) (m_hb M) (m_as M) (m_aa M) (m_ab M) (m_ah M) (m_an M) := rfl
def z_put (M : MM) (j : Nat) (v o w b h : Int32) : MM := mk (upd (m_lv M) j v) (upd (m_le M) j o) (upd (m_lw M) j w) (upd (m_lb M) j b) (upd (m_lh M) j h) (m_ln M) (m_st M) (m_sr M) (m_sn M) (m_rt M) (m_hb M) (m_as M) (m_aa M) (m_ab M) (m_ah M) (m_an M)
theorem y_pf_n {f : FF} {n k : Nat} (h : k < n) (c : f k = 2) : y_pf f (n - k) k = y_pf f (n - (k + 1)) (k + 1) := by
  obtain ⟨d, hd⟩ : ∃ d, n - k = d + 1 := ⟨n - k - 1, by omega⟩
  rw [hd, show n - (k + 1) = d by omega]
  show (if f k = 2 then y_pf f d (k + 1) else k) = _
  rw [if_pos c]
theorem y_pf_y {f : FF} {n k : Nat} (c : ¬ f k = 2) : y_pf f n k = k := by
  cases n with
  | zero => rfl
  | succ d =>
    show (if f k = 2 then y_pf f d (k + 1) else k) = _
    rw [if_neg c]
theorem y_pf_le (f : FF) : ∀ n k : Nat, y_pf f n k ≤ k + n
  | 0, k => Nat.le_refl k
  | n + 1, k => by
    unfold y_pf
    have := y_pf_le f n (k + 1)
    by_cases h : f k = 2
    · rw [if_pos h]; omega
    · rw [if_neg h]; omega
theorem cntS_le (f : FF) : ∀ n : Nat, cntS f n ≤ n
  | 0 => Nat.le_refl 0
  | k + 1 => by
    unfold cntS
    have := cntS_le f k
    by_cases h : f k = -1
    · rw [if_pos h]; omega
    · rw [if_neg h]; omega
theorem y_scan_y {rt : FF} {k : Nat} (c : ¬ rt k = -1) : y_scan rt k = rt k := by
  cases k with
  | zero => rfl
  | succ d =>
    show (if rt (d + 1) = -1 then y_scan rt d else rt (d + 1)) = _
    rw [if_neg c]
theorem y_scan_n {rt : FF} {k : Nat} (h : 1 ≤ k) (c : rt k = -1) : y_scan rt k = y_scan rt (k - 1) := by
  obtain ⟨d, rfl⟩ : ∃ d, k = d + 1 := ⟨k - 1, by omega⟩
  show (if rt (d + 1) = -1 then y_scan rt d else rt (d + 1)) = _
  rw [if_pos c]; rfl
theorem y_rank_le (w d : FF) (j : Nat) : ∀ n : Nat, z_rk w d j n ≤ n
  | 0 => Nat.le_refl 0
  | k + 1 => by
    unfold z_rk
    have := y_rank_le w d j k
    by_cases h : z_ah w d k j = true
    · rw [if_pos h]; omega
    · rw [if_neg h]; omega
theorem y_bill_fix (M : MM) : ∀ k : Nat, m_ln (y_bill M k) = m_ln M ∧ m_an (y_bill M k) = m_an M
  | 0 => ⟨rfl, rfl⟩
  | k + 1 => y_bill_fix M k
theorem y_close_ok {M N : MM} (h1 : ¬ m_ln M = 0) (h2 : ¬ m_an M = 60) (hN : N = y_bill (y_cl1 M) (m_ln M)) (hl : m_ln N = m_ln M) : y_close M = (0, nI (m_an M), s_an (s_ah (s_ab (s_as N (upd (m_as N) (m_an M) 0)) (upd (m_ab N) (m_an M) (psum (m_lb N) (m_ln M)))) (upd (m_ah N) (m_an M) (psum (m_lh N) (m_ln M)))) (m_an M + 1)) := by
  unfold y_close
  rw [if_neg h1, if_neg h2, ← hN]
  unfold z_app
  rw [hl]
theorem inR_ix {n : Nat} {x : Int32} (hn : n < 2 ^ 30) : (if inR x 0 (nI n - 1) = true then (1 : Int32) else 0) = if (ixL n x).isSome = true then 1 else 0 := by
  have e1 : (nI n - 1).toInt = (n : Int) - 1 := pk_sub_toInt (b := 1) hn (by decide)
  rcases ixL_c (n := n) (x := x) (by omega) with h | ⟨j, hj, rfl, h⟩
  · rw [h]
    have : inR x 0 (nI n - 1) = false := by
      by_cases c0 : x < 0
      · exact inR_lo c0
      · refine inR_hi (Int32.lt_iff_toInt_lt.mpr ?_)
        rw [e1]
        obtain ⟨j, hj, rfl⟩ := nI_of c0
        rw [nI_toInt hj]
        by_cases hjn : j < n
        · rw [ixL_nI (by omega) hjn] at h; cases h
        · omega
    rw [this]; rfl
  · rw [h]
    have : inR (nI j) 0 (nI n - 1) = true := by
      refine inR_ok (fun c => ?_) (fun c => ?_)
      · have := Int32.lt_iff_toInt_lt.mp c
        rw [nI_toInt (by omega), Int32.toInt_zero] at this; omega
      · have := Int32.lt_iff_toInt_lt.mp c
        rw [nI_toInt (by omega), e1] at this; omega
    rw [this]; rfl
theorem upd_id {f : FF} {k : Nat} (h : f k = 0) : upd f k 0 = f := by
  funext i
  by_cases e : i = k
  · rw [e]; simp [upd, h]
  · simp [upd, e]
theorem o_addLine_1 {M : MM} {v : Int32} (hZ : ∀ f ∈ [m_le M, m_lw M, m_lb M, m_lh M], ∀ i : Nat, m_ln M ≤ i → f i = 0) (h1 : inR v 0 10000000 = true) (h2 : ¬ m_ln M = 16) : o_addLine M v = (0, nI (m_ln M), mk (upd (m_lv M) (m_ln M) v) (upd (m_le M) (m_ln M) 0) (upd (m_lw M) (m_ln M) 0) (upd (m_lb M) (m_ln M) 0) (upd (m_lh M) (m_ln M) 0) (m_ln M + 1) (m_st M) (m_sr M) (m_sn M) (m_rt M) (m_hb M) (m_as M) (m_aa M) (m_ab M) (m_ah M) (m_an M)) := by
  rw [upd_id (hZ _ (by simp) _ (Nat.le_refl _)), upd_id (hZ (m_lw M) (by simp) _ (Nat.le_refl _)), upd_id (hZ (m_lb M) (by simp) _ (Nat.le_refl _)), upd_id (hZ (m_lh M) (by simp) _ (Nat.le_refl _))]
  unfold o_addLine
  rw [if_pos h1, if_neg h2]
  rfl
theorem y_split_ok {M : MM} {x p : Int32} {j : Nat} (h1 : ixL (m_ln M) x = some j) (h2 : inR p 1 (m_lv M j - 1) = true) (h3 : ¬ m_ln M = 16) : y_split M x p = (0, nI (m_ln M), mk (upd (upd (m_lv M) (m_ln M) p) j (m_lv M j - p)) (y_mv (m_le M) j (m_ln M) p (m_lv M j)) (y_mv (m_lw M) j (m_ln M) p (m_lv M j)) (y_mv (m_lb M) j (m_ln M) p (m_lv M j)) (y_mv (m_lh M) j (m_ln M) p (m_lv M j)) (m_ln M + 1) (m_st M) (m_sr M) (m_sn M) (m_rt M) (m_hb M) (m_as M) (m_aa M) (m_ab M) (m_ah M) (m_an M)) := by
  simp only [y_split, h1, h2, if_true, if_neg h3]
theorem inR_nz {p v : Int32} (h : inR p 1 (v - 1) = true) : ¬ v = 0 := by
  intro e
  rw [e] at h
  obtain ⟨h1, h2⟩ := inR_le h
  have h3 := Int32.le_iff_toInt_le.mp (Int32.le_trans h1 h2)
  exact absurd h3 (by decide)
theorem inR_nI {t lo hi : Int32} (h : inR t lo hi = true) (h0 : 0 ≤ lo) (h1 : hi ≤ 1000) : ∃ j : Nat, j ≤ 1000 ∧ t = nI j := by
  obtain ⟨a, b⟩ := inR_le h
  exact nI_of2 (M := 1000) (by decide) (Int32.not_lt.mpr (Int32.le_trans h0 a)) (Int32.le_trans b h1)
end
section
/-! THE CLASS: what only reads -/
set_option maxHeartbeats 4000000 in
set_option maxRecDepth 100000 in
/-- Math.floorDiv of longs -/
theorem c9_floorDiv (l : Launch) (x y : Int64) (hy : ¬ y = 0) : Met l yJ9_floorDiv_f86c9 wsJ9_floorDiv_f86c9 ({ frames := 0, cells := 0, slots := 0, locals := 0 } : Room) (va_Pc [.long x, .long y] (fun _ => True)) (vp_Sl (fun r : Int64 => r = fd64 x y)) 0 0 (fun _ => False) := by
  refine met_ofWF (cc := cJ9_floorDiv_f86c9) (maxL := 6) (ret := (some .long)) (by decide +kernel) rfl ?_
  intro p e s m args below meth c s₁ B hml hv
  obtain ⟨rfl, -⟩ := hv
  have hx := B.exec
  have hb := B.bytes
  have hr := B.returns
  have hts := atoms_spec (ws := wsJ9_floorDiv_f86c9) B.pre
  have hown : s.vm.findClass RJ9 = some m.cls := findClass_of_methodNamed B.named
  have hlocks := B.notSynchronized
  have hl := lv_entry ([.long x, .long y]) (n := 6) (Nat.le_of_ble_eq_true rfl)
  rw [lg_entry_eq]
  generalize (lg_sl ([.long x, .long y]) ++ List.replicate (6 - (lg_sl ([.long x, .long y])).length) Slot.unset).toArray = ls at hl ⊢
  have hl : lv_has ls 6 [(0, .long x), (2, .long y)] := hl
  refine w_abs (fun Q hQ => ?_)
  refine lv_lload_n hx hb dJ9_floorDiv_f86c9_0 rfl (lv_at hl 0 rfl) ?_
  refine lv_lload_n hx hb dJ9_floorDiv_f86c9_1 rfl (lv_at hl 1 rfl) ?_
  refine lv_ldiv hx hb dJ9_floorDiv_f86c9_2 hy ?_
  refine lv_lstore (lv' := [(4, .long (x / y)), (0, .long x), (2, .long y)]) hx hb dJ9_floorDiv_f86c9_3 hl (by decide) rfl (fun ls hl => ?_)
  refine lv_lload_n hx hb dJ9_floorDiv_f86c9_5 rfl (lv_at hl 1 rfl) ?_
  refine lv_lload_n hx hb dJ9_floorDiv_f86c9_6 rfl (lv_at hl 2 rfl) ?_
  refine lv_lxor hx hb dJ9_floorDiv_f86c9_7 ?_
  refine lv_lconst (v := 0) hx hb dJ9_floorDiv_f86c9_8 (by decide) ?_
  refine W.lcmp hx hb dJ9_floorDiv_f86c9_9 ?_
  refine lv_if_ge (tgt := 27) hx hb dJ9_floorDiv_f86c9_10 (by decide) (fun c1 => ?_) (fun c1 => ?_)
  · have c1 := k_cge c1
    refine lv_lload hx hb dJ9_floorDiv_f86c9_27 (lv_at hl 0 rfl) ?_
    subst hQ
    exact W.lret (v := x / y) hx hb hr (fun t ht hW => ⟨_, rfl, (by unfold fd64; rw [if_neg (fun z => c1 z.1)]), ht⟩) (fun q hq => by cases hq) dJ9_floorDiv_f86c9_29
  · have c1 := k_cnge c1
    refine lv_lload hx hb dJ9_floorDiv_f86c9_13 (lv_at hl 0 rfl) ?_
    refine lv_lload_n hx hb dJ9_floorDiv_f86c9_15 rfl (lv_at hl 2 rfl) ?_
    refine lv_lmul hx hb dJ9_floorDiv_f86c9_16 ?_
    refine lv_lload_n hx hb dJ9_floorDiv_f86c9_17 rfl (lv_at hl 1 rfl) ?_
    refine W.lcmp hx hb dJ9_floorDiv_f86c9_18 ?_
    refine lv_if_eq (tgt := 27) hx hb dJ9_floorDiv_f86c9_19 (by decide) (fun c2 => ?_) (fun c2 => ?_)
    · have c2 := k_ceq c2
      refine lv_lload hx hb dJ9_floorDiv_f86c9_27 (lv_at hl 0 rfl) ?_
      subst hQ
      exact W.lret (v := x / y) hx hb hr (fun t ht hW => ⟨_, rfl, (by unfold fd64; rw [if_neg (fun z => z.2 c2)]), ht⟩) (fun q hq => by cases hq) dJ9_floorDiv_f86c9_29
    · have c2 := k_cne c2
      refine lv_lload hx hb dJ9_floorDiv_f86c9_22 (lv_at hl 0 rfl) ?_
      refine lv_lconst (v := 1) hx hb dJ9_floorDiv_f86c9_24 (by decide) ?_
      refine lv_lsub hx hb dJ9_floorDiv_f86c9_25 ?_
      subst hQ
      exact W.lret (v := (x / y) - 1) hx hb hr (fun t ht hW => ⟨_, rfl, (by unfold fd64; rw [if_pos ⟨c1, c2⟩]), ht⟩) (fun q hq => by cases hq) dJ9_floorDiv_f86c9_26
set_option maxHeartbeats 4000000 in
set_option maxRecDepth 100000 in
/-- a thousandth part, halves up -/
theorem c0_thousandths (l : Launch) (a s9 : Int32) : Met l yX0_thousandths wsX0_thousandths ({ frames := 1, cells := 0, slots := 0, locals := 25 } : Room) (va_Pc [.int a, .int s9] (fun _ => True)) (vp_Si (fun r : Int32 => r = x_th a s9)) 0 0 (fun _ => False) := by
  refine Met.ofW (cc := cX0_thousandths) (maxL := 2) (ret := (some .int)) (by decide) rfl ?_
  intro p e s m args below meth c s₁ B hml hv
  obtain ⟨rfl, -⟩ := hv
  have hx := B.exec
  have hb := B.bytes
  have hr := B.returns
  have hts := atoms_spec (ws := wsX0_thousandths) B.pre
  have hown : s.vm.findClass RX0 = some m.cls := findClass_of_methodNamed B.named
  have hlocks := B.notSynchronized
  have kw0 := hts (.constantLong RX0 180 (500)) (by decide +kernel)
  have kw1 := hts (.constantLong RX0 182 (1000)) (by decide +kernel)
  have hl := lv_entry ([.int a, .int s9]) (n := 2) (Nat.le_of_ble_eq_true rfl)
  rw [lg_entry_eq]
  generalize (lg_sl ([.int a, .int s9]) ++ List.replicate (2 - (lg_sl ([.int a, .int s9])).length) Slot.unset).toArray = ls at hl ⊢
  have hl : lv_has ls 2 [(0, .int a), (1, .int s9)] := hl
  refine w_abs (fun Q hQ => ?_)
  refine lv_iload_n hx hb dX0_thousandths_0 rfl (lv_at hl 0 rfl) ?_
  refine lv_i2l (v := a.toInt64) hx hb dX0_thousandths_1 rfl ?_
  refine lv_iload_n hx hb dX0_thousandths_2 rfl (lv_at hl 1 rfl) ?_
  refine lv_i2l (v := s9.toInt64) hx hb dX0_thousandths_3 rfl ?_
  refine lv_lmul hx hb dX0_thousandths_4 ?_
  refine lv_ldc2 hx hb hown kw0 dX0_thousandths_5 ?_
  refine lv_ladd hx hb dX0_thousandths_8 ?_
  refine lv_ldc2 hx hb hown kw1 dX0_thousandths_9 ?_
  refine vp_callSl (W.runS (As := [.long ((a.toInt64 * s9.toInt64) + 500), .long 1000]) (rest := []) ⟨hx, hb, hml, hown, hts⟩ (c9_floorDiv l ((a.toInt64 * s9.toInt64) + 500) 1000 (by decide)) (va_cwS 2 hts gX0_thousandths_J9_floorDiv_f86c9 rfl rfl rfl (by decide +kernel) ⟨Nat.le_of_ble_eq_true rfl, Nat.le_of_ble_eq_true rfl⟩) ⟨nil_fb, nil_mk⟩ rfl rfl hl.1 rfl (lv_room (Nat.le_of_ble_eq_true rfl)) dX0_thousandths_12 ⟨Nat.le_of_ble_eq_true rfl, Nat.le_of_ble_eq_true rfl⟩) (fun r1 qr1 => ?_)
  have qr1 : r1 = fd64 ((a.toInt64 * s9.toInt64) + 500) 1000 := qr1
  subst qr1
  refine lv_l2i (v := (fd64 ((a.toInt64 * s9.toInt64) + 500) 1000).toInt32) hx hb dX0_thousandths_15 rfl ?_
  subst hQ
  exact W.iret (v := (fd64 ((a.toInt64 * s9.toInt64) + 500) 1000).toInt32) hx hb hr (fun t ht hW => ⟨_, rfl, rfl, ht⟩) (fun q hq => by cases hq) dX0_thousandths_16
set_option maxHeartbeats 4000000 in
set_option maxRecDepth 100000 in
/-- a part, rounded down -/
theorem c0_scaledDown (l : Launch) (a f9 d9 : Int32) : Met l yX0_scaledDown wsX0_scaledDown ({ frames := 1, cells := 0, slots := 0, locals := 25 } : Room) (va_Pc [.int a, .int f9, .int d9] (fun _ => True)) (vp_Si (fun r : Int32 => r = x_sd a f9 d9)) 0 0 (fun _ => False) := by
  refine Met.ofW (cc := cX0_scaledDown) (maxL := 3) (ret := (some .int)) (by decide) rfl ?_
  intro p e s m args below meth c s₁ B hml hv
  obtain ⟨rfl, -⟩ := hv
  have hx := B.exec
  have hb := B.bytes
  have hr := B.returns
  have hts := atoms_spec (ws := wsX0_scaledDown) B.pre
  have hown : s.vm.findClass RX0 = some m.cls := findClass_of_methodNamed B.named
  have hlocks := B.notSynchronized
  have hl := lv_entry ([.int a, .int f9, .int d9]) (n := 3) (Nat.le_of_ble_eq_true rfl)
  rw [lg_entry_eq]
  generalize (lg_sl ([.int a, .int f9, .int d9]) ++ List.replicate (3 - (lg_sl ([.int a, .int f9, .int d9])).length) Slot.unset).toArray = ls at hl ⊢
  have hl : lv_has ls 3 [(0, .int a), (1, .int f9), (2, .int d9)] := hl
  refine w_abs (fun Q hQ => ?_)
  refine lv_iload_n hx hb dX0_scaledDown_0 rfl (lv_at hl 2 rfl) ?_
  refine lv_if_ne (tgt := 6) hx hb dX0_scaledDown_1 (by decide) (fun c1 => ?_) (fun c1 => ?_)
  · refine lv_iload_n hx hb dX0_scaledDown_6 rfl (lv_at hl 0 rfl) ?_
    refine lv_i2l (v := a.toInt64) hx hb dX0_scaledDown_7 rfl ?_
    refine lv_iload_n hx hb dX0_scaledDown_8 rfl (lv_at hl 1 rfl) ?_
    refine lv_i2l (v := f9.toInt64) hx hb dX0_scaledDown_9 rfl ?_
    refine lv_lmul hx hb dX0_scaledDown_10 ?_
    refine lv_iload_n hx hb dX0_scaledDown_11 rfl (lv_at hl 2 rfl) ?_
    refine lv_i2l (v := d9.toInt64) hx hb dX0_scaledDown_12 rfl ?_
    refine vp_callSl (W.runS (As := [.long (a.toInt64 * f9.toInt64), .long d9.toInt64]) (rest := []) ⟨hx, hb, hml, hown, hts⟩ (c9_floorDiv l (a.toInt64 * f9.toInt64) d9.toInt64 (k_ne0 c1)) (va_cwS 2 hts gX0_scaledDown_J9_floorDiv_f86c9 rfl rfl rfl (by decide +kernel) ⟨Nat.le_of_ble_eq_true rfl, Nat.le_of_ble_eq_true rfl⟩) ⟨nil_fb, nil_mk⟩ rfl rfl hl.1 rfl (lv_room (Nat.le_of_ble_eq_true rfl)) dX0_scaledDown_13 ⟨Nat.le_of_ble_eq_true rfl, Nat.le_of_ble_eq_true rfl⟩) (fun r2 qr2 => ?_)
    have qr2 : r2 = fd64 (a.toInt64 * f9.toInt64) d9.toInt64 := qr2
    subst qr2
    refine lv_l2i (v := (fd64 (a.toInt64 * f9.toInt64) d9.toInt64).toInt32) hx hb dX0_scaledDown_16 rfl ?_
    subst hQ
    exact W.iret (v := (fd64 (a.toInt64 * f9.toInt64) d9.toInt64).toInt32) hx hb hr (fun t ht hW => ⟨_, rfl, (by unfold x_sd; rw [if_neg c1]), ht⟩) (fun q hq => by cases hq) dX0_scaledDown_17
  · refine lv_iconst (v := 0) hx hb dX0_scaledDown_4 (by decide) ?_
    subst hQ
    exact W.iret (v := 0) hx hb hr (fun t ht hW => ⟨_, rfl, (by unfold x_sd; rw [if_pos c1]), ht⟩) (fun q hq => by cases hq) dX0_scaledDown_5
set_option maxHeartbeats 4000000 in
set_option maxRecDepth 100000 in
/-- the sum of a row's first n -/
theorem c0_sum (l : Launch) (D : va_G) (cA : ClassId) (a N : Nat) (f : FF) (n : Nat) (hn : n ≤ N) (hN : N ≤ 60) : Met l yX0_sum wsX0_sum ({ frames := 0, cells := 0, slots := 0, locals := 0 } : Room) (va_Pc [.ref a, .int (nI n)] (pR D [(cA, .int)] ([(a, .inl (cA, N, .inl f))]))) (vp_Si (fun r : Int32 => r = psum f n)) 0 0 (fun _ => False) := by
  refine Met.ofW (cc := cX0_sum) (maxL := 4) (ret := (some .int)) (by decide) rfl ?_
  intro p e s m args below meth c s₁ B hml hv
  obtain ⟨rfl, hP, hK⟩ := hv
  have hx := B.exec
  have hb := B.bytes
  have hr := B.returns
  have hts := atoms_spec (ws := wsX0_sum) B.pre
  have hown : s.vm.findClass RX0 = some m.cls := findClass_of_methodNamed B.named
  have hlocks := B.notSynchronized
  have hl := lv_entry ([.ref a, .int (nI n)]) (n := 4) (Nat.le_of_ble_eq_true rfl)
  rw [lg_entry_eq]
  generalize (lg_sl ([.ref a, .int (nI n)]) ++ List.replicate (4 - (lg_sl ([.ref a, .int (nI n)])).length) Slot.unset).toArray = ls at hl ⊢
  have hl : lv_has ls 4 [(0, .ref a), (1, .int (nI n))] := hl
  refine w_abs (fun Q hQ => ?_)
  refine lv_iconst (v := 0) hx hb dX0_sum_0 (by decide) ?_
  refine lv_istore_n (lv' := [(2, .int 0), (0, .ref a), (1, .int (nI n))]) hx hb dX0_sum_1 rfl hl (by decide) rfl (fun ls hl => ?_)
  refine lv_iconst (v := 0) hx hb dX0_sum_2 (by decide) ?_
  refine lv_istore_n (lv' := [(3, .int 0), (2, .int 0), (0, .ref a), (1, .int (nI n))]) hx hb dX0_sum_3 rfl hl (by decide) rfl (fun ls hl => ?_)
  have loop : ∀ (fu : Nat) (k : Nat) (x2 : Int32), k ≤ n → x2 = psum f k → n - k < fu → ∀ (ls : Array Slot), lv_has ls 4 [(0, .ref a), (1, .int (nI n)), (2, .int x2), (3, .int (nI k))] → W p l e (headSpec wsX0_sum ({ frames := 0, cells := 0, slots := 0, locals := 0 } : Room)).room s m ([.ref a, .int (nI n)] : List Value).toArray below meth c s.heap [] 0 0 Q (F0 m 4 ls []) := by
    intro fu
    induction fu with
    | zero => intro k x2 hk e2 hfu; exact absurd hfu (by omega)
    | succ fu ih =>
      intro k x2 hk e2 hfu ls hl
      refine lv_iload_n hx hb dX0_sum_4 rfl (lv_at hl 3 rfl) ?_
      refine lv_iload_n hx hb dX0_sum_5 rfl (lv_at hl 1 rfl) ?_
      refine lv_icmp_ge (tgt := 21) hx hb dX0_sum_6 (by decide) (fun c1 => ?_) (fun c1 => ?_)
      · have c1 := k_le (a := n) (b := k) (by omega) (by omega) c1
        refine lv_iload_n hx hb dX0_sum_21 rfl (lv_at hl 2 rfl) ?_
        subst hQ
        exact W.iret (v := x2) hx hb hr (fun t ht hW => ⟨_, rfl, (by rw [e2, show k = n by omega]), ht⟩) (fun q hq => by cases hq) dX0_sum_22
      · have c1 := k_nle (a := n) (b := k) (by omega) (by omega) c1
        refine lv_iload_n hx hb dX0_sum_9 rfl (lv_at hl 2 rfl) ?_
        refine lv_aload_n hx hb dX0_sum_10 rfl (lv_at hl 0 rfl) ?_
        refine lv_iload_n hx hb dX0_sum_11 rfl (lv_at hl 3 rfl) ?_
        refine r_ald (f := f) (j := k) hx hb hK hP 0 0 rfl rfl (by omega) (by omega) dX0_sum_12 ?_
        refine lv_iadd hx hb dX0_sum_13 ?_
        refine lv_istore_n (lv' := [(2, .int (x2 + (f k))), (0, .ref a), (1, .int (nI n)), (3, .int (nI k))]) hx hb dX0_sum_14 rfl hl (by decide) rfl (fun ls hl => ?_)
        refine lv_iinc (v := nI (k + 1)) (lv' := [(3, .int (nI (k + 1))), (2, .int (x2 + (f k))), (0, .ref a), (1, .int (nI n))]) hx hb dX0_sum_15 hl (k := 3) rfl (nI_1 _) (by decide) rfl (fun ls hl => ?_)
        refine lv_goto (tgt := 4) hx hb dX0_sum_18 (by decide) ?_
        exact ih (k + 1) (x2 + f k) (by omega) (by rw [e2]; rfl) (by omega) ls (lv_sub hl [2, 3, 1, 0] rfl)
  exact loop (n + 1) 0 0 (Nat.zero_le _) rfl (by omega) ls (lv_sub hl [2, 3, 1, 0] rfl)
set_option maxHeartbeats 4000000 in
set_option maxRecDepth 100000 in
theorem c0_steps (l : Launch) (D : va_G) (h : Nat → Nat) (cA : ClassId) (M : MM) (hM : OKM M) : Met l yX0_steps wsX0_steps ({ frames := 0, cells := 0, slots := 0, locals := 0 } : Room) (va_Pc [.ref (h 0)] (pR D [(cA, .int)] (w0 h cA M))) (vp_Si (fun r : Int32 => r = nI (m_sn M))) 0 0 (fun _ => False) := by
  refine Met.ofW (cc := cX0_steps) (maxL := 1) (ret := (some .int)) (by decide) rfl ?_
  intro p e s m args below meth c s₁ B hml hv
  obtain ⟨rfl, hP, hK⟩ := hv
  have hx := B.exec
  have hb := B.bytes
  have hr := B.returns
  have hts := atoms_spec (ws := wsX0_steps) B.pre
  have hown : s.vm.findClass RX0 = some m.cls := findClass_of_methodNamed B.named
  have hlocks := B.notSynchronized
  have kw0 := hts (.fieldLink RX0 43 "ProgressBilling" "stepCount" "I") (by decide +kernel)
  have hin0 : ∀ w ∈ u_ws RX0 TX0 15, w ∈ wsX0_steps := by decide +kernel
  obtain ⟨hn1, hn2, hn3, hn4⟩ := id hM
  have hl := lv_entry ([.ref (h 0)]) (n := 1) (Nat.le_of_ble_eq_true rfl)
  rw [lg_entry_eq]
  generalize (lg_sl ([.ref (h 0)]) ++ List.replicate (1 - (lg_sl ([.ref (h 0)])).length) Slot.unset).toArray = ls at hl ⊢
  have hl : lv_has ls 1 [(0, .ref (h 0))] := hl
  refine w_abs (fun Q hQ => ?_)
  refine lv_aload_n hx hb dX0_steps_0 rfl (lv_at hl 0 rfl) ?_
  refine va_get (D := D) (ci := 0) (v := .int (nI (m_sn M))) (C := RX0) (T := TX0) (N := 15) hx hb hts hin0 hown hK hP 0 rfl rfl 8 (by decide) kw0 (fun _ h9 => h9) rfl dX0_steps_1 ?_
  subst hQ
  exact W.iret (v := nI (m_sn M)) hx hb hr (fun t ht hW => ⟨_, rfl, rfl, ht⟩) (fun q hq => by cases hq) dX0_steps_4
set_option maxHeartbeats 4000000 in
set_option maxRecDepth 100000 in
theorem c0_applications (l : Launch) (D : va_G) (h : Nat → Nat) (cA : ClassId) (M : MM) (hM : OKM M) : Met l yX0_applications wsX0_applications ({ frames := 0, cells := 0, slots := 0, locals := 0 } : Room) (va_Pc [.ref (h 0)] (pR D [(cA, .int)] (w0 h cA M))) (vp_Si (fun r : Int32 => r = nI (m_an M))) 0 0 (fun _ => False) := by
  refine Met.ofW (cc := cX0_applications) (maxL := 1) (ret := (some .int)) (by decide) rfl ?_
  intro p e s m args below meth c s₁ B hml hv
  obtain ⟨rfl, hP, hK⟩ := hv
  have hx := B.exec
  have hb := B.bytes
  have hr := B.returns
  have hts := atoms_spec (ws := wsX0_applications) B.pre
  have hown : s.vm.findClass RX0 = some m.cls := findClass_of_methodNamed B.named
  have hlocks := B.notSynchronized
  have kw0 := hts (.fieldLink RX0 115 "ProgressBilling" "applicationCount" "I") (by decide +kernel)
  have hin0 : ∀ w ∈ u_ws RX0 TX0 15, w ∈ wsX0_applications := by decide +kernel
  obtain ⟨hn1, hn2, hn3, hn4⟩ := id hM
  have hl := lv_entry ([.ref (h 0)]) (n := 1) (Nat.le_of_ble_eq_true rfl)
  rw [lg_entry_eq]
  generalize (lg_sl ([.ref (h 0)]) ++ List.replicate (1 - (lg_sl ([.ref (h 0)])).length) Slot.unset).toArray = ls at hl ⊢
  have hl : lv_has ls 1 [(0, .ref (h 0))] := hl
  refine w_abs (fun Q hQ => ?_)
  refine lv_aload_n hx hb dX0_applications_0 rfl (lv_at hl 0 rfl) ?_
  refine va_get (D := D) (ci := 0) (v := .int (nI (m_an M))) (C := RX0) (T := TX0) (N := 15) hx hb hts hin0 hown hK hP 0 rfl rfl 14 (by decide) kw0 (fun _ h9 => h9) rfl dX0_applications_1 ?_
  subst hQ
  exact W.iret (v := nI (m_an M)) hx hb hr (fun t ht hW => ⟨_, rfl, rfl, ht⟩) (fun q hq => by cases hq) dX0_applications_4
set_option maxHeartbeats 4000000 in
set_option maxRecDepth 100000 in
theorem c0_lines (l : Launch) (D : va_G) (h : Nat → Nat) (cA : ClassId) (M : MM) (hM : OKM M) : Met l yX0_lines wsX0_lines ({ frames := 0, cells := 0, slots := 0, locals := 0 } : Room) (va_Pc [.ref (h 0)] (pR D [(cA, .int)] (w0 h cA M))) (vp_Si (fun r : Int32 => r = nI (m_ln M))) 0 0 (fun _ => False) := by
  refine Met.ofW (cc := cX0_lines) (maxL := 1) (ret := (some .int)) (by decide) rfl ?_
  intro p e s m args below meth c s₁ B hml hv
  obtain ⟨rfl, hP, hK⟩ := hv
  have hx := B.exec
  have hb := B.bytes
  have hr := B.returns
  have hts := atoms_spec (ws := wsX0_lines) B.pre
  have hown : s.vm.findClass RX0 = some m.cls := findClass_of_methodNamed B.named
  have hlocks := B.notSynchronized
  have kw0 := hts (.fieldLink RX0 55 "ProgressBilling" "lineCount" "I") (by decide +kernel)
  have hin0 : ∀ w ∈ u_ws RX0 TX0 15, w ∈ wsX0_lines := by decide +kernel
  obtain ⟨hn1, hn2, hn3, hn4⟩ := id hM
  have hl := lv_entry ([.ref (h 0)]) (n := 1) (Nat.le_of_ble_eq_true rfl)
  rw [lg_entry_eq]
  generalize (lg_sl ([.ref (h 0)]) ++ List.replicate (1 - (lg_sl ([.ref (h 0)])).length) Slot.unset).toArray = ls at hl ⊢
  have hl : lv_has ls 1 [(0, .ref (h 0))] := hl
  refine w_abs (fun Q hQ => ?_)
  refine lv_aload_n hx hb dX0_lines_0 rfl (lv_at hl 0 rfl) ?_
  refine va_get (D := D) (ci := 0) (v := .int (nI (m_ln M))) (C := RX0) (T := TX0) (N := 15) hx hb hts hin0 hown hK hP 0 rfl rfl 5 (by decide) kw0 (fun _ h9 => h9) rfl dX0_lines_1 ?_
  subst hQ
  exact W.iret (v := nI (m_ln M)) hx hb hr (fun t ht hW => ⟨_, rfl, rfl, ht⟩) (fun q hq => by cases hq) dX0_lines_4
set_option maxHeartbeats 4000000 in
set_option maxRecDepth 100000 in
theorem c0_contractSum (l : Launch) (D : va_G) (h : Nat → Nat) (cA : ClassId) (M : MM) (hM : OKM M) : Met l yX0_contractSum wsX0_contractSum ({ frames := 1, cells := 0, slots := 0, locals := 23 } : Room) (va_Pc [.ref (h 0)] (pR D [(cA, .int)] (w0 h cA M))) (vp_Si (fun r : Int32 => r = x_csum M)) 0 0 (fun _ => False) := by
  refine Met.ofW (cc := cX0_contractSum) (maxL := 1) (ret := (some .int)) (by decide) rfl ?_
  intro p e s m args below meth c s₁ B hml hv
  obtain ⟨rfl, hP, hK⟩ := hv
  have hx := B.exec
  have hb := B.bytes
  have hr := B.returns
  have hts := atoms_spec (ws := wsX0_contractSum) B.pre
  have hown : s.vm.findClass RX0 = some m.cls := findClass_of_methodNamed B.named
  have hlocks := B.notSynchronized
  have kw0 := hts (.fieldLink RX0 9 "ProgressBilling" "lineValue" "[I") (by decide +kernel)
  have kw1 := hts (.fieldLink RX0 55 "ProgressBilling" "lineCount" "I") (by decide +kernel)
  have hin0 : ∀ w ∈ u_ws RX0 TX0 15, w ∈ wsX0_contractSum := by decide +kernel
  obtain ⟨hn1, hn2, hn3, hn4⟩ := id hM
  have hl := lv_entry ([.ref (h 0)]) (n := 1) (Nat.le_of_ble_eq_true rfl)
  rw [lg_entry_eq]
  generalize (lg_sl ([.ref (h 0)]) ++ List.replicate (1 - (lg_sl ([.ref (h 0)])).length) Slot.unset).toArray = ls at hl ⊢
  have hl : lv_has ls 1 [(0, .ref (h 0))] := hl
  refine w_abs (fun Q hQ => ?_)
  refine lv_aload_n hx hb dX0_contractSum_0 rfl (lv_at hl 0 rfl) ?_
  refine va_get (D := D) (ci := 0) (v := .ref (h 1)) (C := RX0) (T := TX0) (N := 15) hx hb hts hin0 hown hK hP 0 rfl rfl 0 (by decide) kw0 (fun _ h9 => h9) rfl dX0_contractSum_1 ?_
  refine lv_aload_n hx hb dX0_contractSum_4 rfl (lv_at hl 0 rfl) ?_
  refine va_get (D := D) (ci := 0) (v := .int (nI (m_ln M))) (C := RX0) (T := TX0) (N := 15) hx hb hts hin0 hown hK hP 0 rfl rfl 5 (by decide) kw1 (fun _ h9 => h9) rfl dX0_contractSum_5 ?_
  refine vp_callSi (W.runS (As := [.ref (h 1), .int (nI (m_ln M))]) (rest := []) ⟨hx, hb, hml, hown, hts⟩ (c0_sum l D cA (h 1) 16 (m_lv M) (m_ln M) (by omega) (by omega)) (va_cwS 2 hts gX0_contractSum_X0_sum rfl rfl rfl (by decide +kernel) ⟨Nat.le_of_ble_eq_true rfl, Nat.le_of_ble_eq_true rfl⟩) ⟨pR_fb, pR_mk (hP.sub (ws' := [(h 1, .inl (cA, 16, .inl (m_lv M)))]) [1] rfl) hK⟩ rfl rfl hl.1 rfl (lv_room (Nat.le_of_ble_eq_true rfl)) dX0_contractSum_8 ⟨Nat.le_of_ble_eq_true rfl, Nat.le_of_ble_eq_true rfl⟩) (fun r1 qr1 => ?_)
  have qr1 : r1 = psum (m_lv M) (m_ln M) := qr1
  subst qr1
  subst hQ
  exact W.iret (v := psum (m_lv M) (m_ln M)) hx hb hr (fun t ht hW => ⟨_, rfl, rfl, ht⟩) (fun q hq => by cases hq) dX0_contractSum_11
set_option maxHeartbeats 4000000 in
set_option maxRecDepth 100000 in
theorem c0_progress (l : Launch) (D : va_G) (h : Nat → Nat) (cA : ClassId) (M : MM) (hM : OKM M) : Met l yX0_progress wsX0_progress ({ frames := 2, cells := 0, slots := 0, locals := 47 } : Room) (va_Pc [.ref (h 0)] (pR D [(cA, .int)] (w0 h cA M))) (vp_Si (fun r : Int32 => r = x_progress M)) 0 0 (fun _ => False) := by
  refine Met.ofW (cc := cX0_progress) (maxL := 1) (ret := (some .int)) (by decide) rfl ?_
  intro p e s m args below meth c s₁ B hml hv
  obtain ⟨rfl, hP, hK⟩ := hv
  have hx := B.exec
  have hb := B.bytes
  have hr := B.returns
  have hts := atoms_spec (ws := wsX0_progress) B.pre
  have hown : s.vm.findClass RX0 = some m.cls := findClass_of_methodNamed B.named
  have hlocks := B.notSynchronized
  have kw0 := hts (.fieldLink RX0 16 "ProgressBilling" "lineWork" "[I") (by decide +kernel)
  have kw1 := hts (.fieldLink RX0 55 "ProgressBilling" "lineCount" "I") (by decide +kernel)
  have hin0 : ∀ w ∈ u_ws RX0 TX0 15, w ∈ wsX0_progress := by decide +kernel
  obtain ⟨hn1, hn2, hn3, hn4⟩ := id hM
  have hl := lv_entry ([.ref (h 0)]) (n := 1) (Nat.le_of_ble_eq_true rfl)
  rw [lg_entry_eq]
  generalize (lg_sl ([.ref (h 0)]) ++ List.replicate (1 - (lg_sl ([.ref (h 0)])).length) Slot.unset).toArray = ls at hl ⊢
  have hl : lv_has ls 1 [(0, .ref (h 0))] := hl
  refine w_abs (fun Q hQ => ?_)
  refine lv_aload_n hx hb dX0_progress_0 rfl (lv_at hl 0 rfl) ?_
  refine va_get (D := D) (ci := 0) (v := .ref (h 3)) (C := RX0) (T := TX0) (N := 15) hx hb hts hin0 hown hK hP 0 rfl rfl 2 (by decide) kw0 (fun _ h9 => h9) rfl dX0_progress_1 ?_
  refine lv_aload_n hx hb dX0_progress_4 rfl (lv_at hl 0 rfl) ?_
  refine va_get (D := D) (ci := 0) (v := .int (nI (m_ln M))) (C := RX0) (T := TX0) (N := 15) hx hb hts hin0 hown hK hP 0 rfl rfl 5 (by decide) kw1 (fun _ h9 => h9) rfl dX0_progress_5 ?_
  refine vp_callSi (W.runS (As := [.ref (h 3), .int (nI (m_ln M))]) (rest := []) ⟨hx, hb, hml, hown, hts⟩ (c0_sum l D cA (h 3) 16 (m_lw M) (m_ln M) (by omega) (by omega)) (va_cwS 2 hts gX0_progress_X0_sum rfl rfl rfl (by decide +kernel) ⟨Nat.le_of_ble_eq_true rfl, Nat.le_of_ble_eq_true rfl⟩) ⟨pR_fb, pR_mk (hP.sub (ws' := [(h 3, .inl (cA, 16, .inl (m_lw M)))]) [3] rfl) hK⟩ rfl rfl hl.1 rfl (lv_room (Nat.le_of_ble_eq_true rfl)) dX0_progress_8 ⟨Nat.le_of_ble_eq_true rfl, Nat.le_of_ble_eq_true rfl⟩) (fun r1 qr1 => ?_)
  have qr1 : r1 = psum (m_lw M) (m_ln M) := qr1
  subst qr1
  refine lv_sipush (v := 1000) hx hb dX0_progress_11 (by decide) ?_
  refine lv_aload_n hx hb dX0_progress_14 rfl (lv_at hl 0 rfl) ?_
  refine vp_callSi (W.runV (As := []) (rest := [.int 1000, .int (psum (m_lw M) (m_ln M))]) ⟨hx, hb, hml, hown, hts⟩ (c0_contractSum l D h cA M hM) (cwV 0 hts gX0_progress_X0_contractSum rfl rfl rfl (by decide +kernel) ⟨Nat.le_of_ble_eq_true rfl, Nat.le_of_ble_eq_true rfl⟩) ⟨pR_fb, va_recv hK hP (ci := 0) (q0 := 0) rfl rfl, pR_mk hP hK⟩ rfl rfl hl.1 rfl (lv_room (Nat.le_of_ble_eq_true rfl)) dX0_progress_15 ⟨Nat.le_of_ble_eq_true rfl, Nat.le_of_ble_eq_true rfl⟩) (fun r2 qr2 => ?_)
  have qr2 : r2 = x_csum M := qr2
  subst qr2
  refine vp_callSi (W.runS (As := [.int (psum (m_lw M) (m_ln M)), .int 1000, .int (x_csum M)]) (rest := []) ⟨hx, hb, hml, hown, hts⟩ (c0_scaledDown l (psum (m_lw M) (m_ln M)) 1000 (x_csum M)) (va_cwS 3 hts gX0_progress_X0_scaledDown rfl rfl rfl (by decide +kernel) ⟨Nat.le_of_ble_eq_true rfl, Nat.le_of_ble_eq_true rfl⟩) ⟨nil_fb, nil_mk⟩ rfl rfl hl.1 rfl (lv_room (Nat.le_of_ble_eq_true rfl)) dX0_progress_18 ⟨Nat.le_of_ble_eq_true rfl, Nat.le_of_ble_eq_true rfl⟩) (fun r3 qr3 => ?_)
  have qr3 : r3 = x_sd (psum (m_lw M) (m_ln M)) 1000 (x_csum M) := qr3
  subst qr3
  subst hQ
  exact W.iret (v := x_sd (psum (m_lw M) (m_ln M)) 1000 (x_csum M)) hx hb hr (fun t ht hW => ⟨_, rfl, rfl, ht⟩) (fun q hq => by cases hq) dX0_progress_21
set_option maxHeartbeats 4000000 in
set_option maxRecDepth 100000 in
theorem c0_rate (l : Launch) (D : va_G) (h : Nat → Nat) (cA : ClassId) (M : MM) (hM : OKM M) : Met l yX0_rate wsX0_rate ({ frames := 3, cells := 0, slots := 0, locals := 67 } : Room) (va_Pc [.ref (h 0)] (pR D [(cA, .int)] (w0 h cA M))) (vp_Si (fun r : Int32 => r = x_rate M)) 0 0 (fun _ => False) := by
  refine Met.ofW (cc := cX0_rate) (maxL := 4) (ret := (some .int)) (by decide) rfl ?_
  intro p e s m args below meth c s₁ B hml hv
  obtain ⟨rfl, hP, hK⟩ := hv
  have hx := B.exec
  have hb := B.bytes
  have hr := B.returns
  have hts := atoms_spec (ws := wsX0_rate) B.pre
  have hown : s.vm.findClass RX0 = some m.cls := findClass_of_methodNamed B.named
  have hlocks := B.notSynchronized
  have kw0 := hts (.fieldLink RX0 43 "ProgressBilling" "stepCount" "I") (by decide +kernel)
  have kw1 := hts (.fieldLink RX0 28 "ProgressBilling" "stepRate" "[I") (by decide +kernel)
  have kw2 := hts (.fieldLink RX0 25 "ProgressBilling" "stepThreshold" "[I") (by decide +kernel)
  have hin0 : ∀ w ∈ u_ws RX0 TX0 15, w ∈ wsX0_rate := by decide +kernel
  obtain ⟨hn1, hn2, hn3, hn4⟩ := id hM
  have hl := lv_entry ([.ref (h 0)]) (n := 4) (Nat.le_of_ble_eq_true rfl)
  rw [lg_entry_eq]
  generalize (lg_sl ([.ref (h 0)]) ++ List.replicate (4 - (lg_sl ([.ref (h 0)])).length) Slot.unset).toArray = ls at hl ⊢
  have hl : lv_has ls 4 [(0, .ref (h 0))] := hl
  refine w_abs (fun Q hQ => ?_)
  refine lv_aload_n hx hb dX0_rate_0 rfl (lv_at hl 0 rfl) ?_
  refine vp_callSi (W.runV (As := []) (rest := []) ⟨hx, hb, hml, hown, hts⟩ (c0_progress l D h cA M hM) (cwV 0 hts gX0_rate_X0_progress rfl rfl rfl (by decide +kernel) ⟨Nat.le_of_ble_eq_true rfl, Nat.le_of_ble_eq_true rfl⟩) ⟨pR_fb, va_recv hK hP (ci := 0) (q0 := 0) rfl rfl, pR_mk hP hK⟩ rfl rfl hl.1 rfl (lv_room (Nat.le_of_ble_eq_true rfl)) dX0_rate_1 ⟨Nat.le_of_ble_eq_true rfl, Nat.le_of_ble_eq_true rfl⟩) (fun r1 qr1 => ?_)
  have qr1 : r1 = x_progress M := qr1
  subst qr1
  refine lv_istore_n (lv' := [(1, .int (x_progress M)), (0, .ref (h 0))]) hx hb dX0_rate_4 rfl hl (by decide) rfl (fun ls hl => ?_)
  refine lv_iconst (v := 0) hx hb dX0_rate_5 (by decide) ?_
  refine lv_istore_n (lv' := [(2, .int 0), (1, .int (x_progress M)), (0, .ref (h 0))]) hx hb dX0_rate_6 rfl hl (by decide) rfl (fun ls hl => ?_)
  refine lv_iconst (v := 1) hx hb dX0_rate_7 (by decide) ?_
  refine lv_istore_n (lv' := [(3, .int 1), (2, .int 0), (1, .int (x_progress M)), (0, .ref (h 0))]) hx hb dX0_rate_8 rfl hl (by decide) rfl (fun ls hl => ?_)
  have loop : ∀ (fu : Nat) (k : Nat) (b : Nat), k + 1 ≤ m_sn M → b = x_best (m_st M) (x_progress M) k → m_sn M - k < fu → ∀ (ls : Array Slot), lv_has ls 4 [(0, .ref (h 0)), (1, .int (x_progress M)), (2, .int (nI b)), (3, .int (nI (k + 1)))] → W p l e (headSpec wsX0_rate ({ frames := 3, cells := 0, slots := 0, locals := 67 } : Room)).room s m ([.ref (h 0)] : List Value).toArray below meth c s.heap [] 0 0 Q (F0 m 9 ls []) := by
    intro fu
    induction fu with
    | zero => intro k b hk eb hfu; exact absurd hfu (by omega)
    | succ fu ih =>
      intro k b hk eb hfu ls hl
      have hbk : b ≤ k := by rw [eb]; exact x_best_le _ _ k
      refine lv_iload_n hx hb dX0_rate_9 rfl (lv_at hl 3 rfl) ?_
      refine lv_aload_n hx hb dX0_rate_10 rfl (lv_at hl 0 rfl) ?_
      refine va_get (D := D) (ci := 0) (v := .int (nI (m_sn M))) (C := RX0) (T := TX0) (N := 15) hx hb hts hin0 hown hK hP 0 rfl rfl 8 (by decide) kw0 (fun _ h9 => h9) rfl dX0_rate_11 ?_
      refine lv_icmp_ge (tgt := 50) hx hb dX0_rate_14 (by decide) (fun c2 => ?_) (fun c2 => ?_)
      · have c2 := k_le (a := (m_sn M)) (b := (k + 1)) (by omega) (by omega) c2
        refine lv_aload_n hx hb dX0_rate_50 rfl (lv_at hl 0 rfl) ?_
        refine va_get (D := D) (ci := 0) (v := .ref (h 7)) (C := RX0) (T := TX0) (N := 15) hx hb hts hin0 hown hK hP 0 rfl rfl 7 (by decide) kw1 (fun _ h9 => h9) rfl dX0_rate_51 ?_
        refine lv_iload_n hx hb dX0_rate_54 rfl (lv_at hl 2 rfl) ?_
        refine r_ald (f := m_sr M) (j := b) hx hb hK hP 7 0 rfl rfl (by omega) (by omega) dX0_rate_55 ?_
        subst hQ
        exact W.iret (v := (m_sr M) b) hx hb hr (fun t ht hW => ⟨_, rfl, (by unfold x_rate; rw [eb, show m_sn M - 1 = k by omega]), ht⟩) (fun q hq => by cases hq) dX0_rate_56
      · have c2 := k_nle (a := (m_sn M)) (b := (k + 1)) (by omega) (by omega) c2
        refine lv_aload_n hx hb dX0_rate_17 rfl (lv_at hl 0 rfl) ?_
        refine va_get (D := D) (ci := 0) (v := .ref (h 6)) (C := RX0) (T := TX0) (N := 15) hx hb hts hin0 hown hK hP 0 rfl rfl 6 (by decide) kw2 (fun _ h9 => h9) rfl dX0_rate_18 ?_
        refine lv_iload_n hx hb dX0_rate_21 rfl (lv_at hl 3 rfl) ?_
        refine r_ald (f := m_st M) (j := (k + 1)) hx hb hK hP 6 0 rfl rfl (by omega) (by omega) dX0_rate_22 ?_
        refine lv_iload_n hx hb dX0_rate_23 rfl (lv_at hl 1 rfl) ?_
        refine lv_icmp_gt (tgt := 44) hx hb dX0_rate_24 (by decide) (fun c3 => ?_) (fun c3 => ?_)
        · refine lv_iinc (v := nI ((k + 1) + 1)) (lv' := [(3, .int (nI ((k + 1) + 1))), (0, .ref (h 0)), (1, .int (x_progress M)), (2, .int (nI b))]) hx hb dX0_rate_44 hl (k := 3) rfl (nI_1 _) (by decide) rfl (fun ls hl => ?_)
          refine lv_goto (tgt := 9) hx hb dX0_rate_47 (by decide) ?_
          exact ih (k + 1) (b) (by omega) (by unfold x_best; rw [← eb, if_neg (fun z => z.1 c3)]) (by omega) ls (lv_sub hl [1, 2, 3, 0] rfl)
        · refine lv_aload_n hx hb dX0_rate_27 rfl (lv_at hl 0 rfl) ?_
          refine va_get (D := D) (ci := 0) (v := .ref (h 6)) (C := RX0) (T := TX0) (N := 15) hx hb hts hin0 hown hK hP 0 rfl rfl 6 (by decide) kw2 (fun _ h9 => h9) rfl dX0_rate_28 ?_
          refine lv_iload_n hx hb dX0_rate_31 rfl (lv_at hl 3 rfl) ?_
          refine r_ald (f := m_st M) (j := (k + 1)) hx hb hK hP 6 0 rfl rfl (by omega) (by omega) dX0_rate_32 ?_
          refine lv_aload_n hx hb dX0_rate_33 rfl (lv_at hl 0 rfl) ?_
          refine va_get (D := D) (ci := 0) (v := .ref (h 6)) (C := RX0) (T := TX0) (N := 15) hx hb hts hin0 hown hK hP 0 rfl rfl 6 (by decide) kw2 (fun _ h9 => h9) rfl dX0_rate_34 ?_
          refine lv_iload_n hx hb dX0_rate_37 rfl (lv_at hl 2 rfl) ?_
          refine r_ald (f := m_st M) (j := b) hx hb hK hP 6 0 rfl rfl (by omega) (by omega) dX0_rate_38 ?_
          refine lv_icmp_le (tgt := 44) hx hb dX0_rate_39 (by decide) (fun c4 => ?_) (fun c4 => ?_)
          · have c4 := Int32.not_lt.mpr c4
            refine lv_iinc (v := nI ((k + 1) + 1)) (lv' := [(3, .int (nI ((k + 1) + 1))), (0, .ref (h 0)), (1, .int (x_progress M)), (2, .int (nI b))]) hx hb dX0_rate_44 hl (k := 3) rfl (nI_1 _) (by decide) rfl (fun ls hl => ?_)
            refine lv_goto (tgt := 9) hx hb dX0_rate_47 (by decide) ?_
            exact ih (k + 1) (b) (by omega) (by unfold x_best; rw [← eb, if_neg (fun z => c4 z.2)]) (by omega) ls (lv_sub hl [1, 2, 3, 0] rfl)
          · have c4 := Int32.not_le.mp c4
            refine lv_iload_n hx hb dX0_rate_42 rfl (lv_at hl 3 rfl) ?_
            refine lv_istore_n (lv' := [(2, .int (nI (k + 1))), (0, .ref (h 0)), (1, .int (x_progress M)), (3, .int (nI (k + 1)))]) hx hb dX0_rate_43 rfl hl (by decide) rfl (fun ls hl => ?_)
            refine lv_iinc (v := nI ((k + 1) + 1)) (lv' := [(3, .int (nI ((k + 1) + 1))), (2, .int (nI (k + 1))), (0, .ref (h 0)), (1, .int (x_progress M))]) hx hb dX0_rate_44 hl (k := 3) rfl (nI_1 _) (by decide) rfl (fun ls hl => ?_)
            refine lv_goto (tgt := 9) hx hb dX0_rate_47 (by decide) ?_
            exact ih (k + 1) ((k + 1)) (by omega) (by unfold x_best; rw [← eb, if_pos ⟨c3, c4⟩]) (by omega) ls (lv_sub hl [2, 3, 1, 0] rfl)
  exact loop (m_sn M + 1) 0 0 (by omega) rfl (by omega) ls (lv_sub hl [3, 2, 1, 0] rfl)
set_option maxHeartbeats 4000000 in
set_option maxRecDepth 100000 in
theorem c0_heldIfClosed (l : Launch) (D : va_G) (h : Nat → Nat) (cA : ClassId) (M : MM) (hM : OKM M) (j : Nat) (hj : j < m_ln M) (rr : Int32) : Met l yX0_heldIfClosed wsX0_heldIfClosed ({ frames := 2, cells := 0, slots := 0, locals := 46 } : Room) (va_Pc [.ref (h 0), .int (nI j), .int rr] (pR D [(cA, .int)] (w0 h cA M))) (vp_Si (fun r : Int32 => r = x_hIf M j rr)) 0 0 (fun _ => False) := by
  refine Met.ofW (cc := cX0_heldIfClosed) (maxL := 3) (ret := (some .int)) (by decide) rfl ?_
  intro p e s m args below meth c s₁ B hml hv
  obtain ⟨rfl, hP, hK⟩ := hv
  have hx := B.exec
  have hb := B.bytes
  have hr := B.returns
  have hts := atoms_spec (ws := wsX0_heldIfClosed) B.pre
  have hown : s.vm.findClass RX0 = some m.cls := findClass_of_methodNamed B.named
  have hlocks := B.notSynchronized
  have kw0 := hts (.fieldLink RX0 94 "ProgressBilling" "holdsByIncrease" "Z") (by decide +kernel)
  have kw1 := hts (.fieldLink RX0 13 "ProgressBilling" "lineEarned" "[I") (by decide +kernel)
  have kw2 := hts (.fieldLink RX0 22 "ProgressBilling" "lineHeld" "[I") (by decide +kernel)
  have kw3 := hts (.fieldLink RX0 19 "ProgressBilling" "lineBilled" "[I") (by decide +kernel)
  have hin0 : ∀ w ∈ u_ws RX0 TX0 15, w ∈ wsX0_heldIfClosed := by decide +kernel
  obtain ⟨hn1, hn2, hn3, hn4⟩ := id hM
  have hl := lv_entry ([.ref (h 0), .int (nI j), .int rr]) (n := 3) (Nat.le_of_ble_eq_true rfl)
  rw [lg_entry_eq]
  generalize (lg_sl ([.ref (h 0), .int (nI j), .int rr]) ++ List.replicate (3 - (lg_sl ([.ref (h 0), .int (nI j), .int rr])).length) Slot.unset).toArray = ls at hl ⊢
  have hl : lv_has ls 3 [(0, .ref (h 0)), (1, .int (nI j)), (2, .int rr)] := hl
  refine w_abs (fun Q hQ => ?_)
  refine lv_aload_n hx hb dX0_heldIfClosed_0 rfl (lv_at hl 0 rfl) ?_
  refine va_get (D := D) (ci := 0) (v := .int (m_hb M)) (C := RX0) (T := TX0) (N := 15) hx hb hts hin0 hown hK hP 0 rfl rfl 9 (by decide) kw0 (fun _ h9 => h9) rfl dX0_heldIfClosed_1 ?_
  refine lv_if_eq (tgt := 32) hx hb dX0_heldIfClosed_4 (by decide) (fun c1 => ?_) (fun c1 => ?_)
  · refine lv_aload_n hx hb dX0_heldIfClosed_32 rfl (lv_at hl 0 rfl) ?_
    refine va_get (D := D) (ci := 0) (v := .ref (h 2)) (C := RX0) (T := TX0) (N := 15) hx hb hts hin0 hown hK hP 0 rfl rfl 1 (by decide) kw1 (fun _ h9 => h9) rfl dX0_heldIfClosed_33 ?_
    refine lv_iload_n hx hb dX0_heldIfClosed_36 rfl (lv_at hl 1 rfl) ?_
    refine r_ald (f := m_le M) (j := j) hx hb hK hP 2 0 rfl rfl (by omega) (by omega) dX0_heldIfClosed_37 ?_
    refine lv_iload_n hx hb dX0_heldIfClosed_38 rfl (lv_at hl 2 rfl) ?_
    refine vp_callSi (W.runS (As := [.int ((m_le M) j), .int rr]) (rest := []) ⟨hx, hb, hml, hown, hts⟩ (c0_thousandths l ((m_le M) j) rr) (va_cwS 2 hts gX0_heldIfClosed_X0_thousandths rfl rfl rfl (by decide +kernel) ⟨Nat.le_of_ble_eq_true rfl, Nat.le_of_ble_eq_true rfl⟩) ⟨nil_fb, nil_mk⟩ rfl rfl hl.1 rfl (lv_room (Nat.le_of_ble_eq_true rfl)) dX0_heldIfClosed_39 ⟨Nat.le_of_ble_eq_true rfl, Nat.le_of_ble_eq_true rfl⟩) (fun r2 qr2 => ?_)
    have qr2 : r2 = x_th ((m_le M) j) rr := qr2
    subst qr2
    subst hQ
    exact W.iret (v := x_th ((m_le M) j) rr) hx hb hr (fun t ht hW => ⟨_, rfl, (by unfold x_hIf; rw [if_pos c1]), ht⟩) (fun q hq => by cases hq) dX0_heldIfClosed_42
  · refine lv_aload_n hx hb dX0_heldIfClosed_7 rfl (lv_at hl 0 rfl) ?_
    refine va_get (D := D) (ci := 0) (v := .ref (h 5)) (C := RX0) (T := TX0) (N := 15) hx hb hts hin0 hown hK hP 0 rfl rfl 4 (by decide) kw2 (fun _ h9 => h9) rfl dX0_heldIfClosed_8 ?_
    refine lv_iload_n hx hb dX0_heldIfClosed_11 rfl (lv_at hl 1 rfl) ?_
    refine r_ald (f := m_lh M) (j := j) hx hb hK hP 5 0 rfl rfl (by omega) (by omega) dX0_heldIfClosed_12 ?_
    refine lv_aload_n hx hb dX0_heldIfClosed_13 rfl (lv_at hl 0 rfl) ?_
    refine va_get (D := D) (ci := 0) (v := .ref (h 2)) (C := RX0) (T := TX0) (N := 15) hx hb hts hin0 hown hK hP 0 rfl rfl 1 (by decide) kw1 (fun _ h9 => h9) rfl dX0_heldIfClosed_14 ?_
    refine lv_iload_n hx hb dX0_heldIfClosed_17 rfl (lv_at hl 1 rfl) ?_
    refine r_ald (f := m_le M) (j := j) hx hb hK hP 2 0 rfl rfl (by omega) (by omega) dX0_heldIfClosed_18 ?_
    refine lv_aload_n hx hb dX0_heldIfClosed_19 rfl (lv_at hl 0 rfl) ?_
    refine va_get (D := D) (ci := 0) (v := .ref (h 4)) (C := RX0) (T := TX0) (N := 15) hx hb hts hin0 hown hK hP 0 rfl rfl 3 (by decide) kw3 (fun _ h9 => h9) rfl dX0_heldIfClosed_20 ?_
    refine lv_iload_n hx hb dX0_heldIfClosed_23 rfl (lv_at hl 1 rfl) ?_
    refine r_ald (f := m_lb M) (j := j) hx hb hK hP 4 0 rfl rfl (by omega) (by omega) dX0_heldIfClosed_24 ?_
    refine lv_isub hx hb dX0_heldIfClosed_25 ?_
    refine lv_iload_n hx hb dX0_heldIfClosed_26 rfl (lv_at hl 2 rfl) ?_
    refine vp_callSi (W.runS (As := [.int (((m_le M) j) - ((m_lb M) j)), .int rr]) (rest := [.int ((m_lh M) j)]) ⟨hx, hb, hml, hown, hts⟩ (c0_thousandths l (((m_le M) j) - ((m_lb M) j)) rr) (va_cwS 2 hts gX0_heldIfClosed_X0_thousandths rfl rfl rfl (by decide +kernel) ⟨Nat.le_of_ble_eq_true rfl, Nat.le_of_ble_eq_true rfl⟩) ⟨nil_fb, nil_mk⟩ rfl rfl hl.1 rfl (lv_room (Nat.le_of_ble_eq_true rfl)) dX0_heldIfClosed_27 ⟨Nat.le_of_ble_eq_true rfl, Nat.le_of_ble_eq_true rfl⟩) (fun r3 qr3 => ?_)
    have qr3 : r3 = x_th (((m_le M) j) - ((m_lb M) j)) rr := qr3
    subst qr3
    refine lv_iadd hx hb dX0_heldIfClosed_30 ?_
    subst hQ
    exact W.iret (v := ((m_lh M) j) + (x_th (((m_le M) j) - ((m_lb M) j)) rr)) hx hb hr (fun t ht hW => ⟨_, rfl, (by unfold x_hIf; rw [if_neg c1]), ht⟩) (fun q hq => by cases hq) dX0_heldIfClosed_31
set_option maxHeartbeats 4000000 in
set_option maxRecDepth 100000 in
theorem c0_nextAmount (l : Launch) (D : va_G) (h : Nat → Nat) (cA : ClassId) (M : MM) (hM : OKM M) : Met l yX0_nextAmount wsX0_nextAmount ({ frames := 4, cells := 0, slots := 0, locals := 90 } : Room) (va_Pc [.ref (h 0)] (pR D [(cA, .int)] (w0 h cA M))) (vp_Si (fun r : Int32 => r = x_next M)) 0 0 (fun _ => False) := by
  refine Met.ofW (cc := cX0_nextAmount) (maxL := 4) (ret := (some .int)) (by decide) rfl ?_
  intro p e s m args below meth c s₁ B hml hv
  obtain ⟨rfl, hP, hK⟩ := hv
  have hx := B.exec
  have hb := B.bytes
  have hr := B.returns
  have hts := atoms_spec (ws := wsX0_nextAmount) B.pre
  have hown : s.vm.findClass RX0 = some m.cls := findClass_of_methodNamed B.named
  have hlocks := B.notSynchronized
  have kw0 := hts (.fieldLink RX0 13 "ProgressBilling" "lineEarned" "[I") (by decide +kernel)
  have kw1 := hts (.fieldLink RX0 55 "ProgressBilling" "lineCount" "I") (by decide +kernel)
  have kw2 := hts (.fieldLink RX0 34 "ProgressBilling" "applicationAmount" "[I") (by decide +kernel)
  have kw3 := hts (.fieldLink RX0 115 "ProgressBilling" "applicationCount" "I") (by decide +kernel)
  have hin0 : ∀ w ∈ u_ws RX0 TX0 15, w ∈ wsX0_nextAmount := by decide +kernel
  obtain ⟨hn1, hn2, hn3, hn4⟩ := id hM
  have hl := lv_entry ([.ref (h 0)]) (n := 4) (Nat.le_of_ble_eq_true rfl)
  rw [lg_entry_eq]
  generalize (lg_sl ([.ref (h 0)]) ++ List.replicate (4 - (lg_sl ([.ref (h 0)])).length) Slot.unset).toArray = ls at hl ⊢
  have hl : lv_has ls 4 [(0, .ref (h 0))] := hl
  refine w_abs (fun Q hQ => ?_)
  refine lv_aload_n hx hb dX0_nextAmount_0 rfl (lv_at hl 0 rfl) ?_
  refine vp_callSi (W.runV (As := []) (rest := []) ⟨hx, hb, hml, hown, hts⟩ (c0_rate l D h cA M hM) (cwV 0 hts gX0_nextAmount_X0_rate rfl rfl rfl (by decide +kernel) ⟨Nat.le_of_ble_eq_true rfl, Nat.le_of_ble_eq_true rfl⟩) ⟨pR_fb, va_recv hK hP (ci := 0) (q0 := 0) rfl rfl, pR_mk hP hK⟩ rfl rfl hl.1 rfl (lv_room (Nat.le_of_ble_eq_true rfl)) dX0_nextAmount_1 ⟨Nat.le_of_ble_eq_true rfl, Nat.le_of_ble_eq_true rfl⟩) (fun r1 qr1 => ?_)
  have qr1 : r1 = x_rate M := qr1
  subst qr1
  refine lv_istore_n (lv' := [(1, .int (x_rate M)), (0, .ref (h 0))]) hx hb dX0_nextAmount_4 rfl hl (by decide) rfl (fun ls hl => ?_)
  refine lv_aload_n hx hb dX0_nextAmount_5 rfl (lv_at hl 1 rfl) ?_
  refine va_get (D := D) (ci := 0) (v := .ref (h 2)) (C := RX0) (T := TX0) (N := 15) hx hb hts hin0 hown hK hP 0 rfl rfl 1 (by decide) kw0 (fun _ h9 => h9) rfl dX0_nextAmount_6 ?_
  refine lv_aload_n hx hb dX0_nextAmount_9 rfl (lv_at hl 1 rfl) ?_
  refine va_get (D := D) (ci := 0) (v := .int (nI (m_ln M))) (C := RX0) (T := TX0) (N := 15) hx hb hts hin0 hown hK hP 0 rfl rfl 5 (by decide) kw1 (fun _ h9 => h9) rfl dX0_nextAmount_10 ?_
  refine vp_callSi (W.runS (As := [.ref (h 2), .int (nI (m_ln M))]) (rest := []) ⟨hx, hb, hml, hown, hts⟩ (c0_sum l D cA (h 2) 16 (m_le M) (m_ln M) (by omega) (by omega)) (va_cwS 2 hts gX0_nextAmount_X0_sum rfl rfl rfl (by decide +kernel) ⟨Nat.le_of_ble_eq_true rfl, Nat.le_of_ble_eq_true rfl⟩) ⟨pR_fb, pR_mk (hP.sub (ws' := [(h 2, .inl (cA, 16, .inl (m_le M)))]) [2] rfl) hK⟩ rfl rfl hl.1 rfl (lv_room (Nat.le_of_ble_eq_true rfl)) dX0_nextAmount_13 ⟨Nat.le_of_ble_eq_true rfl, Nat.le_of_ble_eq_true rfl⟩) (fun r2 qr2 => ?_)
  have qr2 : r2 = psum (m_le M) (m_ln M) := qr2
  subst qr2
  refine lv_aload_n hx hb dX0_nextAmount_16 rfl (lv_at hl 1 rfl) ?_
  refine va_get (D := D) (ci := 0) (v := .ref (h 9)) (C := RX0) (T := TX0) (N := 15) hx hb hts hin0 hown hK hP 0 rfl rfl 11 (by decide) kw2 (fun _ h9 => h9) rfl dX0_nextAmount_17 ?_
  refine lv_aload_n hx hb dX0_nextAmount_20 rfl (lv_at hl 1 rfl) ?_
  refine va_get (D := D) (ci := 0) (v := .int (nI (m_an M))) (C := RX0) (T := TX0) (N := 15) hx hb hts hin0 hown hK hP 0 rfl rfl 14 (by decide) kw3 (fun _ h9 => h9) rfl dX0_nextAmount_21 ?_
  refine vp_callSi (W.runS (As := [.ref (h 9), .int (nI (m_an M))]) (rest := [.int (psum (m_le M) (m_ln M))]) ⟨hx, hb, hml, hown, hts⟩ (c0_sum l D cA (h 9) 60 (m_aa M) (m_an M) (by omega) (by omega)) (va_cwS 2 hts gX0_nextAmount_X0_sum rfl rfl rfl (by decide +kernel) ⟨Nat.le_of_ble_eq_true rfl, Nat.le_of_ble_eq_true rfl⟩) ⟨pR_fb, pR_mk (hP.sub (ws' := [(h 9, .inl (cA, 60, .inl (m_aa M)))]) [9] rfl) hK⟩ rfl rfl hl.1 rfl (lv_room (Nat.le_of_ble_eq_true rfl)) dX0_nextAmount_24 ⟨Nat.le_of_ble_eq_true rfl, Nat.le_of_ble_eq_true rfl⟩) (fun r3 qr3 => ?_)
  have qr3 : r3 = psum (m_aa M) (m_an M) := qr3
  subst qr3
  refine lv_isub hx hb dX0_nextAmount_27 ?_
  refine lv_istore_n (lv' := [(2, .int ((psum (m_le M) (m_ln M)) - (psum (m_aa M) (m_an M)))), (1, .int (x_rate M)), (0, .ref (h 0))]) hx hb dX0_nextAmount_28 rfl hl (by decide) rfl (fun ls hl => ?_)
  refine lv_iconst (v := 0) hx hb dX0_nextAmount_29 (by decide) ?_
  refine lv_istore_n (lv' := [(3, .int 0), (2, .int ((psum (m_le M) (m_ln M)) - (psum (m_aa M) (m_an M)))), (1, .int (x_rate M)), (0, .ref (h 0))]) hx hb dX0_nextAmount_30 rfl hl (by decide) rfl (fun ls hl => ?_)
  have loop : ∀ (fu : Nat) (k : Nat) (x2 : Int32), k ≤ m_ln M → x2 = x_nsub M (x_rate M) (psum (m_le M) (m_ln M) - psum (m_aa M) (m_an M)) k → m_ln M - k < fu → ∀ (ls : Array Slot), lv_has ls 4 [(0, .ref (h 0)), (1, .int (x_rate M)), (2, .int x2), (3, .int (nI k))] → W p l e (headSpec wsX0_nextAmount ({ frames := 4, cells := 0, slots := 0, locals := 90 } : Room)).room s m ([.ref (h 0)] : List Value).toArray below meth c s.heap [] 0 0 Q (F0 m 31 ls []) := by
    intro fu
    induction fu with
    | zero => intro k x2 hk e2 hfu; exact absurd hfu (by omega)
    | succ fu ih =>
      intro k x2 hk e2 hfu ls hl
      refine lv_iload_n hx hb dX0_nextAmount_31 rfl (lv_at hl 3 rfl) ?_
      refine lv_aload_n hx hb dX0_nextAmount_32 rfl (lv_at hl 0 rfl) ?_
      refine va_get (D := D) (ci := 0) (v := .int (nI (m_ln M))) (C := RX0) (T := TX0) (N := 15) hx hb hts hin0 hown hK hP 0 rfl rfl 5 (by decide) kw1 (fun _ h9 => h9) rfl dX0_nextAmount_33 ?_
      refine lv_icmp_ge (tgt := 54) hx hb dX0_nextAmount_36 (by decide) (fun c4 => ?_) (fun c4 => ?_)
      · have c4 := k_le (a := (m_ln M)) (b := k) (by omega) (by omega) c4
        refine lv_iload_n hx hb dX0_nextAmount_54 rfl (lv_at hl 2 rfl) ?_
        subst hQ
        exact W.iret (v := x2) hx hb hr (fun t ht hW => ⟨_, rfl, (by unfold x_next; rw [e2, show k = m_ln M by omega]), ht⟩) (fun q hq => by cases hq) dX0_nextAmount_55
      · have c4 := k_nle (a := (m_ln M)) (b := k) (by omega) (by omega) c4
        refine lv_iload_n hx hb dX0_nextAmount_39 rfl (lv_at hl 2 rfl) ?_
        refine lv_aload_n hx hb dX0_nextAmount_40 rfl (lv_at hl 0 rfl) ?_
        refine lv_iload_n hx hb dX0_nextAmount_41 rfl (lv_at hl 3 rfl) ?_
        refine lv_iload_n hx hb dX0_nextAmount_42 rfl (lv_at hl 1 rfl) ?_
        refine vp_callSi (W.runV (As := [.int (nI k), .int (x_rate M)]) (rest := [.int x2]) ⟨hx, hb, hml, hown, hts⟩ (c0_heldIfClosed l D h cA M hM k (by first | omega | assumption) (x_rate M)) (cwV 2 hts gX0_nextAmount_X0_heldIfClosed rfl rfl rfl (by decide +kernel) ⟨Nat.le_of_ble_eq_true rfl, Nat.le_of_ble_eq_true rfl⟩) ⟨pR_fb, va_recv hK hP (ci := 0) (q0 := 0) rfl rfl, pR_mk hP hK⟩ rfl rfl hl.1 rfl (lv_room (Nat.le_of_ble_eq_true rfl)) dX0_nextAmount_43 ⟨Nat.le_of_ble_eq_true rfl, Nat.le_of_ble_eq_true rfl⟩) (fun r5 qr5 => ?_)
        have qr5 : r5 = x_hIf M k (x_rate M) := qr5
        subst qr5
        refine lv_isub hx hb dX0_nextAmount_46 ?_
        refine lv_istore_n (lv' := [(2, .int (x2 - (x_hIf M k (x_rate M)))), (0, .ref (h 0)), (1, .int (x_rate M)), (3, .int (nI k))]) hx hb dX0_nextAmount_47 rfl hl (by decide) rfl (fun ls hl => ?_)
        refine lv_iinc (v := nI (k + 1)) (lv' := [(3, .int (nI (k + 1))), (2, .int (x2 - (x_hIf M k (x_rate M)))), (0, .ref (h 0)), (1, .int (x_rate M))]) hx hb dX0_nextAmount_48 hl (k := 3) rfl (nI_1 _) (by decide) rfl (fun ls hl => ?_)
        refine lv_goto (tgt := 31) hx hb dX0_nextAmount_51 (by decide) ?_
        exact ih (k + 1) _ (by omega) (by rw [e2]; rfl) (by omega) ls (lv_sub hl [2, 3, 1, 0] rfl)
  exact loop (m_ln M + 1) 0 _ (Nat.zero_le _) rfl (by omega) ls (lv_sub hl [3, 2, 1, 0] rfl)
set_option maxHeartbeats 4000000 in
set_option maxRecDepth 100000 in
theorem c0_waiversGiven (l : Launch) (D : va_G) (h : Nat → Nat) (cA : ClassId) (M : MM) (hM : OKM M) : Met l yX0_waiversGiven wsX0_waiversGiven ({ frames := 0, cells := 0, slots := 0, locals := 0 } : Room) (va_Pc [.ref (h 0)] (pR D [(cA, .int)] (w0 h cA M))) (vp_Si (fun r : Int32 => r = nI (cnt2 (m_as M) (m_an M)))) 0 0 (fun _ => False) := by
  refine Met.ofW (cc := cX0_waiversGiven) (maxL := 3) (ret := (some .int)) (by decide) rfl ?_
  intro p e s m args below meth c s₁ B hml hv
  obtain ⟨rfl, hP, hK⟩ := hv
  have hx := B.exec
  have hb := B.bytes
  have hr := B.returns
  have hts := atoms_spec (ws := wsX0_waiversGiven) B.pre
  have hown : s.vm.findClass RX0 = some m.cls := findClass_of_methodNamed B.named
  have hlocks := B.notSynchronized
  have kw0 := hts (.fieldLink RX0 115 "ProgressBilling" "applicationCount" "I") (by decide +kernel)
  have kw1 := hts (.fieldLink RX0 31 "ProgressBilling" "applicationState" "[I") (by decide +kernel)
  have hin0 : ∀ w ∈ u_ws RX0 TX0 15, w ∈ wsX0_waiversGiven := by decide +kernel
  obtain ⟨hn1, hn2, hn3, hn4⟩ := id hM
  have hl := lv_entry ([.ref (h 0)]) (n := 3) (Nat.le_of_ble_eq_true rfl)
  rw [lg_entry_eq]
  generalize (lg_sl ([.ref (h 0)]) ++ List.replicate (3 - (lg_sl ([.ref (h 0)])).length) Slot.unset).toArray = ls at hl ⊢
  have hl : lv_has ls 3 [(0, .ref (h 0))] := hl
  refine w_abs (fun Q hQ => ?_)
  refine lv_iconst (v := 0) hx hb dX0_waiversGiven_0 (by decide) ?_
  refine lv_istore_n (lv' := [(1, .int 0), (0, .ref (h 0))]) hx hb dX0_waiversGiven_1 rfl hl (by decide) rfl (fun ls hl => ?_)
  refine lv_iconst (v := 0) hx hb dX0_waiversGiven_2 (by decide) ?_
  refine lv_istore_n (lv' := [(2, .int 0), (1, .int 0), (0, .ref (h 0))]) hx hb dX0_waiversGiven_3 rfl hl (by decide) rfl (fun ls hl => ?_)
  have loop : ∀ (fu : Nat) (k : Nat) (b : Nat), k ≤ m_an M → b ≤ k → b = cnt2 (m_as M) k → m_an M - k < fu → ∀ (ls : Array Slot), lv_has ls 3 [(0, .ref (h 0)), (1, .int (nI b)), (2, .int (nI k))] → W p l e (headSpec wsX0_waiversGiven ({ frames := 0, cells := 0, slots := 0, locals := 0 } : Room)).room s m ([.ref (h 0)] : List Value).toArray below meth c s.heap [] 0 0 Q (F0 m 4 ls []) := by
    intro fu
    induction fu with
    | zero => intro k b hk hb2 eb hfu; exact absurd hfu (by omega)
    | succ fu ih =>
      intro k b hk hb2 eb hfu ls hl
      refine lv_iload_n hx hb dX0_waiversGiven_4 rfl (lv_at hl 2 rfl) ?_
      refine lv_aload_n hx hb dX0_waiversGiven_5 rfl (lv_at hl 0 rfl) ?_
      refine va_get (D := D) (ci := 0) (v := .int (nI (m_an M))) (C := RX0) (T := TX0) (N := 15) hx hb hts hin0 hown hK hP 0 rfl rfl 14 (by decide) kw0 (fun _ h9 => h9) rfl dX0_waiversGiven_6 ?_
      refine lv_icmp_ge (tgt := 31) hx hb dX0_waiversGiven_9 (by decide) (fun c1 => ?_) (fun c1 => ?_)
      · have c1 := k_le (a := (m_an M)) (b := k) (by omega) (by omega) c1
        refine lv_iload_n hx hb dX0_waiversGiven_31 rfl (lv_at hl 1 rfl) ?_
        subst hQ
        exact W.iret (v := nI b) hx hb hr (fun t ht hW => ⟨_, rfl, (by rw [eb, show k = m_an M by omega]), ht⟩) (fun q hq => by cases hq) dX0_waiversGiven_32
      · have c1 := k_nle (a := (m_an M)) (b := k) (by omega) (by omega) c1
        refine lv_aload_n hx hb dX0_waiversGiven_12 rfl (lv_at hl 0 rfl) ?_
        refine va_get (D := D) (ci := 0) (v := .ref (h 8)) (C := RX0) (T := TX0) (N := 15) hx hb hts hin0 hown hK hP 0 rfl rfl 10 (by decide) kw1 (fun _ h9 => h9) rfl dX0_waiversGiven_13 ?_
        refine lv_iload_n hx hb dX0_waiversGiven_16 rfl (lv_at hl 2 rfl) ?_
        refine r_ald (f := m_as M) (j := k) hx hb hK hP 8 0 rfl rfl (by omega) (by omega) dX0_waiversGiven_17 ?_
        refine lv_iconst (v := 2) hx hb dX0_waiversGiven_18 (by decide) ?_
        refine lv_icmp_ne (tgt := 25) hx hb dX0_waiversGiven_19 (by decide) (fun c2 => ?_) (fun c2 => ?_)
        · refine lv_iinc (v := nI (k + 1)) (lv' := [(2, .int (nI (k + 1))), (0, .ref (h 0)), (1, .int (nI b))]) hx hb dX0_waiversGiven_25 hl (k := 2) rfl (nI_1 _) (by decide) rfl (fun ls hl => ?_)
          refine lv_goto (tgt := 4) hx hb dX0_waiversGiven_28 (by decide) ?_
          exact ih (k + 1) (b) (by omega) (by omega) (by unfold cnt2; rw [← eb, if_neg c2]) (by omega) ls (lv_sub hl [1, 2, 0] rfl)
        · refine lv_iinc (v := nI (b + 1)) (lv' := [(1, .int (nI (b + 1))), (0, .ref (h 0)), (2, .int (nI k))]) hx hb dX0_waiversGiven_22 hl (k := 1) rfl (nI_1 _) (by decide) rfl (fun ls hl => ?_)
          refine lv_iinc (v := nI (k + 1)) (lv' := [(2, .int (nI (k + 1))), (1, .int (nI (b + 1))), (0, .ref (h 0))]) hx hb dX0_waiversGiven_25 hl (k := 2) rfl (nI_1 _) (by decide) rfl (fun ls hl => ?_)
          refine lv_goto (tgt := 4) hx hb dX0_waiversGiven_28 (by decide) ?_
          exact ih (k + 1) ((b + 1)) (by omega) (by omega) (by unfold cnt2; rw [← eb, if_pos c2]) (by omega) ls (lv_sub hl [2, 1, 0] rfl)
  exact loop (m_an M + 1) 0 0 (Nat.zero_le _) (Nat.zero_le _) rfl (by omega) ls (lv_sub hl [2, 1, 0] rfl)
set_option maxHeartbeats 4000000 in
set_option maxRecDepth 100000 in
theorem c0_paid (l : Launch) (D : va_G) (h : Nat → Nat) (cA : ClassId) (M : MM) (hM : OKM M) : Met l yX0_paid wsX0_paid ({ frames := 0, cells := 0, slots := 0, locals := 0 } : Room) (va_Pc [.ref (h 0)] (pR D [(cA, .int)] (w0 h cA M))) (vp_Si (fun r : Int32 => r = x_psum (m_as M) (m_aa M) (m_an M))) 0 0 (fun _ => False) := by
  refine Met.ofW (cc := cX0_paid) (maxL := 3) (ret := (some .int)) (by decide) rfl ?_
  intro p e s m args below meth c s₁ B hml hv
  obtain ⟨rfl, hP, hK⟩ := hv
  have hx := B.exec
  have hb := B.bytes
  have hr := B.returns
  have hts := atoms_spec (ws := wsX0_paid) B.pre
  have hown : s.vm.findClass RX0 = some m.cls := findClass_of_methodNamed B.named
  have hlocks := B.notSynchronized
  have kw0 := hts (.fieldLink RX0 115 "ProgressBilling" "applicationCount" "I") (by decide +kernel)
  have kw1 := hts (.fieldLink RX0 31 "ProgressBilling" "applicationState" "[I") (by decide +kernel)
  have kw2 := hts (.fieldLink RX0 34 "ProgressBilling" "applicationAmount" "[I") (by decide +kernel)
  have hin0 : ∀ w ∈ u_ws RX0 TX0 15, w ∈ wsX0_paid := by decide +kernel
  obtain ⟨hn1, hn2, hn3, hn4⟩ := id hM
  have hl := lv_entry ([.ref (h 0)]) (n := 3) (Nat.le_of_ble_eq_true rfl)
  rw [lg_entry_eq]
  generalize (lg_sl ([.ref (h 0)]) ++ List.replicate (3 - (lg_sl ([.ref (h 0)])).length) Slot.unset).toArray = ls at hl ⊢
  have hl : lv_has ls 3 [(0, .ref (h 0))] := hl
  refine w_abs (fun Q hQ => ?_)
  refine lv_iconst (v := 0) hx hb dX0_paid_0 (by decide) ?_
  refine lv_istore_n (lv' := [(1, .int 0), (0, .ref (h 0))]) hx hb dX0_paid_1 rfl hl (by decide) rfl (fun ls hl => ?_)
  refine lv_iconst (v := 0) hx hb dX0_paid_2 (by decide) ?_
  refine lv_istore_n (lv' := [(2, .int 0), (1, .int 0), (0, .ref (h 0))]) hx hb dX0_paid_3 rfl hl (by decide) rfl (fun ls hl => ?_)
  have loop : ∀ (fu : Nat) (k : Nat) (x2 : Int32), k ≤ m_an M → x2 = x_psum (m_as M) (m_aa M) k → m_an M - k < fu → ∀ (ls : Array Slot), lv_has ls 3 [(0, .ref (h 0)), (1, .int x2), (2, .int (nI k))] → W p l e (headSpec wsX0_paid ({ frames := 0, cells := 0, slots := 0, locals := 0 } : Room)).room s m ([.ref (h 0)] : List Value).toArray below meth c s.heap [] 0 0 Q (F0 m 4 ls []) := by
    intro fu
    induction fu with
    | zero => intro k x2 hk e2 hfu; exact absurd hfu (by omega)
    | succ fu ih =>
      intro k x2 hk e2 hfu ls hl
      refine lv_iload_n hx hb dX0_paid_4 rfl (lv_at hl 2 rfl) ?_
      refine lv_aload_n hx hb dX0_paid_5 rfl (lv_at hl 0 rfl) ?_
      refine va_get (D := D) (ci := 0) (v := .int (nI (m_an M))) (C := RX0) (T := TX0) (N := 15) hx hb hts hin0 hown hK hP 0 rfl rfl 14 (by decide) kw0 (fun _ h9 => h9) rfl dX0_paid_6 ?_
      refine lv_icmp_ge (tgt := 36) hx hb dX0_paid_9 (by decide) (fun c1 => ?_) (fun c1 => ?_)
      · have c1 := k_le (a := (m_an M)) (b := k) (by omega) (by omega) c1
        refine lv_iload_n hx hb dX0_paid_36 rfl (lv_at hl 1 rfl) ?_
        subst hQ
        exact W.iret (v := x2) hx hb hr (fun t ht hW => ⟨_, rfl, (by rw [e2, show k = m_an M by omega]), ht⟩) (fun q hq => by cases hq) dX0_paid_37
      · have c1 := k_nle (a := (m_an M)) (b := k) (by omega) (by omega) c1
        refine lv_aload_n hx hb dX0_paid_12 rfl (lv_at hl 0 rfl) ?_
        refine va_get (D := D) (ci := 0) (v := .ref (h 8)) (C := RX0) (T := TX0) (N := 15) hx hb hts hin0 hown hK hP 0 rfl rfl 10 (by decide) kw1 (fun _ h9 => h9) rfl dX0_paid_13 ?_
        refine lv_iload_n hx hb dX0_paid_16 rfl (lv_at hl 2 rfl) ?_
        refine r_ald (f := m_as M) (j := k) hx hb hK hP 8 0 rfl rfl (by omega) (by omega) dX0_paid_17 ?_
        refine lv_if_eq (tgt := 30) hx hb dX0_paid_18 (by decide) (fun c2 => ?_) (fun c2 => ?_)
        · refine lv_iinc (v := nI (k + 1)) (lv' := [(2, .int (nI (k + 1))), (0, .ref (h 0)), (1, .int x2)]) hx hb dX0_paid_30 hl (k := 2) rfl (nI_1 _) (by decide) rfl (fun ls hl => ?_)
          refine lv_goto (tgt := 4) hx hb dX0_paid_33 (by decide) ?_
          exact ih (k + 1) x2 (by omega) (by unfold x_psum; rw [← e2, if_pos c2]) (by omega) ls (lv_sub hl [1, 2, 0] rfl)
        · refine lv_iload_n hx hb dX0_paid_21 rfl (lv_at hl 1 rfl) ?_
          refine lv_aload_n hx hb dX0_paid_22 rfl (lv_at hl 0 rfl) ?_
          refine va_get (D := D) (ci := 0) (v := .ref (h 9)) (C := RX0) (T := TX0) (N := 15) hx hb hts hin0 hown hK hP 0 rfl rfl 11 (by decide) kw2 (fun _ h9 => h9) rfl dX0_paid_23 ?_
          refine lv_iload_n hx hb dX0_paid_26 rfl (lv_at hl 2 rfl) ?_
          refine r_ald (f := m_aa M) (j := k) hx hb hK hP 9 0 rfl rfl (by omega) (by omega) dX0_paid_27 ?_
          refine lv_iadd hx hb dX0_paid_28 ?_
          refine lv_istore_n (lv' := [(1, .int (x2 + ((m_aa M) k))), (0, .ref (h 0)), (2, .int (nI k))]) hx hb dX0_paid_29 rfl hl (by decide) rfl (fun ls hl => ?_)
          refine lv_iinc (v := nI (k + 1)) (lv' := [(2, .int (nI (k + 1))), (1, .int (x2 + ((m_aa M) k))), (0, .ref (h 0))]) hx hb dX0_paid_30 hl (k := 2) rfl (nI_1 _) (by decide) rfl (fun ls hl => ?_)
          refine lv_goto (tgt := 4) hx hb dX0_paid_33 (by decide) ?_
          exact ih (k + 1) (x2 + ((m_aa M) k)) (by omega) (by unfold x_psum; rw [← e2, if_neg c2]) (by omega) ls (lv_sub hl [2, 1, 0] rfl)
  exact loop (m_an M + 1) 0 0 (Nat.zero_le _) rfl (by omega) ls (lv_sub hl [2, 1, 0] rfl)
set_option maxHeartbeats 4000000 in
set_option maxRecDepth 100000 in
theorem c0_toCome (l : Launch) (D : va_G) (h : Nat → Nat) (cA : ClassId) (M : MM) (hM : OKM M) : Met l yX0_toCome wsX0_toCome ({ frames := 2, cells := 0, slots := 0, locals := 43 } : Room) (va_Pc [.ref (h 0)] (pR D [(cA, .int)] (w0 h cA M))) (vp_Si (fun r : Int32 => r = x_csum M - x_psum (m_as M) (m_aa M) (m_an M))) 0 0 (fun _ => False) := by
  refine Met.ofW (cc := cX0_toCome) (maxL := 1) (ret := (some .int)) (by decide) rfl ?_
  intro p e s m args below meth c s₁ B hml hv
  obtain ⟨rfl, hP, hK⟩ := hv
  have hx := B.exec
  have hb := B.bytes
  have hr := B.returns
  have hts := atoms_spec (ws := wsX0_toCome) B.pre
  have hown : s.vm.findClass RX0 = some m.cls := findClass_of_methodNamed B.named
  have hlocks := B.notSynchronized
  obtain ⟨hn1, hn2, hn3, hn4⟩ := id hM
  have hl := lv_entry ([.ref (h 0)]) (n := 1) (Nat.le_of_ble_eq_true rfl)
  rw [lg_entry_eq]
  generalize (lg_sl ([.ref (h 0)]) ++ List.replicate (1 - (lg_sl ([.ref (h 0)])).length) Slot.unset).toArray = ls at hl ⊢
  have hl : lv_has ls 1 [(0, .ref (h 0))] := hl
  refine w_abs (fun Q hQ => ?_)
  refine lv_aload_n hx hb dX0_toCome_0 rfl (lv_at hl 0 rfl) ?_
  refine vp_callSi (W.runV (As := []) (rest := []) ⟨hx, hb, hml, hown, hts⟩ (c0_contractSum l D h cA M hM) (cwV 0 hts gX0_toCome_X0_contractSum rfl rfl rfl (by decide +kernel) ⟨Nat.le_of_ble_eq_true rfl, Nat.le_of_ble_eq_true rfl⟩) ⟨pR_fb, va_recv hK hP (ci := 0) (q0 := 0) rfl rfl, pR_mk hP hK⟩ rfl rfl hl.1 rfl (lv_room (Nat.le_of_ble_eq_true rfl)) dX0_toCome_1 ⟨Nat.le_of_ble_eq_true rfl, Nat.le_of_ble_eq_true rfl⟩) (fun r1 qr1 => ?_)
  have qr1 : r1 = x_csum M := qr1
  subst qr1
  refine lv_aload_n hx hb dX0_toCome_4 rfl (lv_at hl 0 rfl) ?_
  refine vp_callSi (W.runV (As := []) (rest := [.int (x_csum M)]) ⟨hx, hb, hml, hown, hts⟩ (c0_paid l D h cA M hM) (cwV 0 hts gX0_toCome_X0_paid rfl rfl rfl (by decide +kernel) ⟨Nat.le_of_ble_eq_true rfl, Nat.le_of_ble_eq_true rfl⟩) ⟨pR_fb, va_recv hK hP (ci := 0) (q0 := 0) rfl rfl, pR_mk hP hK⟩ rfl rfl hl.1 rfl (lv_room (Nat.le_of_ble_eq_true rfl)) dX0_toCome_5 ⟨Nat.le_of_ble_eq_true rfl, Nat.le_of_ble_eq_true rfl⟩) (fun r2 qr2 => ?_)
  have qr2 : r2 = x_psum (m_as M) (m_aa M) (m_an M) := qr2
  subst qr2
  refine lv_isub hx hb dX0_toCome_8 ?_
  subst hQ
  exact W.iret (v := (x_csum M) - (x_psum (m_as M) (m_aa M) (m_an M))) hx hb hr (fun t ht hW => ⟨_, rfl, rfl, ht⟩) (fun q hq => by cases hq) dX0_toCome_9
set_option maxHeartbeats 4000000 in
set_option maxRecDepth 100000 in
theorem c0_shareDivisor (l : Launch) (D : va_G) (h : Nat → Nat) (cA : ClassId) (M : MM) (hM : OKM M) (j : Nat) (hj : j < m_ln M) : Met l yX0_shareDivisor wsX0_shareDivisor ({ frames := 1, cells := 0, slots := 0, locals := 21 } : Room) (va_Pc [.ref (h 0), .int (nI j)] (pR D [(cA, .int)] (w0 h cA M))) (vp_Si (fun r : Int32 => r = x_dv M j)) 0 0 (fun _ => False) := by
  refine Met.ofW (cc := cX0_shareDivisor) (maxL := 2) (ret := (some .int)) (by decide) rfl ?_
  intro p e s m args below meth c s₁ B hml hv
  obtain ⟨rfl, hP, hK⟩ := hv
  have hx := B.exec
  have hb := B.bytes
  have hr := B.returns
  have hts := atoms_spec (ws := wsX0_shareDivisor) B.pre
  have hown : s.vm.findClass RX0 = some m.cls := findClass_of_methodNamed B.named
  have hlocks := B.notSynchronized
  have kw0 := hts (.fieldLink RX0 9 "ProgressBilling" "lineValue" "[I") (by decide +kernel)
  have kw1 := hts (.methodLink RX0 175 Lib.Math.max.name) (by decide +kernel)
  have kw2 := hts (.static Lib.Math.max.name) (by decide +kernel)
  have kw3 := hts (.initialized "java/lang/Math") (by decide +kernel)
  have kw4 := hts (.code Lib.Math.max.name Lib.Math.max.code 2 (some .int)) (by decide +kernel)
  have hin0 : ∀ w ∈ u_ws RX0 TX0 15, w ∈ wsX0_shareDivisor := by decide +kernel
  obtain ⟨hn1, hn2, hn3, hn4⟩ := id hM
  have hl := lv_entry ([.ref (h 0), .int (nI j)]) (n := 2) (Nat.le_of_ble_eq_true rfl)
  rw [lg_entry_eq]
  generalize (lg_sl ([.ref (h 0), .int (nI j)]) ++ List.replicate (2 - (lg_sl ([.ref (h 0), .int (nI j)])).length) Slot.unset).toArray = ls at hl ⊢
  have hl : lv_has ls 2 [(0, .ref (h 0)), (1, .int (nI j))] := hl
  refine w_abs (fun Q hQ => ?_)
  refine lv_aload_n hx hb dX0_shareDivisor_0 rfl (lv_at hl 0 rfl) ?_
  refine va_get (D := D) (ci := 0) (v := .ref (h 1)) (C := RX0) (T := TX0) (N := 15) hx hb hts hin0 hown hK hP 0 rfl rfl 0 (by decide) kw0 (fun _ h9 => h9) rfl dX0_shareDivisor_1 ?_
  refine lv_iload_n hx hb dX0_shareDivisor_4 rfl (lv_at hl 1 rfl) ?_
  refine r_ald (f := m_lv M) (j := j) hx hb hK hP 1 0 rfl rfl (by omega) (by omega) dX0_shareDivisor_5 ?_
  refine lv_iconst (v := 1) hx hb dX0_shareDivisor_6 (by decide) ?_
  refine va_mmax hx hb (hml.trans hl.1.symm) hown kw1 kw2 kw3 kw4 (Nat.le_of_ble_eq_true rfl) (Nat.le_of_ble_eq_true rfl) (Nat.le_of_ble_eq_true rfl) (Nat.le_of_ble_eq_true rfl) dX0_shareDivisor_7 ?_
  subst hQ
  exact W.iret (v := if (m_lv M) j < 1 then 1 else (m_lv M) j) hx hb hr (fun t ht hW => ⟨_, rfl, rfl, ht⟩) (fun q hq => by cases hq) dX0_shareDivisor_10
set_option maxHeartbeats 4000000 in
set_option maxRecDepth 100000 in
theorem c0_isAhead (l : Launch) (D : va_G) (h : Nat → Nat) (cA : ClassId) (M : MM) (hM : OKM M) (a b : Nat) (ha : a < m_ln M) (hb9 : b < m_ln M) : Met l yX0_isAhead wsX0_isAhead ({ frames := 2, cells := 0, slots := 0, locals := 42 } : Room) (va_Pc [.ref (h 0), .int (nI a), .int (nI b)] (pR D [(cA, .int)] (w0 h cA M))) (vp_Si (fun r : Int32 => r = if z_ah (m_lw M) (x_dv M) a b = true then 1 else 0)) 0 0 (fun _ => False) := by
  refine Met.ofW (cc := cX0_isAhead) (maxL := 7) (ret := (some .boolean)) (by decide) rfl ?_
  intro p e s m args below meth c s₁ B hml hv
  obtain ⟨rfl, hP, hK⟩ := hv
  have hx := B.exec
  have hb := B.bytes
  have hr := B.returns
  have hts := atoms_spec (ws := wsX0_isAhead) B.pre
  have hown : s.vm.findClass RX0 = some m.cls := findClass_of_methodNamed B.named
  have hlocks := B.notSynchronized
  have kw0 := hts (.fieldLink RX0 16 "ProgressBilling" "lineWork" "[I") (by decide +kernel)
  have hin0 : ∀ w ∈ u_ws RX0 TX0 15, w ∈ wsX0_isAhead := by decide +kernel
  obtain ⟨hn1, hn2, hn3, hn4⟩ := id hM
  have hl := lv_entry ([.ref (h 0), .int (nI a), .int (nI b)]) (n := 7) (Nat.le_of_ble_eq_true rfl)
  rw [lg_entry_eq]
  generalize (lg_sl ([.ref (h 0), .int (nI a), .int (nI b)]) ++ List.replicate (7 - (lg_sl ([.ref (h 0), .int (nI a), .int (nI b)])).length) Slot.unset).toArray = ls at hl ⊢
  have hl : lv_has ls 7 [(0, .ref (h 0)), (1, .int (nI a)), (2, .int (nI b))] := hl
  refine w_abs (fun Q hQ => ?_)
  refine lv_aload_n hx hb dX0_isAhead_0 rfl (lv_at hl 0 rfl) ?_
  refine va_get (D := D) (ci := 0) (v := .ref (h 3)) (C := RX0) (T := TX0) (N := 15) hx hb hts hin0 hown hK hP 0 rfl rfl 2 (by decide) kw0 (fun _ h9 => h9) rfl dX0_isAhead_1 ?_
  refine lv_iload_n hx hb dX0_isAhead_4 rfl (lv_at hl 1 rfl) ?_
  refine r_ald (f := m_lw M) (j := a) hx hb hK hP 3 0 rfl rfl (by omega) (by omega) dX0_isAhead_5 ?_
  refine lv_i2l (v := ((m_lw M) a).toInt64) hx hb dX0_isAhead_6 rfl ?_
  refine lv_aload_n hx hb dX0_isAhead_7 rfl (lv_at hl 0 rfl) ?_
  refine lv_iload_n hx hb dX0_isAhead_8 rfl (lv_at hl 2 rfl) ?_
  refine vp_callSi (W.runV (As := [.int (nI b)]) (rest := [.long (((m_lw M) a).toInt64)]) ⟨hx, hb, hml, hown, hts⟩ (c0_shareDivisor l D h cA M hM b (by assumption)) (cwV 1 hts gX0_isAhead_X0_shareDivisor rfl rfl rfl (by decide +kernel) ⟨Nat.le_of_ble_eq_true rfl, Nat.le_of_ble_eq_true rfl⟩) ⟨pR_fb, va_recv hK hP (ci := 0) (q0 := 0) rfl rfl, pR_mk hP hK⟩ rfl rfl hl.1 rfl (lv_room (Nat.le_of_ble_eq_true rfl)) dX0_isAhead_9 ⟨Nat.le_of_ble_eq_true rfl, Nat.le_of_ble_eq_true rfl⟩) (fun r1 qr1 => ?_)
  have qr1 : r1 = x_dv M b := qr1
  subst qr1
  refine lv_i2l (v := (x_dv M b).toInt64) hx hb dX0_isAhead_12 rfl ?_
  refine lv_lmul hx hb dX0_isAhead_13 ?_
  refine lv_lstore_n (lv' := [(3, .long ((((m_lw M) a).toInt64) * ((x_dv M b).toInt64))), (0, .ref (h 0)), (1, .int (nI a)), (2, .int (nI b))]) hx hb dX0_isAhead_14 rfl hl (by decide) rfl (fun ls hl => ?_)
  refine lv_aload_n hx hb dX0_isAhead_15 rfl (lv_at hl 1 rfl) ?_
  refine va_get (D := D) (ci := 0) (v := .ref (h 3)) (C := RX0) (T := TX0) (N := 15) hx hb hts hin0 hown hK hP 0 rfl rfl 2 (by decide) kw0 (fun _ h9 => h9) rfl dX0_isAhead_16 ?_
  refine lv_iload_n hx hb dX0_isAhead_19 rfl (lv_at hl 3 rfl) ?_
  refine r_ald (f := m_lw M) (j := b) hx hb hK hP 3 0 rfl rfl (by omega) (by omega) dX0_isAhead_20 ?_
  refine lv_i2l (v := ((m_lw M) b).toInt64) hx hb dX0_isAhead_21 rfl ?_
  refine lv_aload_n hx hb dX0_isAhead_22 rfl (lv_at hl 1 rfl) ?_
  refine lv_iload_n hx hb dX0_isAhead_23 rfl (lv_at hl 2 rfl) ?_
  refine vp_callSi (W.runV (As := [.int (nI a)]) (rest := [.long (((m_lw M) b).toInt64)]) ⟨hx, hb, hml, hown, hts⟩ (c0_shareDivisor l D h cA M hM a (by assumption)) (cwV 1 hts gX0_isAhead_X0_shareDivisor rfl rfl rfl (by decide +kernel) ⟨Nat.le_of_ble_eq_true rfl, Nat.le_of_ble_eq_true rfl⟩) ⟨pR_fb, va_recv hK hP (ci := 0) (q0 := 0) rfl rfl, pR_mk hP hK⟩ rfl rfl hl.1 rfl (lv_room (Nat.le_of_ble_eq_true rfl)) dX0_isAhead_24 ⟨Nat.le_of_ble_eq_true rfl, Nat.le_of_ble_eq_true rfl⟩) (fun r2 qr2 => ?_)
  have qr2 : r2 = x_dv M a := qr2
  subst qr2
  refine lv_i2l (v := (x_dv M a).toInt64) hx hb dX0_isAhead_27 rfl ?_
  refine lv_lmul hx hb dX0_isAhead_28 ?_
  refine lv_lstore (lv' := [(5, .long ((((m_lw M) b).toInt64) * ((x_dv M a).toInt64))), (3, .long ((((m_lw M) a).toInt64) * ((x_dv M b).toInt64))), (0, .ref (h 0)), (1, .int (nI a)), (2, .int (nI b))]) hx hb dX0_isAhead_29 hl (by decide) rfl (fun ls hl => ?_)
  refine lv_lload_n hx hb dX0_isAhead_31 rfl (lv_at hl 1 rfl) ?_
  refine lv_lload hx hb dX0_isAhead_32 (lv_at hl 0 rfl) ?_
  refine W.lcmp hx hb dX0_isAhead_34 ?_
  refine lv_if_gt (tgt := 50) hx hb dX0_isAhead_35 (by decide) (fun c3 => ?_) (fun c3 => ?_)
  · have c3 := k_cgt c3
    refine lv_iconst (v := 1) hx hb dX0_isAhead_50 (by decide) ?_
    refine lv_goto (tgt := 55) hx hb dX0_isAhead_51 (by decide) ?_
    subst hQ
    exact W.zret (v := 1) (ty := .boolean) hx hb hr rfl (fun t ht hW => ⟨_, rfl, (by unfold z_ah; rw [decide_eq_true c3, Bool.true_or, if_pos rfl]), ht⟩) (fun q hq => by cases hq) dX0_isAhead_55
  · have c3 := k_cngt c3
    refine lv_lload_n hx hb dX0_isAhead_38 rfl (lv_at hl 1 rfl) ?_
    refine lv_lload hx hb dX0_isAhead_39 (lv_at hl 0 rfl) ?_
    refine W.lcmp hx hb dX0_isAhead_41 ?_
    refine lv_if_ne (tgt := 54) hx hb dX0_isAhead_42 (by decide) (fun c4 => ?_) (fun c4 => ?_)
    · have c4 := k_cne c4
      refine lv_iconst (v := 0) hx hb dX0_isAhead_54 (by decide) ?_
      subst hQ
      exact W.zret (v := 0) (ty := .boolean) hx hb hr rfl (fun t ht hW => ⟨_, rfl, (by unfold z_ah; rw [decide_eq_false c3, decide_eq_false c4]; rfl), ht⟩) (fun q hq => by cases hq) dX0_isAhead_55
    · have c4 := k_ceq c4
      refine lv_iload_n hx hb dX0_isAhead_45 rfl (lv_at hl 3 rfl) ?_
      refine lv_iload_n hx hb dX0_isAhead_46 rfl (lv_at hl 4 rfl) ?_
      refine lv_icmp_ge (tgt := 54) hx hb dX0_isAhead_47 (by decide) (fun c5 => ?_) (fun c5 => ?_)
      · have c5 := k_le (a := b) (b := a) (by omega) (by omega) c5
        refine lv_iconst (v := 0) hx hb dX0_isAhead_54 (by decide) ?_
        subst hQ
        exact W.zret (v := 0) (ty := .boolean) hx hb hr rfl (fun t ht hW => ⟨_, rfl, (by unfold z_ah; rw [decide_eq_false c3, decide_eq_false (p := a < b) (by omega), Bool.and_false]; rfl), ht⟩) (fun q hq => by cases hq) dX0_isAhead_55
      · have c5 := k_nle (a := b) (b := a) (by omega) (by omega) c5
        refine lv_iconst (v := 1) hx hb dX0_isAhead_50 (by decide) ?_
        refine lv_goto (tgt := 55) hx hb dX0_isAhead_51 (by decide) ?_
        subst hQ
        exact W.zret (v := 1) (ty := .boolean) hx hb hr rfl (fun t ht hW => ⟨_, rfl, (by unfold z_ah; rw [decide_eq_false c3, decide_eq_true c4, decide_eq_true c5]; rfl), ht⟩) (fun q hq => by cases hq) dX0_isAhead_55
set_option maxHeartbeats 4000000 in
set_option maxRecDepth 100000 in
theorem c0_placeByShare (l : Launch) (D : va_G) (h : Nat → Nat) (cA : ClassId) (M : MM) (hM : OKM M) (j : Nat) (hj : j < m_ln M) : Met l yX0_placeByShare wsX0_placeByShare ({ frames := 3, cells := 0, slots := 0, locals := 68 } : Room) (va_Pc [.ref (h 0), .int (nI j)] (pR D [(cA, .int)] (w0 h cA M))) (vp_Si (fun r : Int32 => ∃ n : Nat, n ≤ m_ln M ∧ r = nI n ∧ n = x_rank M j)) 0 0 (fun _ => False) := by
  refine Met.ofW (cc := cX0_placeByShare) (maxL := 4) (ret := (some .int)) (by decide) rfl ?_
  intro p e s m args below meth c s₁ B hml hv
  obtain ⟨rfl, hP, hK⟩ := hv
  have hx := B.exec
  have hb := B.bytes
  have hr := B.returns
  have hts := atoms_spec (ws := wsX0_placeByShare) B.pre
  have hown : s.vm.findClass RX0 = some m.cls := findClass_of_methodNamed B.named
  have hlocks := B.notSynchronized
  have kw0 := hts (.fieldLink RX0 55 "ProgressBilling" "lineCount" "I") (by decide +kernel)
  have hin0 : ∀ w ∈ u_ws RX0 TX0 15, w ∈ wsX0_placeByShare := by decide +kernel
  obtain ⟨hn1, hn2, hn3, hn4⟩ := id hM
  have hl := lv_entry ([.ref (h 0), .int (nI j)]) (n := 4) (Nat.le_of_ble_eq_true rfl)
  rw [lg_entry_eq]
  generalize (lg_sl ([.ref (h 0), .int (nI j)]) ++ List.replicate (4 - (lg_sl ([.ref (h 0), .int (nI j)])).length) Slot.unset).toArray = ls at hl ⊢
  have hl : lv_has ls 4 [(0, .ref (h 0)), (1, .int (nI j))] := hl
  refine w_abs (fun Q hQ => ?_)
  refine lv_iconst (v := 0) hx hb dX0_placeByShare_0 (by decide) ?_
  refine lv_istore_n (lv' := [(2, .int 0), (0, .ref (h 0)), (1, .int (nI j))]) hx hb dX0_placeByShare_1 rfl hl (by decide) rfl (fun ls hl => ?_)
  refine lv_iconst (v := 0) hx hb dX0_placeByShare_2 (by decide) ?_
  refine lv_istore_n (lv' := [(3, .int 0), (2, .int 0), (0, .ref (h 0)), (1, .int (nI j))]) hx hb dX0_placeByShare_3 rfl hl (by decide) rfl (fun ls hl => ?_)
  have loop : ∀ (fu : Nat) (k : Nat) (b : Nat), k ≤ m_ln M → b ≤ k → b = z_rk (m_lw M) (x_dv M) j k → m_ln M - k < fu → ∀ (ls : Array Slot), lv_has ls 4 [(0, .ref (h 0)), (1, .int (nI j)), (2, .int (nI b)), (3, .int (nI k))] → W p l e (headSpec wsX0_placeByShare ({ frames := 3, cells := 0, slots := 0, locals := 68 } : Room)).room s m ([.ref (h 0), .int (nI j)] : List Value).toArray below meth c s.heap [] 0 0 Q (F0 m 4 ls []) := by
    intro fu
    induction fu with
    | zero => intro k b hk hb2 eb hfu; exact absurd hfu (by omega)
    | succ fu ih =>
      intro k b hk hb2 eb hfu ls hl
      refine lv_iload_n hx hb dX0_placeByShare_4 rfl (lv_at hl 3 rfl) ?_
      refine lv_aload_n hx hb dX0_placeByShare_5 rfl (lv_at hl 0 rfl) ?_
      refine va_get (D := D) (ci := 0) (v := .int (nI (m_ln M))) (C := RX0) (T := TX0) (N := 15) hx hb hts hin0 hown hK hP 0 rfl rfl 5 (by decide) kw0 (fun _ h9 => h9) rfl dX0_placeByShare_6 ?_
      refine lv_icmp_ge (tgt := 30) hx hb dX0_placeByShare_9 (by decide) (fun c1 => ?_) (fun c1 => ?_)
      · have c1 := k_le (a := (m_ln M)) (b := k) (by omega) (by omega) c1
        refine lv_iload_n hx hb dX0_placeByShare_30 rfl (lv_at hl 2 rfl) ?_
        subst hQ
        exact W.iret (v := nI b) hx hb hr (fun t ht hW => ⟨_, rfl, ⟨b, by omega, rfl, by unfold x_rank; rw [eb, show k = m_ln M by omega]⟩, ht⟩) (fun q hq => by cases hq) dX0_placeByShare_31
      · have c1 := k_nle (a := (m_ln M)) (b := k) (by omega) (by omega) c1
        refine lv_aload_n hx hb dX0_placeByShare_12 rfl (lv_at hl 0 rfl) ?_
        refine lv_iload_n hx hb dX0_placeByShare_13 rfl (lv_at hl 3 rfl) ?_
        refine lv_iload_n hx hb dX0_placeByShare_14 rfl (lv_at hl 1 rfl) ?_
        refine vp_callSi (W.runV (As := [.int (nI k), .int (nI j)]) (rest := []) ⟨hx, hb, hml, hown, hts⟩ (c0_isAhead l D h cA M hM k j (by omega) (by omega)) (cwV 2 hts gX0_placeByShare_X0_isAhead rfl rfl rfl (by decide +kernel) ⟨Nat.le_of_ble_eq_true rfl, Nat.le_of_ble_eq_true rfl⟩) ⟨pR_fb, va_recv hK hP (ci := 0) (q0 := 0) rfl rfl, pR_mk hP hK⟩ rfl rfl hl.1 rfl (lv_room (Nat.le_of_ble_eq_true rfl)) dX0_placeByShare_15 ⟨Nat.le_of_ble_eq_true rfl, Nat.le_of_ble_eq_true rfl⟩) (fun r2 qr2 => ?_)
        rcases bl_c (z_ah (m_lw M) (x_dv M) k j) with z3 | z3
        · have qr2 : r2 = 1 := by rw [qr2, z3]; rfl
          subst qr2
          refine lv_if_eq (tgt := 24) hx hb dX0_placeByShare_18 (by decide) (fun c4 => ?_) (fun c4 => ?_)
          · exact absurd c4 (by decide)
          · refine lv_iinc (v := nI (b + 1)) (lv' := [(2, .int (nI (b + 1))), (0, .ref (h 0)), (1, .int (nI j)), (3, .int (nI k))]) hx hb dX0_placeByShare_21 hl (k := 2) rfl (nI_1 _) (by decide) rfl (fun ls hl => ?_)
            refine lv_iinc (v := nI (k + 1)) (lv' := [(3, .int (nI (k + 1))), (2, .int (nI (b + 1))), (0, .ref (h 0)), (1, .int (nI j))]) hx hb dX0_placeByShare_24 hl (k := 3) rfl (nI_1 _) (by decide) rfl (fun ls hl => ?_)
            refine lv_goto (tgt := 4) hx hb dX0_placeByShare_27 (by decide) ?_
            exact ih (k + 1) ((b + 1)) (by omega) (by omega) (by unfold z_rk; rw [← eb, z3]; rfl) (by omega) ls (lv_sub hl [2, 3, 1, 0] rfl)
        · have qr2 : r2 = 0 := by rw [qr2, z3]; rfl
          subst qr2
          refine lv_if_eq (tgt := 24) hx hb dX0_placeByShare_18 (by decide) (fun c5 => ?_) (fun c5 => ?_)
          · refine lv_iinc (v := nI (k + 1)) (lv' := [(3, .int (nI (k + 1))), (0, .ref (h 0)), (1, .int (nI j)), (2, .int (nI b))]) hx hb dX0_placeByShare_24 hl (k := 3) rfl (nI_1 _) (by decide) rfl (fun ls hl => ?_)
            refine lv_goto (tgt := 4) hx hb dX0_placeByShare_27 (by decide) ?_
            exact ih (k + 1) (b) (by omega) (by omega) (by unfold z_rk; rw [← eb, z3]; rfl) (by omega) ls (lv_sub hl [1, 2, 3, 0] rfl)
          · exact absurd c5 (by decide)
  exact loop (m_ln M + 1) 0 0 (Nat.zero_le _) (Nat.zero_le _) rfl (by omega) ls (lv_sub hl [2, 3, 1, 0] rfl)
set_option maxHeartbeats 4000000 in
set_option maxRecDepth 100000 in
theorem c0_stepWith (l : Launch) (D : va_G) (h : Nat → Nat) (cA : ClassId) (M : MM) (hM : OKM M) (t9 : Int32) : Met l yX0_stepWith wsX0_stepWith ({ frames := 0, cells := 0, slots := 0, locals := 0 } : Room) (va_Pc [.ref (h 0), .int t9] (pR D [(cA, .int)] (w0 h cA M))) (vp_Si (fun r : Int32 => (∃ i : Nat, i < m_sn M ∧ r = nI i ∧ x_fs (m_st M) t9 (m_sn M) 0 = some i ∧ m_st M i = t9) ∨ (r = -1 ∧ x_fs (m_st M) t9 (m_sn M) 0 = none))) 0 0 (fun _ => False) := by
  refine Met.ofW (cc := cX0_stepWith) (maxL := 3) (ret := (some .int)) (by decide) rfl ?_
  intro p e s m args below meth c s₁ B hml hv
  obtain ⟨rfl, hP, hK⟩ := hv
  have hx := B.exec
  have hb := B.bytes
  have hr := B.returns
  have hts := atoms_spec (ws := wsX0_stepWith) B.pre
  have hown : s.vm.findClass RX0 = some m.cls := findClass_of_methodNamed B.named
  have hlocks := B.notSynchronized
  have kw0 := hts (.fieldLink RX0 43 "ProgressBilling" "stepCount" "I") (by decide +kernel)
  have kw1 := hts (.fieldLink RX0 25 "ProgressBilling" "stepThreshold" "[I") (by decide +kernel)
  have hin0 : ∀ w ∈ u_ws RX0 TX0 15, w ∈ wsX0_stepWith := by decide +kernel
  obtain ⟨hn1, hn2, hn3, hn4⟩ := id hM
  have hl := lv_entry ([.ref (h 0), .int t9]) (n := 3) (Nat.le_of_ble_eq_true rfl)
  rw [lg_entry_eq]
  generalize (lg_sl ([.ref (h 0), .int t9]) ++ List.replicate (3 - (lg_sl ([.ref (h 0), .int t9])).length) Slot.unset).toArray = ls at hl ⊢
  have hl : lv_has ls 3 [(0, .ref (h 0)), (1, .int t9)] := hl
  refine w_abs (fun Q hQ => ?_)
  refine lv_iconst (v := 0) hx hb dX0_stepWith_0 (by decide) ?_
  refine lv_istore_n (lv' := [(2, .int 0), (0, .ref (h 0)), (1, .int t9)]) hx hb dX0_stepWith_1 rfl hl (by decide) rfl (fun ls hl => ?_)
  have loop : ∀ (fu : Nat) (k : Nat), k ≤ m_sn M → x_fs (m_st M) t9 (m_sn M) 0 = x_fs (m_st M) t9 (m_sn M - k) k → m_sn M - k < fu → ∀ (ls : Array Slot), lv_has ls 3 [(0, .ref (h 0)), (1, .int t9), (2, .int (nI k))] → W p l e (headSpec wsX0_stepWith ({ frames := 0, cells := 0, slots := 0, locals := 0 } : Room)).room s m ([.ref (h 0), .int t9] : List Value).toArray below meth c s.heap [] 0 0 Q (F0 m 2 ls []) := by
    intro fu
    induction fu with
    | zero => intro k hk eb hfu; exact absurd hfu (by omega)
    | succ fu ih =>
      intro k hk eb hfu ls hl
      refine lv_iload_n hx hb dX0_stepWith_2 rfl (lv_at hl 2 rfl) ?_
      refine lv_aload_n hx hb dX0_stepWith_3 rfl (lv_at hl 0 rfl) ?_
      refine va_get (D := D) (ci := 0) (v := .int (nI (m_sn M))) (C := RX0) (T := TX0) (N := 15) hx hb hts hin0 hown hK hP 0 rfl rfl 8 (by decide) kw0 (fun _ h9 => h9) rfl dX0_stepWith_4 ?_
      refine lv_icmp_ge (tgt := 28) hx hb dX0_stepWith_7 (by decide) (fun c1 => ?_) (fun c1 => ?_)
      · have c1 := k_le (a := (m_sn M)) (b := k) (by omega) (by omega) c1
        refine lv_iconst (v := -1) hx hb dX0_stepWith_28 (by decide) ?_
        subst hQ
        exact W.iret (v := (-1)) hx hb hr (fun t ht hW => ⟨_, rfl, (Or.inr ⟨rfl, by rw [eb, show m_sn M - k = 0 by omega]; rfl⟩), ht⟩) (fun q hq => by cases hq) dX0_stepWith_29
      · have c1 := k_nle (a := (m_sn M)) (b := k) (by omega) (by omega) c1
        refine lv_aload_n hx hb dX0_stepWith_10 rfl (lv_at hl 0 rfl) ?_
        refine va_get (D := D) (ci := 0) (v := .ref (h 6)) (C := RX0) (T := TX0) (N := 15) hx hb hts hin0 hown hK hP 0 rfl rfl 6 (by decide) kw1 (fun _ h9 => h9) rfl dX0_stepWith_11 ?_
        refine lv_iload_n hx hb dX0_stepWith_14 rfl (lv_at hl 2 rfl) ?_
        refine r_ald (f := m_st M) (j := k) hx hb hK hP 6 0 rfl rfl (by omega) (by omega) dX0_stepWith_15 ?_
        refine lv_iload_n hx hb dX0_stepWith_16 rfl (lv_at hl 1 rfl) ?_
        refine lv_icmp_ne (tgt := 22) hx hb dX0_stepWith_17 (by decide) (fun c2 => ?_) (fun c2 => ?_)
        · refine lv_iinc (v := nI (k + 1)) (lv' := [(2, .int (nI (k + 1))), (0, .ref (h 0)), (1, .int t9)]) hx hb dX0_stepWith_22 hl (k := 2) rfl (nI_1 _) (by decide) rfl (fun ls hl => ?_)
          refine lv_goto (tgt := 2) hx hb dX0_stepWith_25 (by decide) ?_
          exact ih (k + 1) (by omega) (by rw [eb]; exact x_fs_n (by omega) c2) (by omega) ls (lv_sub hl [1, 2, 0] rfl)
        · refine lv_iload_n hx hb dX0_stepWith_20 rfl (lv_at hl 2 rfl) ?_
          subst hQ
          exact W.iret (v := nI k) hx hb hr (fun t ht hW => ⟨_, rfl, (Or.inl ⟨k, by omega, rfl, by rw [eb]; exact x_fs_y (by omega) c2, c2⟩), ht⟩) (fun q hq => by cases hq) dX0_stepWith_21
  exact loop (m_sn M + 1) 0 (Nat.zero_le _) rfl (by omega) ls (lv_sub hl [1, 2, 0] rfl)
end
section
/-! THE REFERENCE: what only reads -/
set_option maxHeartbeats 4000000 in
set_option maxRecDepth 100000 in
theorem c1_in (l : Launch) (n9 lo hi : Int32) : Met l yX1_in wsX1_in ({ frames := 0, cells := 0, slots := 0, locals := 0 } : Room) (va_Pc [.int n9, .int lo, .int hi] (fun _ => True)) (vp_Si (fun r : Int32 => r = if inR n9 lo hi = true then 1 else 0)) 0 0 (fun _ => False) := by
  refine Met.ofW (cc := cX1_in) (maxL := 3) (ret := (some .boolean)) (by decide) rfl ?_
  intro p e s m args below meth c s₁ B hml hv
  obtain ⟨rfl, -⟩ := hv
  have hx := B.exec
  have hb := B.bytes
  have hr := B.returns
  have hts := atoms_spec (ws := wsX1_in) B.pre
  have hown : s.vm.findClass RX1 = some m.cls := findClass_of_methodNamed B.named
  have hlocks := B.notSynchronized
  have hl := lv_entry ([.int n9, .int lo, .int hi]) (n := 3) (Nat.le_of_ble_eq_true rfl)
  rw [lg_entry_eq]
  generalize (lg_sl ([.int n9, .int lo, .int hi]) ++ List.replicate (3 - (lg_sl ([.int n9, .int lo, .int hi])).length) Slot.unset).toArray = ls at hl ⊢
  have hl : lv_has ls 3 [(0, .int n9), (1, .int lo), (2, .int hi)] := hl
  refine w_abs (fun Q hQ => ?_)
  refine lv_iload_n hx hb dX1_in_0 rfl (lv_at hl 0 rfl) ?_
  refine lv_iload_n hx hb dX1_in_1 rfl (lv_at hl 1 rfl) ?_
  refine lv_icmp_lt (tgt := 14) hx hb dX1_in_2 (by decide) (fun c1 => ?_) (fun c1 => ?_)
  · refine lv_iconst (v := 0) hx hb dX1_in_14 (by decide) ?_
    subst hQ
    exact W.zret (v := 0) (ty := .boolean) hx hb hr rfl (fun t ht hW => ⟨_, rfl, (by rw [inR_lo c1]; rfl), ht⟩) (fun q hq => by cases hq) dX1_in_15
  · refine lv_iload_n hx hb dX1_in_5 rfl (lv_at hl 0 rfl) ?_
    refine lv_iload_n hx hb dX1_in_6 rfl (lv_at hl 2 rfl) ?_
    refine lv_icmp_gt (tgt := 14) hx hb dX1_in_7 (by decide) (fun c2 => ?_) (fun c2 => ?_)
    · refine lv_iconst (v := 0) hx hb dX1_in_14 (by decide) ?_
      subst hQ
      exact W.zret (v := 0) (ty := .boolean) hx hb hr rfl (fun t ht hW => ⟨_, rfl, (by rw [inR_hi c2]; rfl), ht⟩) (fun q hq => by cases hq) dX1_in_15
    · refine lv_iconst (v := 1) hx hb dX1_in_10 (by decide) ?_
      refine lv_goto (tgt := 15) hx hb dX1_in_11 (by decide) ?_
      subst hQ
      exact W.zret (v := 1) (ty := .boolean) hx hb hr rfl (fun t ht hW => ⟨_, rfl, (by rw [inR_ok c1 c2]; rfl), ht⟩) (fun q hq => by cases hq) dX1_in_15
set_option maxHeartbeats 4000000 in
set_option maxRecDepth 100000 in
theorem c1_isLine (l : Launch) (D : va_G) (h : Nat → Nat) (cA : ClassId) (rf : Int32) (M : MM) (hM : OK1 M) (x9 : Int32) : Met l yX1_isLine wsX1_isLine ({ frames := 1, cells := 0, slots := 0, locals := 22 } : Room) (va_Pc [.ref (h 0), .int x9] (pR D [(cA, .int)] (w1 h cA rf M))) (vp_Si (fun r : Int32 => r = if (ixL (m_ln M) x9).isSome = true then 1 else 0)) 0 0 (fun _ => False) := by
  refine Met.ofW (cc := cX1_isLine) (maxL := 2) (ret := (some .boolean)) (by decide) rfl ?_
  intro p e s m args below meth c s₁ B hml hv
  obtain ⟨rfl, hP, hK⟩ := hv
  have hx := B.exec
  have hb := B.bytes
  have hr := B.returns
  have hts := atoms_spec (ws := wsX1_isLine) B.pre
  have hown : s.vm.findClass RX1 = some m.cls := findClass_of_methodNamed B.named
  have hlocks := B.notSynchronized
  have kw0 := hts (.fieldLink RX1 44 "ProgressBillingModel" "lines" "I") (by decide +kernel)
  have hin0 : ∀ w ∈ u_ws RX1 TX1 14, w ∈ wsX1_isLine := by decide +kernel
  obtain ⟨hn1, hn4⟩ := id hM
  have hl := lv_entry ([.ref (h 0), .int x9]) (n := 2) (Nat.le_of_ble_eq_true rfl)
  rw [lg_entry_eq]
  generalize (lg_sl ([.ref (h 0), .int x9]) ++ List.replicate (2 - (lg_sl ([.ref (h 0), .int x9])).length) Slot.unset).toArray = ls at hl ⊢
  have hl : lv_has ls 2 [(0, .ref (h 0)), (1, .int x9)] := hl
  refine w_abs (fun Q hQ => ?_)
  refine lv_iload_n hx hb dX1_isLine_0 rfl (lv_at hl 1 rfl) ?_
  refine lv_iconst (v := 0) hx hb dX1_isLine_1 (by decide) ?_
  refine lv_aload_n hx hb dX1_isLine_2 rfl (lv_at hl 0 rfl) ?_
  refine va_get (D := D) (ci := 1) (v := .int (nI (m_ln M))) (C := RX1) (T := TX1) (N := 14) hx hb hts hin0 hown hK hP 0 rfl rfl 1 (by decide) kw0 (fun _ h9 => h9) rfl dX1_isLine_3 ?_
  refine lv_iconst (v := 1) hx hb dX1_isLine_6 (by decide) ?_
  refine lv_isub hx hb dX1_isLine_7 ?_
  refine vp_callSi (W.runS (As := [.int x9, .int 0, .int ((nI (m_ln M)) - 1)]) (rest := []) ⟨hx, hb, hml, hown, hts⟩ (c1_in l x9 0 ((nI (m_ln M)) - 1)) (va_cwS 3 hts gX1_isLine_X1_in rfl rfl rfl (by decide +kernel) ⟨Nat.le_of_ble_eq_true rfl, Nat.le_of_ble_eq_true rfl⟩) ⟨nil_fb, nil_mk⟩ rfl rfl hl.1 rfl (lv_room (Nat.le_of_ble_eq_true rfl)) dX1_isLine_8 ⟨Nat.le_of_ble_eq_true rfl, Nat.le_of_ble_eq_true rfl⟩) (fun r1 qr1 => ?_)
  have qr1 : r1 = if (ixL (m_ln M) x9).isSome = true then 1 else 0 := by rw [qr1, inR_ix (by omega)]
  subst qr1
  subst hQ
  exact W.zret (v := if (ixL (m_ln M) x9).isSome = true then 1 else 0) (ty := .boolean) hx hb hr (by cases (ixL (m_ln M) x9).isSome <;> rfl) (fun t ht hW => ⟨_, rfl, rfl, ht⟩) (fun q hq => by cases hq) dX1_isLine_11
set_option maxHeartbeats 4000000 in
set_option maxRecDepth 100000 in
theorem c1_isApplication (l : Launch) (D : va_G) (h : Nat → Nat) (cA : ClassId) (rf : Int32) (M : MM) (hM : OK1 M) (x9 : Int32) : Met l yX1_isApplication wsX1_isApplication ({ frames := 1, cells := 0, slots := 0, locals := 22 } : Room) (va_Pc [.ref (h 0), .int x9] (pR D [(cA, .int)] (w1 h cA rf M))) (vp_Si (fun r : Int32 => r = if (ixL (m_an M) x9).isSome = true then 1 else 0)) 0 0 (fun _ => False) := by
  refine Met.ofW (cc := cX1_isApplication) (maxL := 2) (ret := (some .boolean)) (by decide) rfl ?_
  intro p e s m args below meth c s₁ B hml hv
  obtain ⟨rfl, hP, hK⟩ := hv
  have hx := B.exec
  have hb := B.bytes
  have hr := B.returns
  have hts := atoms_spec (ws := wsX1_isApplication) B.pre
  have hown : s.vm.findClass RX1 = some m.cls := findClass_of_methodNamed B.named
  have hlocks := B.notSynchronized
  have kw0 := hts (.fieldLink RX1 100 "ProgressBillingModel" "applications" "I") (by decide +kernel)
  have hin0 : ∀ w ∈ u_ws RX1 TX1 14, w ∈ wsX1_isApplication := by decide +kernel
  obtain ⟨hn1, hn4⟩ := id hM
  have hl := lv_entry ([.ref (h 0), .int x9]) (n := 2) (Nat.le_of_ble_eq_true rfl)
  rw [lg_entry_eq]
  generalize (lg_sl ([.ref (h 0), .int x9]) ++ List.replicate (2 - (lg_sl ([.ref (h 0), .int x9])).length) Slot.unset).toArray = ls at hl ⊢
  have hl : lv_has ls 2 [(0, .ref (h 0)), (1, .int x9)] := hl
  refine w_abs (fun Q hQ => ?_)
  refine lv_iload_n hx hb dX1_isApplication_0 rfl (lv_at hl 1 rfl) ?_
  refine lv_iconst (v := 0) hx hb dX1_isApplication_1 (by decide) ?_
  refine lv_aload_n hx hb dX1_isApplication_2 rfl (lv_at hl 0 rfl) ?_
  refine va_get (D := D) (ci := 1) (v := .int (nI (m_an M))) (C := RX1) (T := TX1) (N := 14) hx hb hts hin0 hown hK hP 0 rfl rfl 9 (by decide) kw0 (fun _ h9 => h9) rfl dX1_isApplication_3 ?_
  refine lv_iconst (v := 1) hx hb dX1_isApplication_6 (by decide) ?_
  refine lv_isub hx hb dX1_isApplication_7 ?_
  refine vp_callSi (W.runS (As := [.int x9, .int 0, .int ((nI (m_an M)) - 1)]) (rest := []) ⟨hx, hb, hml, hown, hts⟩ (c1_in l x9 0 ((nI (m_an M)) - 1)) (va_cwS 3 hts gX1_isApplication_X1_in rfl rfl rfl (by decide +kernel) ⟨Nat.le_of_ble_eq_true rfl, Nat.le_of_ble_eq_true rfl⟩) ⟨nil_fb, nil_mk⟩ rfl rfl hl.1 rfl (lv_room (Nat.le_of_ble_eq_true rfl)) dX1_isApplication_8 ⟨Nat.le_of_ble_eq_true rfl, Nat.le_of_ble_eq_true rfl⟩) (fun r1 qr1 => ?_)
  have qr1 : r1 = if (ixL (m_an M) x9).isSome = true then 1 else 0 := by rw [qr1, inR_ix (by omega)]
  subst qr1
  subst hQ
  exact W.zret (v := if (ixL (m_an M) x9).isSome = true then 1 else 0) (ty := .boolean) hx hb hr (by cases (ixL (m_an M) x9).isSome <;> rfl) (fun t ht hW => ⟨_, rfl, rfl, ht⟩) (fun q hq => by cases hq) dX1_isApplication_11
set_option maxHeartbeats 4000000 in
set_option maxRecDepth 100000 in
theorem c1_thousandths (l : Launch) (a s9 : Int32) : Met l yX1_thousandths wsX1_thousandths ({ frames := 0, cells := 0, slots := 0, locals := 0 } : Room) (va_Pc [.int a, .int s9] (fun _ => True)) (vp_Si (fun r : Int32 => r = y_th a s9)) 0 0 (fun _ => False) := by
  refine Met.ofW (cc := cX1_thousandths) (maxL := 2) (ret := (some .int)) (by decide) rfl ?_
  intro p e s m args below meth c s₁ B hml hv
  obtain ⟨rfl, -⟩ := hv
  have hx := B.exec
  have hb := B.bytes
  have hr := B.returns
  have hts := atoms_spec (ws := wsX1_thousandths) B.pre
  have hown : s.vm.findClass RX1 = some m.cls := findClass_of_methodNamed B.named
  have hlocks := B.notSynchronized
  have kw0 := hts (.constantLong RX1 51 (500)) (by decide +kernel)
  have kw1 := hts (.constantLong RX1 53 (1000)) (by decide +kernel)
  have hl := lv_entry ([.int a, .int s9]) (n := 2) (Nat.le_of_ble_eq_true rfl)
  rw [lg_entry_eq]
  generalize (lg_sl ([.int a, .int s9]) ++ List.replicate (2 - (lg_sl ([.int a, .int s9])).length) Slot.unset).toArray = ls at hl ⊢
  have hl : lv_has ls 2 [(0, .int a), (1, .int s9)] := hl
  refine w_abs (fun Q hQ => ?_)
  refine lv_iload_n hx hb dX1_thousandths_0 rfl (lv_at hl 0 rfl) ?_
  refine lv_i2l (v := a.toInt64) hx hb dX1_thousandths_1 rfl ?_
  refine lv_iload_n hx hb dX1_thousandths_2 rfl (lv_at hl 1 rfl) ?_
  refine lv_i2l (v := s9.toInt64) hx hb dX1_thousandths_3 rfl ?_
  refine lv_lmul hx hb dX1_thousandths_4 ?_
  refine lv_ldc2 hx hb hown kw0 dX1_thousandths_5 ?_
  refine lv_ladd hx hb dX1_thousandths_8 ?_
  refine lv_ldc2 hx hb hown kw1 dX1_thousandths_9 ?_
  refine lv_ldiv hx hb dX1_thousandths_12 (by decide) ?_
  refine lv_l2i (v := (((a.toInt64 * s9.toInt64) + 500) / 1000).toInt32) hx hb dX1_thousandths_13 rfl ?_
  subst hQ
  exact W.iret (v := (((a.toInt64 * s9.toInt64) + 500) / 1000).toInt32) hx hb hr (fun t ht hW => ⟨_, rfl, rfl, ht⟩) (fun q hq => by cases hq) dX1_thousandths_14
set_option maxHeartbeats 4000000 in
set_option maxRecDepth 100000 in
theorem c1_share (l : Launch) (a p9 v9 : Int32) (hv : ¬ v9 = 0) : Met l yX1_share wsX1_share ({ frames := 0, cells := 0, slots := 0, locals := 0 } : Room) (va_Pc [.int a, .int p9, .int v9] (fun _ => True)) (vp_Si (fun r : Int32 => r = y_sh a p9 v9)) 0 0 (fun _ => False) := by
  refine Met.ofW (cc := cX1_share) (maxL := 3) (ret := (some .int)) (by decide) rfl ?_
  intro p e s m args below meth c s₁ B hml hv
  obtain ⟨rfl, -⟩ := hv
  have hx := B.exec
  have hb := B.bytes
  have hr := B.returns
  have hts := atoms_spec (ws := wsX1_share) B.pre
  have hown : s.vm.findClass RX1 = some m.cls := findClass_of_methodNamed B.named
  have hlocks := B.notSynchronized
  have hl := lv_entry ([.int a, .int p9, .int v9]) (n := 3) (Nat.le_of_ble_eq_true rfl)
  rw [lg_entry_eq]
  generalize (lg_sl ([.int a, .int p9, .int v9]) ++ List.replicate (3 - (lg_sl ([.int a, .int p9, .int v9])).length) Slot.unset).toArray = ls at hl ⊢
  have hl : lv_has ls 3 [(0, .int a), (1, .int p9), (2, .int v9)] := hl
  refine w_abs (fun Q hQ => ?_)
  refine lv_iload_n hx hb dX1_share_0 rfl (lv_at hl 0 rfl) ?_
  refine lv_i2l (v := a.toInt64) hx hb dX1_share_1 rfl ?_
  refine lv_iload_n hx hb dX1_share_2 rfl (lv_at hl 1 rfl) ?_
  refine lv_i2l (v := p9.toInt64) hx hb dX1_share_3 rfl ?_
  refine lv_lmul hx hb dX1_share_4 ?_
  refine lv_iload_n hx hb dX1_share_5 rfl (lv_at hl 2 rfl) ?_
  refine lv_i2l (v := v9.toInt64) hx hb dX1_share_6 rfl ?_
  refine lv_ldiv hx hb dX1_share_7 (k_ne0 hv) ?_
  refine lv_l2i (v := ((a.toInt64 * p9.toInt64) / v9.toInt64).toInt32) hx hb dX1_share_8 rfl ?_
  subst hQ
  exact W.iret (v := ((a.toInt64 * p9.toInt64) / v9.toInt64).toInt32) hx hb hr (fun t ht hW => ⟨_, rfl, rfl, ht⟩) (fun q hq => by cases hq) dX1_share_9
set_option maxHeartbeats 4000000 in
set_option maxRecDepth 100000 in
theorem c1_thrown (l : Launch) (D : va_G) (h : Nat → Nat) (cA : ClassId) (rf : Int32) (M : MM) (hM : OK1 M) : Met l yX1_thrown wsX1_thrown ({ frames := 0, cells := 0, slots := 0, locals := 0 } : Room) (va_Pc [.ref (h 0)] (pR D [(cA, .int)] (w1 h cA rf M))) (vp_Si (fun r : Int32 => r = rf)) 0 0 (fun _ => False) := by
  refine Met.ofW (cc := cX1_thrown) (maxL := 1) (ret := (some .int)) (by decide) rfl ?_
  intro p e s m args below meth c s₁ B hml hv
  obtain ⟨rfl, hP, hK⟩ := hv
  have hx := B.exec
  have hb := B.bytes
  have hr := B.returns
  have hts := atoms_spec (ws := wsX1_thrown) B.pre
  have hown : s.vm.findClass RX1 = some m.cls := findClass_of_methodNamed B.named
  have hlocks := B.notSynchronized
  have kw0 := hts (.fieldLink RX1 40 "ProgressBillingModel" "refusal" "I") (by decide +kernel)
  have hin0 : ∀ w ∈ u_ws RX1 TX1 14, w ∈ wsX1_thrown := by decide +kernel
  obtain ⟨hn1, hn4⟩ := id hM
  have hl := lv_entry ([.ref (h 0)]) (n := 1) (Nat.le_of_ble_eq_true rfl)
  rw [lg_entry_eq]
  generalize (lg_sl ([.ref (h 0)]) ++ List.replicate (1 - (lg_sl ([.ref (h 0)])).length) Slot.unset).toArray = ls at hl ⊢
  have hl : lv_has ls 1 [(0, .ref (h 0))] := hl
  refine w_abs (fun Q hQ => ?_)
  refine lv_aload_n hx hb dX1_thrown_0 rfl (lv_at hl 0 rfl) ?_
  refine va_get (D := D) (ci := 1) (v := .int rf) (C := RX1) (T := TX1) (N := 14) hx hb hts hin0 hown hK hP 0 rfl rfl 0 (by decide) kw0 (fun _ h9 => h9) rfl dX1_thrown_1 ?_
  subst hQ
  exact W.iret (v := rf) hx hb hr (fun t ht hW => ⟨_, rfl, rfl, ht⟩) (fun q hq => by cases hq) dX1_thrown_4
set_option maxHeartbeats 4000000 in
set_option maxRecDepth 100000 in
theorem c1_sum (l : Launch) (D : va_G) (h : Nat → Nat) (cA : ClassId) (rf : Int32) (M : MM) (hM : OK1 M) (c9 : Nat) (f : FF) (hc9 : (w1 h cA rf M)[c9]? = some (h c9, .inl (cA, 16, .inl f))) : Met l yX1_sum wsX1_sum ({ frames := 0, cells := 0, slots := 0, locals := 0 } : Room) (va_Pc [.ref (h 0), .ref (h c9)] (pR D [(cA, .int)] (w1 h cA rf M))) (vp_Si (fun r : Int32 => r = psum f (m_ln M))) 0 0 (fun _ => False) := by
  refine Met.ofW (cc := cX1_sum) (maxL := 4) (ret := (some .int)) (by decide) rfl ?_
  intro p e s m args below meth c s₁ B hml hv
  obtain ⟨rfl, hP, hK⟩ := hv
  have hx := B.exec
  have hb := B.bytes
  have hr := B.returns
  have hts := atoms_spec (ws := wsX1_sum) B.pre
  have hown : s.vm.findClass RX1 = some m.cls := findClass_of_methodNamed B.named
  have hlocks := B.notSynchronized
  have kw0 := hts (.fieldLink RX1 44 "ProgressBillingModel" "lines" "I") (by decide +kernel)
  have hin0 : ∀ w ∈ u_ws RX1 TX1 14, w ∈ wsX1_sum := by decide +kernel
  obtain ⟨hn1, hn4⟩ := id hM
  have hl := lv_entry ([.ref (h 0), .ref (h c9)]) (n := 4) (Nat.le_of_ble_eq_true rfl)
  rw [lg_entry_eq]
  generalize (lg_sl ([.ref (h 0), .ref (h c9)]) ++ List.replicate (4 - (lg_sl ([.ref (h 0), .ref (h c9)])).length) Slot.unset).toArray = ls at hl ⊢
  have hl : lv_has ls 4 [(0, .ref (h 0)), (1, .ref (h c9))] := hl
  refine w_abs (fun Q hQ => ?_)
  refine lv_iconst (v := 0) hx hb dX1_sum_0 (by decide) ?_
  refine lv_istore_n (lv' := [(2, .int 0), (0, .ref (h 0)), (1, .ref (h c9))]) hx hb dX1_sum_1 rfl hl (by decide) rfl (fun ls hl => ?_)
  refine lv_iconst (v := 0) hx hb dX1_sum_2 (by decide) ?_
  refine lv_istore_n (lv' := [(3, .int 0), (2, .int 0), (0, .ref (h 0)), (1, .ref (h c9))]) hx hb dX1_sum_3 rfl hl (by decide) rfl (fun ls hl => ?_)
  have loop : ∀ (fu : Nat) (k : Nat) (x2 : Int32), k ≤ m_ln M → x2 = psum f k → m_ln M - k < fu → ∀ (ls : Array Slot), lv_has ls 4 [(0, .ref (h 0)), (1, .ref (h c9)), (2, .int x2), (3, .int (nI k))] → W p l e (headSpec wsX1_sum ({ frames := 0, cells := 0, slots := 0, locals := 0 } : Room)).room s m ([.ref (h 0), .ref (h c9)] : List Value).toArray below meth c s.heap [] 0 0 Q (F0 m 4 ls []) := by
    intro fu
    induction fu with
    | zero => intro k x2 hk e2 hfu; exact absurd hfu (by omega)
    | succ fu ih =>
      intro k x2 hk e2 hfu ls hl
      refine lv_iload_n hx hb dX1_sum_4 rfl (lv_at hl 3 rfl) ?_
      refine lv_aload_n hx hb dX1_sum_5 rfl (lv_at hl 0 rfl) ?_
      refine va_get (D := D) (ci := 1) (v := .int (nI (m_ln M))) (C := RX1) (T := TX1) (N := 14) hx hb hts hin0 hown hK hP 0 rfl rfl 1 (by decide) kw0 (fun _ h9 => h9) rfl dX1_sum_6 ?_
      refine lv_icmp_ge (tgt := 24) hx hb dX1_sum_9 (by decide) (fun c1 => ?_) (fun c1 => ?_)
      · have c1 := k_le (a := (m_ln M)) (b := k) (by omega) (by omega) c1
        refine lv_iload_n hx hb dX1_sum_24 rfl (lv_at hl 2 rfl) ?_
        subst hQ
        exact W.iret (v := x2) hx hb hr (fun t ht hW => ⟨_, rfl, (by rw [e2, show k = m_ln M by omega]), ht⟩) (fun q hq => by cases hq) dX1_sum_25
      · have c1 := k_nle (a := (m_ln M)) (b := k) (by omega) (by omega) c1
        refine lv_iload_n hx hb dX1_sum_12 rfl (lv_at hl 2 rfl) ?_
        refine lv_aload_n hx hb dX1_sum_13 rfl (lv_at hl 1 rfl) ?_
        refine lv_iload_n hx hb dX1_sum_14 rfl (lv_at hl 3 rfl) ?_
        refine r_ald (f := f) (j := k) hx hb hK hP c9 0 hc9 rfl (by omega) (by omega) dX1_sum_15 ?_
        refine lv_iadd hx hb dX1_sum_16 ?_
        refine lv_istore_n (lv' := [(2, .int (x2 + (f k))), (0, .ref (h 0)), (1, .ref (h c9)), (3, .int (nI k))]) hx hb dX1_sum_17 rfl hl (by decide) rfl (fun ls hl => ?_)
        refine lv_iinc (v := nI (k + 1)) (lv' := [(3, .int (nI (k + 1))), (2, .int (x2 + (f k))), (0, .ref (h 0)), (1, .ref (h c9))]) hx hb dX1_sum_18 hl (k := 3) rfl (nI_1 _) (by decide) rfl (fun ls hl => ?_)
        refine lv_goto (tgt := 4) hx hb dX1_sum_21 (by decide) ?_
        exact ih (k + 1) (x2 + f k) (by omega) (by rw [e2]; rfl) (by omega) ls (lv_sub hl [2, 3, 1, 0] rfl)
  exact loop (m_ln M + 1) 0 0 (Nat.zero_le _) rfl (by omega) ls (lv_sub hl [2, 3, 1, 0] rfl)
set_option maxHeartbeats 4000000 in
set_option maxRecDepth 100000 in
theorem c1_countSteps (l : Launch) (D : va_G) (h : Nat → Nat) (cA : ClassId) (rf : Int32) (M : MM) (hM : OK1 M) : Met l yX1_countSteps wsX1_countSteps ({ frames := 0, cells := 0, slots := 0, locals := 0 } : Room) (va_Pc [.ref (h 0)] (pR D [(cA, .int)] (w1 h cA rf M))) (vp_Si (fun r : Int32 => r = nI (cntS (m_rt M) 1001))) 0 0 (fun _ => False) := by
  refine Met.ofW (cc := cX1_countSteps) (maxL := 3) (ret := (some .int)) (by decide) rfl ?_
  intro p e s m args below meth c s₁ B hml hv
  obtain ⟨rfl, hP, hK⟩ := hv
  have hx := B.exec
  have hb := B.bytes
  have hr := B.returns
  have hts := atoms_spec (ws := wsX1_countSteps) B.pre
  have hown : s.vm.findClass RX1 = some m.cls := findClass_of_methodNamed B.named
  have hlocks := B.notSynchronized
  have kw0 := hts (.fieldLink RX1 25 "ProgressBillingModel" "rates" "[I") (by decide +kernel)
  have hin0 : ∀ w ∈ u_ws RX1 TX1 14, w ∈ wsX1_countSteps := by decide +kernel
  obtain ⟨hn1, hn4⟩ := id hM
  have hl := lv_entry ([.ref (h 0)]) (n := 3) (Nat.le_of_ble_eq_true rfl)
  rw [lg_entry_eq]
  generalize (lg_sl ([.ref (h 0)]) ++ List.replicate (3 - (lg_sl ([.ref (h 0)])).length) Slot.unset).toArray = ls at hl ⊢
  have hl : lv_has ls 3 [(0, .ref (h 0))] := hl
  refine w_abs (fun Q hQ => ?_)
  refine lv_iconst (v := 0) hx hb dX1_countSteps_0 (by decide) ?_
  refine lv_istore_n (lv' := [(1, .int 0), (0, .ref (h 0))]) hx hb dX1_countSteps_1 rfl hl (by decide) rfl (fun ls hl => ?_)
  refine lv_iconst (v := 0) hx hb dX1_countSteps_2 (by decide) ?_
  refine lv_istore_n (lv' := [(2, .int 0), (1, .int 0), (0, .ref (h 0))]) hx hb dX1_countSteps_3 rfl hl (by decide) rfl (fun ls hl => ?_)
  have loop : ∀ (fu : Nat) (k : Nat) (b : Nat), k ≤ 1001 → b ≤ k → b = cntS (m_rt M) k → 1001 - k < fu → ∀ (ls : Array Slot), lv_has ls 3 [(0, .ref (h 0)), (1, .int (nI b)), (2, .int (nI k))] → W p l e (headSpec wsX1_countSteps ({ frames := 0, cells := 0, slots := 0, locals := 0 } : Room)).room s m ([.ref (h 0)] : List Value).toArray below meth c s.heap [] 0 0 Q (F0 m 4 ls []) := by
    intro fu
    induction fu with
    | zero => intro k b hk hb2 eb hfu; exact absurd hfu (by omega)
    | succ fu ih =>
      intro k b hk hb2 eb hfu ls hl
      refine lv_iload_n hx hb dX1_countSteps_4 rfl (lv_at hl 2 rfl) ?_
      refine lv_sipush (v := 1000) hx hb dX1_countSteps_5 (by decide) ?_
      refine lv_icmp_gt (tgt := 35) hx hb dX1_countSteps_8 (by decide) (fun c1 => ?_) (fun c1 => ?_)
      · have c1 := k_lt (a := 1000) (b := k) (by omega) (by omega) c1
        refine lv_iload_n hx hb dX1_countSteps_35 rfl (lv_at hl 1 rfl) ?_
        subst hQ
        exact W.iret (v := nI b) hx hb hr (fun t ht hW => ⟨_, rfl, (by rw [eb, show k = 1001 by omega]), ht⟩) (fun q hq => by cases hq) dX1_countSteps_36
      · have c1 := k_nlt (a := 1000) (b := k) (by omega) (by omega) c1
        refine lv_iload_n hx hb dX1_countSteps_11 rfl (lv_at hl 1 rfl) ?_
        refine lv_aload_n hx hb dX1_countSteps_12 rfl (lv_at hl 0 rfl) ?_
        refine va_get (D := D) (ci := 1) (v := .ref (h 6)) (C := RX1) (T := TX1) (N := 14) hx hb hts hin0 hown hK hP 0 rfl rfl 7 (by decide) kw0 (fun _ h9 => h9) rfl dX1_countSteps_13 ?_
        refine lv_iload_n hx hb dX1_countSteps_16 rfl (lv_at hl 2 rfl) ?_
        refine r_ald (f := m_rt M) (j := k) hx hb hK hP 6 0 rfl rfl (by omega) (by omega) dX1_countSteps_17 ?_
        refine lv_iconst (v := -1) hx hb dX1_countSteps_18 (by decide) ?_
        refine lv_icmp_ne (tgt := 26) hx hb dX1_countSteps_19 (by decide) (fun c2 => ?_) (fun c2 => ?_)
        · refine lv_iconst (v := 1) hx hb dX1_countSteps_26 (by decide) ?_
          refine lv_iadd hx hb dX1_countSteps_27 ?_
          refine lv_topi (fun y3 ey3 => ?_)
          obtain rfl : y3 = nI (b + 1) := ey3.trans (nI_1 _)
          refine lv_istore_n (lv' := [(1, .int (nI (b + 1))), (0, .ref (h 0)), (2, .int (nI k))]) hx hb dX1_countSteps_28 rfl hl (by decide) rfl (fun ls hl => ?_)
          refine lv_iinc (v := nI (k + 1)) (lv' := [(2, .int (nI (k + 1))), (1, .int (nI (b + 1))), (0, .ref (h 0))]) hx hb dX1_countSteps_29 hl (k := 2) rfl (nI_1 _) (by decide) rfl (fun ls hl => ?_)
          refine lv_goto (tgt := 4) hx hb dX1_countSteps_32 (by decide) ?_
          exact ih (k + 1) ((b + 1)) (by omega) (by omega) (by unfold cntS; rw [← eb, if_neg c2]) (by omega) ls (lv_sub hl [2, 1, 0] rfl)
        · refine lv_iconst (v := 0) hx hb dX1_countSteps_22 (by decide) ?_
          refine lv_goto (tgt := 27) hx hb dX1_countSteps_23 (by decide) ?_
          refine lv_iadd hx hb dX1_countSteps_27 ?_
          refine lv_topi (fun y4 ey4 => ?_)
          obtain rfl : nI b = y4 := (ey4.trans (Int32.add_zero _)).symm
          refine lv_istore_n (lv' := [(1, .int (nI b)), (0, .ref (h 0)), (2, .int (nI k))]) hx hb dX1_countSteps_28 rfl hl (by decide) rfl (fun ls hl => ?_)
          refine lv_iinc (v := nI (k + 1)) (lv' := [(2, .int (nI (k + 1))), (1, .int (nI b)), (0, .ref (h 0))]) hx hb dX1_countSteps_29 hl (k := 2) rfl (nI_1 _) (by decide) rfl (fun ls hl => ?_)
          refine lv_goto (tgt := 4) hx hb dX1_countSteps_32 (by decide) ?_
          exact ih (k + 1) (b) (by omega) (by omega) (by unfold cntS; rw [← eb, if_pos c2]) (by omega) ls (lv_sub hl [2, 1, 0] rfl)
  exact loop (1002) 0 0 (Nat.zero_le _) (Nat.zero_le _) rfl (by omega) ls (lv_sub hl [2, 1, 0] rfl)
set_option maxHeartbeats 4000000 in
set_option maxRecDepth 100000 in
theorem c1_reached (l : Launch) (D : va_G) (h : Nat → Nat) (cA : ClassId) (rf : Int32) (M : MM) (hM : OK1 M) : Met l yX1_reached wsX1_reached ({ frames := 1, cells := 0, slots := 0, locals := 23 } : Room) (va_Pc [.ref (h 0)] (pR D [(cA, .int)] (w1 h cA rf M))) (vp_Si (fun r : Int32 => r = y_reached M)) 0 0 (fun _ => False) := by
  refine Met.ofW (cc := cX1_reached) (maxL := 1) (ret := (some .int)) (by decide) rfl ?_
  intro p e s m args below meth c s₁ B hml hv
  obtain ⟨rfl, hP, hK⟩ := hv
  have hx := B.exec
  have hb := B.bytes
  have hr := B.returns
  have hts := atoms_spec (ws := wsX1_reached) B.pre
  have hown : s.vm.findClass RX1 = some m.cls := findClass_of_methodNamed B.named
  have hlocks := B.notSynchronized
  have kw0 := hts (.fieldLink RX1 7 "ProgressBillingModel" "values" "[I") (by decide +kernel)
  have kw1 := hts (.fieldLink RX1 16 "ProgressBillingModel" "works" "[I") (by decide +kernel)
  have kw2 := hts (.constantLong RX1 53 (1000)) (by decide +kernel)
  have hin0 : ∀ w ∈ u_ws RX1 TX1 14, w ∈ wsX1_reached := by decide +kernel
  obtain ⟨hn1, hn4⟩ := id hM
  have hl := lv_entry ([.ref (h 0)]) (n := 1) (Nat.le_of_ble_eq_true rfl)
  rw [lg_entry_eq]
  generalize (lg_sl ([.ref (h 0)]) ++ List.replicate (1 - (lg_sl ([.ref (h 0)])).length) Slot.unset).toArray = ls at hl ⊢
  have hl : lv_has ls 1 [(0, .ref (h 0))] := hl
  refine w_abs (fun Q hQ => ?_)
  refine lv_aload_n hx hb dX1_reached_0 rfl (lv_at hl 0 rfl) ?_
  refine lv_aload_n hx hb dX1_reached_1 rfl (lv_at hl 0 rfl) ?_
  refine va_get (D := D) (ci := 1) (v := .ref (h 1)) (C := RX1) (T := TX1) (N := 14) hx hb hts hin0 hown hK hP 0 rfl rfl 2 (by decide) kw0 (fun _ h9 => h9) rfl dX1_reached_2 ?_
  refine vp_callSi (W.runV (As := [.ref (h 1)]) (rest := []) ⟨hx, hb, hml, hown, hts⟩ (c1_sum l D h cA rf M hM 1 (m_lv M) rfl) (cwV 1 hts gX1_reached_X1_sum rfl rfl rfl (by decide +kernel) ⟨Nat.le_of_ble_eq_true rfl, Nat.le_of_ble_eq_true rfl⟩) ⟨pR_fb, va_recv hK hP (ci := 1) (q0 := 0) rfl rfl, pR_mk hP hK⟩ rfl rfl hl.1 rfl (lv_room (Nat.le_of_ble_eq_true rfl)) dX1_reached_5 ⟨Nat.le_of_ble_eq_true rfl, Nat.le_of_ble_eq_true rfl⟩) (fun r1 qr1 => ?_)
  have qr1 : r1 = psum (m_lv M) (m_ln M) := qr1
  subst qr1
  refine lv_if_ne (tgt := 15) hx hb dX1_reached_8 (by decide) (fun c2 => ?_) (fun c2 => ?_)
  · refine lv_aload_n hx hb dX1_reached_15 rfl (lv_at hl 0 rfl) ?_
    refine lv_aload_n hx hb dX1_reached_16 rfl (lv_at hl 0 rfl) ?_
    refine va_get (D := D) (ci := 1) (v := .ref (h 3)) (C := RX1) (T := TX1) (N := 14) hx hb hts hin0 hown hK hP 0 rfl rfl 4 (by decide) kw1 (fun _ h9 => h9) rfl dX1_reached_17 ?_
    refine vp_callSi (W.runV (As := [.ref (h 3)]) (rest := []) ⟨hx, hb, hml, hown, hts⟩ (c1_sum l D h cA rf M hM 3 (m_lw M) rfl) (cwV 1 hts gX1_reached_X1_sum rfl rfl rfl (by decide +kernel) ⟨Nat.le_of_ble_eq_true rfl, Nat.le_of_ble_eq_true rfl⟩) ⟨pR_fb, va_recv hK hP (ci := 1) (q0 := 0) rfl rfl, pR_mk hP hK⟩ rfl rfl hl.1 rfl (lv_room (Nat.le_of_ble_eq_true rfl)) dX1_reached_20 ⟨Nat.le_of_ble_eq_true rfl, Nat.le_of_ble_eq_true rfl⟩) (fun r3 qr3 => ?_)
    have qr3 : r3 = psum (m_lw M) (m_ln M) := qr3
    subst qr3
    refine lv_i2l (v := (psum (m_lw M) (m_ln M)).toInt64) hx hb dX1_reached_23 rfl ?_
    refine lv_ldc2 hx hb hown kw2 dX1_reached_24 ?_
    refine lv_lmul hx hb dX1_reached_27 ?_
    refine lv_aload_n hx hb dX1_reached_28 rfl (lv_at hl 0 rfl) ?_
    refine lv_aload_n hx hb dX1_reached_29 rfl (lv_at hl 0 rfl) ?_
    refine va_get (D := D) (ci := 1) (v := .ref (h 1)) (C := RX1) (T := TX1) (N := 14) hx hb hts hin0 hown hK hP 0 rfl rfl 2 (by decide) kw0 (fun _ h9 => h9) rfl dX1_reached_30 ?_
    refine vp_callSi (W.runV (As := [.ref (h 1)]) (rest := [.long (((psum (m_lw M) (m_ln M)).toInt64) * 1000)]) ⟨hx, hb, hml, hown, hts⟩ (c1_sum l D h cA rf M hM 1 (m_lv M) rfl) (cwV 1 hts gX1_reached_X1_sum rfl rfl rfl (by decide +kernel) ⟨Nat.le_of_ble_eq_true rfl, Nat.le_of_ble_eq_true rfl⟩) ⟨pR_fb, va_recv hK hP (ci := 1) (q0 := 0) rfl rfl, pR_mk hP hK⟩ rfl rfl hl.1 rfl (lv_room (Nat.le_of_ble_eq_true rfl)) dX1_reached_33 ⟨Nat.le_of_ble_eq_true rfl, Nat.le_of_ble_eq_true rfl⟩) (fun r4 qr4 => ?_)
    have qr4 : r4 = psum (m_lv M) (m_ln M) := qr4
    subst qr4
    refine lv_i2l (v := (psum (m_lv M) (m_ln M)).toInt64) hx hb dX1_reached_36 rfl ?_
    refine lv_ldiv hx hb dX1_reached_37 (k_ne0 c2) ?_
    refine lv_l2i (v := ((((psum (m_lw M) (m_ln M)).toInt64) * 1000) / ((psum (m_lv M) (m_ln M)).toInt64)).toInt32) hx hb dX1_reached_38 rfl ?_
    subst hQ
    exact W.iret (v := ((((psum (m_lw M) (m_ln M)).toInt64) * 1000) / ((psum (m_lv M) (m_ln M)).toInt64)).toInt32) hx hb hr (fun t ht hW => ⟨_, rfl, (by unfold y_reached; rw [if_neg c2]), ht⟩) (fun q hq => by cases hq) dX1_reached_39
  · refine lv_iconst (v := 0) hx hb dX1_reached_11 (by decide) ?_
    refine lv_goto (tgt := 39) hx hb dX1_reached_12 (by decide) ?_
    subst hQ
    exact W.iret (v := 0) hx hb hr (fun t ht hW => ⟨_, rfl, (by unfold y_reached; rw [if_pos c2]), ht⟩) (fun q hq => by cases hq) dX1_reached_39
set_option maxHeartbeats 4000000 in
set_option maxRecDepth 100000 in
theorem c1_rateNow (l : Launch) (D : va_G) (h : Nat → Nat) (cA : ClassId) (rf : Int32) (M : MM) (hM : RTM M) : Met l yX1_rateNow wsX1_rateNow ({ frames := 2, cells := 0, slots := 0, locals := 43 } : Room) (va_Pc [.ref (h 0)] (pR D [(cA, .int)] (w1 h cA rf M))) (vp_Si (fun r : Int32 => r = y_rate M)) 0 0 (fun _ => False) := by
  refine Met.ofW (cc := cX1_rateNow) (maxL := 2) (ret := (some .int)) (by decide) rfl ?_
  intro p e s m args below meth c s₁ B hml hv
  obtain ⟨rfl, hP, hK⟩ := hv
  have hx := B.exec
  have hb := B.bytes
  have hr := B.returns
  have hts := atoms_spec (ws := wsX1_rateNow) B.pre
  have hown : s.vm.findClass RX1 = some m.cls := findClass_of_methodNamed B.named
  have hlocks := B.notSynchronized
  have kw0 := hts (.fieldLink RX1 25 "ProgressBillingModel" "rates" "[I") (by decide +kernel)
  have hin0 : ∀ w ∈ u_ws RX1 TX1 14, w ∈ wsX1_rateNow := by decide +kernel
  obtain ⟨hn1, hn4, ⟨k0, hk0, ek0⟩, hr0⟩ := id hM
  have hl := lv_entry ([.ref (h 0)]) (n := 2) (Nat.le_of_ble_eq_true rfl)
  rw [lg_entry_eq]
  generalize (lg_sl ([.ref (h 0)]) ++ List.replicate (2 - (lg_sl ([.ref (h 0)])).length) Slot.unset).toArray = ls at hl ⊢
  have hl : lv_has ls 2 [(0, .ref (h 0))] := hl
  refine w_abs (fun Q hQ => ?_)
  refine lv_aload_n hx hb dX1_rateNow_0 rfl (lv_at hl 0 rfl) ?_
  refine vp_callSi (W.runV (As := []) (rest := []) ⟨hx, hb, hml, hown, hts⟩ (c1_reached l D h cA rf M ⟨hn1, hn4⟩) (cwV 0 hts gX1_rateNow_X1_reached rfl rfl rfl (by decide +kernel) ⟨Nat.le_of_ble_eq_true rfl, Nat.le_of_ble_eq_true rfl⟩) ⟨pR_fb, va_recv hK hP (ci := 1) (q0 := 0) rfl rfl, pR_mk hP hK⟩ rfl rfl hl.1 rfl (lv_room (Nat.le_of_ble_eq_true rfl)) dX1_rateNow_1 ⟨Nat.le_of_ble_eq_true rfl, Nat.le_of_ble_eq_true rfl⟩) (fun r1 qr1 => ?_)
  have qr1 : r1 = nI k0 := qr1.trans ek0
  subst qr1
  refine lv_istore_n (lv' := [(1, .int (nI k0)), (0, .ref (h 0))]) hx hb dX1_rateNow_4 rfl hl (by decide) rfl (fun ls hl => ?_)
  have loop : ∀ (fu : Nat) (k : Nat), k ≤ 1000 → y_scan (m_rt M) k0 = y_scan (m_rt M) k → k < fu → ∀ (ls : Array Slot), lv_has ls 2 [(0, .ref (h 0)), (1, .int (nI k))] → W p l e (headSpec wsX1_rateNow ({ frames := 2, cells := 0, slots := 0, locals := 43 } : Room)).room s m ([.ref (h 0)] : List Value).toArray below meth c s.heap [] 0 0 Q (F0 m 5 ls []) := by
    intro fu
    induction fu with
    | zero => intro k hk eb hfu; exact absurd hfu (by omega)
    | succ fu ih =>
      intro k hk eb hfu ls hl
      refine lv_aload_n hx hb dX1_rateNow_5 rfl (lv_at hl 0 rfl) ?_
      refine va_get (D := D) (ci := 1) (v := .ref (h 6)) (C := RX1) (T := TX1) (N := 14) hx hb hts hin0 hown hK hP 0 rfl rfl 7 (by decide) kw0 (fun _ h9 => h9) rfl dX1_rateNow_6 ?_
      refine lv_iload_n hx hb dX1_rateNow_9 rfl (lv_at hl 1 rfl) ?_
      refine r_ald (f := m_rt M) (j := k) hx hb hK hP 6 0 rfl rfl (by omega) (by omega) dX1_rateNow_10 ?_
      refine lv_iconst (v := -1) hx hb dX1_rateNow_11 (by decide) ?_
      refine lv_icmp_ne (tgt := 21) hx hb dX1_rateNow_12 (by decide) (fun c2 => ?_) (fun c2 => ?_)
      · refine lv_aload_n hx hb dX1_rateNow_21 rfl (lv_at hl 0 rfl) ?_
        refine va_get (D := D) (ci := 1) (v := .ref (h 6)) (C := RX1) (T := TX1) (N := 14) hx hb hts hin0 hown hK hP 0 rfl rfl 7 (by decide) kw0 (fun _ h9 => h9) rfl dX1_rateNow_22 ?_
        refine lv_iload_n hx hb dX1_rateNow_25 rfl (lv_at hl 1 rfl) ?_
        refine r_ald (f := m_rt M) (j := k) hx hb hK hP 6 0 rfl rfl (by omega) (by omega) dX1_rateNow_26 ?_
        subst hQ
        exact W.iret (v := (m_rt M) k) hx hb hr (fun t ht hW => ⟨_, rfl, (by unfold y_rate; rw [ek0, nI_clamp (by omega), eb, y_scan_y c2]), ht⟩) (fun q hq => by cases hq) dX1_rateNow_27
      · have hk1 : 1 ≤ k := by rcases Nat.eq_zero_or_pos k with z | z; exact absurd (by rw [z] at c2; exact c2) hr0; exact z
        refine lv_iinc (v := nI (k - 1)) (lv' := [(1, .int (nI (k - 1))), (0, .ref (h 0))]) hx hb dX1_rateNow_15 hl (k := 1) rfl (k_dec (by omega)) (by decide) rfl (fun ls hl => ?_)
        refine lv_goto (tgt := 5) hx hb dX1_rateNow_18 (by decide) ?_
        exact ih (k - 1) (by omega) (by rw [eb]; exact y_scan_n (by omega) c2) (by omega) ls (lv_sub hl [1, 0] rfl)
  exact loop (k0 + 1) k0 hk0 rfl (by omega) ls (lv_sub hl [1, 0] rfl)
set_option maxHeartbeats 4000000 in
set_option maxRecDepth 100000 in
theorem c1_holdsThen (l : Launch) (D : va_G) (h : Nat → Nat) (cA : ClassId) (rf : Int32) (M : MM) (hM : RTM M) (j : Nat) (hj : j < m_ln M) : Met l yX1_holdsThen wsX1_holdsThen ({ frames := 3, cells := 0, slots := 0, locals := 64 } : Room) (va_Pc [.ref (h 0), .int (nI j)] (pR D [(cA, .int)] (w1 h cA rf M))) (vp_Si (fun r : Int32 => r = y_hTh M j)) 0 0 (fun _ => False) := by
  refine Met.ofW (cc := cX1_holdsThen) (maxL := 3) (ret := (some .int)) (by decide) rfl ?_
  intro p e s m args below meth c s₁ B hml hv
  obtain ⟨rfl, hP, hK⟩ := hv
  have hx := B.exec
  have hb := B.bytes
  have hr := B.returns
  have hts := atoms_spec (ws := wsX1_holdsThen) B.pre
  have hown : s.vm.findClass RX1 = some m.cls := findClass_of_methodNamed B.named
  have hlocks := B.notSynchronized
  have kw0 := hts (.fieldLink RX1 79 "ProgressBillingModel" "isByIncrease" "Z") (by decide +kernel)
  have kw1 := hts (.fieldLink RX1 13 "ProgressBillingModel" "earned" "[I") (by decide +kernel)
  have kw2 := hts (.fieldLink RX1 22 "ProgressBillingModel" "held" "[I") (by decide +kernel)
  have kw3 := hts (.fieldLink RX1 19 "ProgressBillingModel" "billed" "[I") (by decide +kernel)
  have hin0 : ∀ w ∈ u_ws RX1 TX1 14, w ∈ wsX1_holdsThen := by decide +kernel
  obtain ⟨hn1, hn4, ⟨k0, hk0, ek0⟩, hr0⟩ := id hM
  have hl := lv_entry ([.ref (h 0), .int (nI j)]) (n := 3) (Nat.le_of_ble_eq_true rfl)
  rw [lg_entry_eq]
  generalize (lg_sl ([.ref (h 0), .int (nI j)]) ++ List.replicate (3 - (lg_sl ([.ref (h 0), .int (nI j)])).length) Slot.unset).toArray = ls at hl ⊢
  have hl : lv_has ls 3 [(0, .ref (h 0)), (1, .int (nI j))] := hl
  refine w_abs (fun Q hQ => ?_)
  refine lv_aload_n hx hb dX1_holdsThen_0 rfl (lv_at hl 0 rfl) ?_
  refine vp_callSi (W.runV (As := []) (rest := []) ⟨hx, hb, hml, hown, hts⟩ (c1_rateNow l D h cA rf M hM) (cwV 0 hts gX1_holdsThen_X1_rateNow rfl rfl rfl (by decide +kernel) ⟨Nat.le_of_ble_eq_true rfl, Nat.le_of_ble_eq_true rfl⟩) ⟨pR_fb, va_recv hK hP (ci := 1) (q0 := 0) rfl rfl, pR_mk hP hK⟩ rfl rfl hl.1 rfl (lv_room (Nat.le_of_ble_eq_true rfl)) dX1_holdsThen_1 ⟨Nat.le_of_ble_eq_true rfl, Nat.le_of_ble_eq_true rfl⟩) (fun r1 qr1 => ?_)
  have qr1 : r1 = y_rate M := qr1
  subst qr1
  refine lv_istore_n (lv' := [(2, .int (y_rate M)), (0, .ref (h 0)), (1, .int (nI j))]) hx hb dX1_holdsThen_4 rfl hl (by decide) rfl (fun ls hl => ?_)
  refine lv_aload_n hx hb dX1_holdsThen_5 rfl (lv_at hl 1 rfl) ?_
  refine va_get (D := D) (ci := 1) (v := .int (m_hb M)) (C := RX1) (T := TX1) (N := 14) hx hb hts hin0 hown hK hP 0 rfl rfl 8 (by decide) kw0 (fun _ h9 => h9) rfl dX1_holdsThen_6 ?_
  refine lv_if_eq (tgt := 39) hx hb dX1_holdsThen_9 (by decide) (fun c2 => ?_) (fun c2 => ?_)
  · refine lv_aload_n hx hb dX1_holdsThen_39 rfl (lv_at hl 1 rfl) ?_
    refine va_get (D := D) (ci := 1) (v := .ref (h 2)) (C := RX1) (T := TX1) (N := 14) hx hb hts hin0 hown hK hP 0 rfl rfl 3 (by decide) kw1 (fun _ h9 => h9) rfl dX1_holdsThen_40 ?_
    refine lv_iload_n hx hb dX1_holdsThen_43 rfl (lv_at hl 2 rfl) ?_
    refine r_ald (f := m_le M) (j := j) hx hb hK hP 2 0 rfl rfl (by omega) (by omega) dX1_holdsThen_44 ?_
    refine lv_iload_n hx hb dX1_holdsThen_45 rfl (lv_at hl 0 rfl) ?_
    refine vp_callSi (W.runS (As := [.int ((m_le M) j), .int (y_rate M)]) (rest := []) ⟨hx, hb, hml, hown, hts⟩ (c1_thousandths l ((m_le M) j) (y_rate M)) (va_cwS 2 hts gX1_holdsThen_X1_thousandths rfl rfl rfl (by decide +kernel) ⟨Nat.le_of_ble_eq_true rfl, Nat.le_of_ble_eq_true rfl⟩) ⟨nil_fb, nil_mk⟩ rfl rfl hl.1 rfl (lv_room (Nat.le_of_ble_eq_true rfl)) dX1_holdsThen_46 ⟨Nat.le_of_ble_eq_true rfl, Nat.le_of_ble_eq_true rfl⟩) (fun r3 qr3 => ?_)
    have qr3 : r3 = y_th ((m_le M) j) (y_rate M) := qr3
    subst qr3
    subst hQ
    exact W.iret (v := y_th ((m_le M) j) (y_rate M)) hx hb hr (fun t ht hW => ⟨_, rfl, (by unfold y_hTh; rw [if_pos c2]), ht⟩) (fun q hq => by cases hq) dX1_holdsThen_49
  · refine lv_aload_n hx hb dX1_holdsThen_12 rfl (lv_at hl 1 rfl) ?_
    refine va_get (D := D) (ci := 1) (v := .ref (h 5)) (C := RX1) (T := TX1) (N := 14) hx hb hts hin0 hown hK hP 0 rfl rfl 6 (by decide) kw2 (fun _ h9 => h9) rfl dX1_holdsThen_13 ?_
    refine lv_iload_n hx hb dX1_holdsThen_16 rfl (lv_at hl 2 rfl) ?_
    refine r_ald (f := m_lh M) (j := j) hx hb hK hP 5 0 rfl rfl (by omega) (by omega) dX1_holdsThen_17 ?_
    refine lv_aload_n hx hb dX1_holdsThen_18 rfl (lv_at hl 1 rfl) ?_
    refine va_get (D := D) (ci := 1) (v := .ref (h 2)) (C := RX1) (T := TX1) (N := 14) hx hb hts hin0 hown hK hP 0 rfl rfl 3 (by decide) kw1 (fun _ h9 => h9) rfl dX1_holdsThen_19 ?_
    refine lv_iload_n hx hb dX1_holdsThen_22 rfl (lv_at hl 2 rfl) ?_
    refine r_ald (f := m_le M) (j := j) hx hb hK hP 2 0 rfl rfl (by omega) (by omega) dX1_holdsThen_23 ?_
    refine lv_aload_n hx hb dX1_holdsThen_24 rfl (lv_at hl 1 rfl) ?_
    refine va_get (D := D) (ci := 1) (v := .ref (h 4)) (C := RX1) (T := TX1) (N := 14) hx hb hts hin0 hown hK hP 0 rfl rfl 5 (by decide) kw3 (fun _ h9 => h9) rfl dX1_holdsThen_25 ?_
    refine lv_iload_n hx hb dX1_holdsThen_28 rfl (lv_at hl 2 rfl) ?_
    refine r_ald (f := m_lb M) (j := j) hx hb hK hP 4 0 rfl rfl (by omega) (by omega) dX1_holdsThen_29 ?_
    refine lv_isub hx hb dX1_holdsThen_30 ?_
    refine lv_iload_n hx hb dX1_holdsThen_31 rfl (lv_at hl 0 rfl) ?_
    refine vp_callSi (W.runS (As := [.int (((m_le M) j) - ((m_lb M) j)), .int (y_rate M)]) (rest := [.int ((m_lh M) j)]) ⟨hx, hb, hml, hown, hts⟩ (c1_thousandths l (((m_le M) j) - ((m_lb M) j)) (y_rate M)) (va_cwS 2 hts gX1_holdsThen_X1_thousandths rfl rfl rfl (by decide +kernel) ⟨Nat.le_of_ble_eq_true rfl, Nat.le_of_ble_eq_true rfl⟩) ⟨nil_fb, nil_mk⟩ rfl rfl hl.1 rfl (lv_room (Nat.le_of_ble_eq_true rfl)) dX1_holdsThen_32 ⟨Nat.le_of_ble_eq_true rfl, Nat.le_of_ble_eq_true rfl⟩) (fun r4 qr4 => ?_)
    have qr4 : r4 = y_th (((m_le M) j) - ((m_lb M) j)) (y_rate M) := qr4
    subst qr4
    refine lv_iadd hx hb dX1_holdsThen_35 ?_
    refine lv_goto (tgt := 49) hx hb dX1_holdsThen_36 (by decide) ?_
    subst hQ
    exact W.iret (v := ((m_lh M) j) + (y_th (((m_le M) j) - ((m_lb M) j)) (y_rate M))) hx hb hr (fun t ht hW => ⟨_, rfl, (by unfold y_hTh; rw [if_neg c2]), ht⟩) (fun q hq => by cases hq) dX1_holdsThen_49
set_option maxHeartbeats 4000000 in
set_option maxRecDepth 100000 in
theorem c1_amountNow (l : Launch) (D : va_G) (h : Nat → Nat) (cA : ClassId) (rf : Int32) (M : MM) (hM : RTM M) : Met l yX1_amountNow wsX1_amountNow ({ frames := 4, cells := 0, slots := 0, locals := 86 } : Room) (va_Pc [.ref (h 0)] (pR D [(cA, .int)] (w1 h cA rf M))) (vp_Si (fun r : Int32 => r = y_amt M)) 0 0 (fun _ => False) := by
  refine Met.ofW (cc := cX1_amountNow) (maxL := 3) (ret := (some .int)) (by decide) rfl ?_
  intro p e s m args below meth c s₁ B hml hv
  obtain ⟨rfl, hP, hK⟩ := hv
  have hx := B.exec
  have hb := B.bytes
  have hr := B.returns
  have hts := atoms_spec (ws := wsX1_amountNow) B.pre
  have hown : s.vm.findClass RX1 = some m.cls := findClass_of_methodNamed B.named
  have hlocks := B.notSynchronized
  have kw0 := hts (.fieldLink RX1 13 "ProgressBillingModel" "earned" "[I") (by decide +kernel)
  have kw1 := hts (.fieldLink RX1 44 "ProgressBillingModel" "lines" "I") (by decide +kernel)
  have kw2 := hts (.fieldLink RX1 100 "ProgressBillingModel" "applications" "I") (by decide +kernel)
  have kw3 := hts (.fieldLink RX1 31 "ProgressBillingModel" "amounts" "[I") (by decide +kernel)
  have hin0 : ∀ w ∈ u_ws RX1 TX1 14, w ∈ wsX1_amountNow := by decide +kernel
  obtain ⟨hn1, hn4, ⟨k0, hk0, ek0⟩, hr0⟩ := id hM
  have hl := lv_entry ([.ref (h 0)]) (n := 3) (Nat.le_of_ble_eq_true rfl)
  rw [lg_entry_eq]
  generalize (lg_sl ([.ref (h 0)]) ++ List.replicate (3 - (lg_sl ([.ref (h 0)])).length) Slot.unset).toArray = ls at hl ⊢
  have hl : lv_has ls 3 [(0, .ref (h 0))] := hl
  refine w_abs (fun Q hQ => ?_)
  refine lv_aload_n hx hb dX1_amountNow_0 rfl (lv_at hl 0 rfl) ?_
  refine lv_aload_n hx hb dX1_amountNow_1 rfl (lv_at hl 0 rfl) ?_
  refine va_get (D := D) (ci := 1) (v := .ref (h 2)) (C := RX1) (T := TX1) (N := 14) hx hb hts hin0 hown hK hP 0 rfl rfl 3 (by decide) kw0 (fun _ h9 => h9) rfl dX1_amountNow_2 ?_
  refine vp_callSi (W.runV (As := [.ref (h 2)]) (rest := []) ⟨hx, hb, hml, hown, hts⟩ (c1_sum l D h cA rf M ⟨hn1, hn4⟩ 2 (m_le M) rfl) (cwV 1 hts gX1_amountNow_X1_sum rfl rfl rfl (by decide +kernel) ⟨Nat.le_of_ble_eq_true rfl, Nat.le_of_ble_eq_true rfl⟩) ⟨pR_fb, va_recv hK hP (ci := 1) (q0 := 0) rfl rfl, pR_mk hP hK⟩ rfl rfl hl.1 rfl (lv_room (Nat.le_of_ble_eq_true rfl)) dX1_amountNow_5 ⟨Nat.le_of_ble_eq_true rfl, Nat.le_of_ble_eq_true rfl⟩) (fun r1 qr1 => ?_)
  have qr1 : r1 = psum (m_le M) (m_ln M) := qr1
  subst qr1
  refine lv_istore_n (lv' := [(1, .int (psum (m_le M) (m_ln M))), (0, .ref (h 0))]) hx hb dX1_amountNow_8 rfl hl (by decide) rfl (fun ls hl => ?_)
  refine lv_iconst (v := 0) hx hb dX1_amountNow_9 (by decide) ?_
  refine lv_istore_n (lv' := [(2, .int 0), (1, .int (psum (m_le M) (m_ln M))), (0, .ref (h 0))]) hx hb dX1_amountNow_10 rfl hl (by decide) rfl (fun ls hl => ?_)
  have loop : ∀ (fu : Nat) (k : Nat) (x2 : Int32), k ≤ m_ln M → x2 = y_nsub M (psum (m_le M) (m_ln M)) k → m_ln M - k < fu → ∀ (ls : Array Slot), lv_has ls 3 [(0, .ref (h 0)), (1, .int x2), (2, .int (nI k))] → W p l e (headSpec wsX1_amountNow ({ frames := 4, cells := 0, slots := 0, locals := 86 } : Room)).room s m ([.ref (h 0)] : List Value).toArray below meth c s.heap [] 0 0 Q (F0 m 11 ls []) := by
    intro fu
    induction fu with
    | zero => intro k x2 hk e2 hfu; exact absurd hfu (by omega)
    | succ fu ih =>
      intro k x2 hk e2 hfu ls hl
      refine lv_iload_n hx hb dX1_amountNow_11 rfl (lv_at hl 2 rfl) ?_
      refine lv_aload_n hx hb dX1_amountNow_12 rfl (lv_at hl 0 rfl) ?_
      refine va_get (D := D) (ci := 1) (v := .int (nI (m_ln M))) (C := RX1) (T := TX1) (N := 14) hx hb hts hin0 hown hK hP 0 rfl rfl 1 (by decide) kw1 (fun _ h9 => h9) rfl dX1_amountNow_13 ?_
      refine lv_icmp_ge (tgt := 33) hx hb dX1_amountNow_16 (by decide) (fun c2 => ?_) (fun c2 => ?_)
      · have c2 := k_le (a := (m_ln M)) (b := k) (by omega) (by omega) c2
        refine lv_iconst (v := 0) hx hb dX1_amountNow_33 (by decide) ?_
        refine lv_istore_n (lv' := [(2, .int 0), (0, .ref (h 0)), (1, .int x2)]) hx hb dX1_amountNow_34 rfl hl (by decide) rfl (fun ls hl => ?_)
        have loop2 : ∀ (fu : Nat) (i : Nat) (x3 : Int32), i ≤ m_an M → x3 = y_asub (m_aa M) x2 i → m_an M - i < fu → ∀ (ls : Array Slot), lv_has ls 3 [(0, .ref (h 0)), (1, .int x3), (2, .int (nI i))] → W p l e (headSpec wsX1_amountNow ({ frames := 4, cells := 0, slots := 0, locals := 86 } : Room)).room s m ([.ref (h 0)] : List Value).toArray below meth c s.heap [] 0 0 Q (F0 m 35 ls []) := by
          intro fu
          induction fu with
          | zero => intro i x3 hi e3 hfu; exact absurd hfu (by omega)
          | succ fu ih2 =>
            intro i x3 hi e3 hfu ls hl
            refine lv_iload_n hx hb dX1_amountNow_35 rfl (lv_at hl 2 rfl) ?_
            refine lv_aload_n hx hb dX1_amountNow_36 rfl (lv_at hl 0 rfl) ?_
            refine va_get (D := D) (ci := 1) (v := .int (nI (m_an M))) (C := RX1) (T := TX1) (N := 14) hx hb hts hin0 hown hK hP 0 rfl rfl 9 (by decide) kw2 (fun _ h9 => h9) rfl dX1_amountNow_37 ?_
            refine lv_icmp_ge (tgt := 58) hx hb dX1_amountNow_40 (by decide) (fun c3 => ?_) (fun c3 => ?_)
            · have c3 := k_le (a := (m_an M)) (b := i) (by omega) (by omega) c3
              refine lv_iload_n hx hb dX1_amountNow_58 rfl (lv_at hl 1 rfl) ?_
              subst hQ
              exact W.iret (v := x3) hx hb hr (fun t ht hW => ⟨_, rfl, (by unfold y_amt; rw [e3, show i = m_an M by omega, e2, show k = m_ln M by omega]), ht⟩) (fun q hq => by cases hq) dX1_amountNow_59
            · have c3 := k_nle (a := (m_an M)) (b := i) (by omega) (by omega) c3
              refine lv_iload_n hx hb dX1_amountNow_43 rfl (lv_at hl 1 rfl) ?_
              refine lv_aload_n hx hb dX1_amountNow_44 rfl (lv_at hl 0 rfl) ?_
              refine va_get (D := D) (ci := 1) (v := .ref (h 8)) (C := RX1) (T := TX1) (N := 14) hx hb hts hin0 hown hK hP 0 rfl rfl 11 (by decide) kw3 (fun _ h9 => h9) rfl dX1_amountNow_45 ?_
              refine lv_iload_n hx hb dX1_amountNow_48 rfl (lv_at hl 2 rfl) ?_
              refine r_ald (f := m_aa M) (j := i) hx hb hK hP 8 0 rfl rfl (by omega) (by omega) dX1_amountNow_49 ?_
              refine lv_isub hx hb dX1_amountNow_50 ?_
              refine lv_istore_n (lv' := [(1, .int (x3 - ((m_aa M) i))), (0, .ref (h 0)), (2, .int (nI i))]) hx hb dX1_amountNow_51 rfl hl (by decide) rfl (fun ls hl => ?_)
              refine lv_iinc (v := nI (i + 1)) (lv' := [(2, .int (nI (i + 1))), (1, .int (x3 - ((m_aa M) i))), (0, .ref (h 0))]) hx hb dX1_amountNow_52 hl (k := 2) rfl (nI_1 _) (by decide) rfl (fun ls hl => ?_)
              refine lv_goto (tgt := 35) hx hb dX1_amountNow_55 (by decide) ?_
              exact ih2 (i + 1) _ (by omega) (by rw [e3]; rfl) (by omega) ls (lv_sub hl [2, 1, 0] rfl)
        exact loop2 (m_an M + 1) 0 _ (Nat.zero_le _) rfl (by omega) ls (lv_sub hl [1, 2, 0] rfl)
      · have c2 := k_nle (a := (m_ln M)) (b := k) (by omega) (by omega) c2
        refine lv_iload_n hx hb dX1_amountNow_19 rfl (lv_at hl 1 rfl) ?_
        refine lv_aload_n hx hb dX1_amountNow_20 rfl (lv_at hl 0 rfl) ?_
        refine lv_iload_n hx hb dX1_amountNow_21 rfl (lv_at hl 2 rfl) ?_
        refine vp_callSi (W.runV (As := [.int (nI k)]) (rest := [.int x2]) ⟨hx, hb, hml, hown, hts⟩ (c1_holdsThen l D h cA rf M hM k (by omega)) (cwV 1 hts gX1_amountNow_X1_holdsThen rfl rfl rfl (by decide +kernel) ⟨Nat.le_of_ble_eq_true rfl, Nat.le_of_ble_eq_true rfl⟩) ⟨pR_fb, va_recv hK hP (ci := 1) (q0 := 0) rfl rfl, pR_mk hP hK⟩ rfl rfl hl.1 rfl (lv_room (Nat.le_of_ble_eq_true rfl)) dX1_amountNow_22 ⟨Nat.le_of_ble_eq_true rfl, Nat.le_of_ble_eq_true rfl⟩) (fun r4 qr4 => ?_)
        have qr4 : r4 = y_hTh M k := qr4
        subst qr4
        refine lv_isub hx hb dX1_amountNow_25 ?_
        refine lv_istore_n (lv' := [(1, .int (x2 - (y_hTh M k))), (0, .ref (h 0)), (2, .int (nI k))]) hx hb dX1_amountNow_26 rfl hl (by decide) rfl (fun ls hl => ?_)
        refine lv_iinc (v := nI (k + 1)) (lv' := [(2, .int (nI (k + 1))), (1, .int (x2 - (y_hTh M k))), (0, .ref (h 0))]) hx hb dX1_amountNow_27 hl (k := 2) rfl (nI_1 _) (by decide) rfl (fun ls hl => ?_)
        refine lv_goto (tgt := 11) hx hb dX1_amountNow_30 (by decide) ?_
        exact ih (k + 1) _ (by omega) (by rw [e2]; rfl) (by omega) ls (lv_sub hl [2, 1, 0] rfl)
  exact loop (m_ln M + 1) 0 _ (Nat.zero_le _) rfl (by omega) ls (lv_sub hl [2, 1, 0] rfl)
set_option maxHeartbeats 4000000 in
set_option maxRecDepth 100000 in
theorem c1_waived (l : Launch) (D : va_G) (h : Nat → Nat) (cA : ClassId) (rf : Int32) (M : MM) (hM : OK1 M) : Met l yX1_waived wsX1_waived ({ frames := 0, cells := 0, slots := 0, locals := 0 } : Room) (va_Pc [.ref (h 0)] (pR D [(cA, .int)] (w1 h cA rf M))) (vp_Si (fun r : Int32 => r = nI (y_pf (m_as M) (m_an M) 0))) 0 0 (fun _ => False) := by
  refine Met.ofW (cc := cX1_waived) (maxL := 2) (ret := (some .int)) (by decide) rfl ?_
  intro p e s m args below meth c s₁ B hml hv
  obtain ⟨rfl, hP, hK⟩ := hv
  have hx := B.exec
  have hb := B.bytes
  have hr := B.returns
  have hts := atoms_spec (ws := wsX1_waived) B.pre
  have hown : s.vm.findClass RX1 = some m.cls := findClass_of_methodNamed B.named
  have hlocks := B.notSynchronized
  have kw0 := hts (.fieldLink RX1 100 "ProgressBillingModel" "applications" "I") (by decide +kernel)
  have kw1 := hts (.fieldLink RX1 28 "ProgressBillingModel" "states" "[I") (by decide +kernel)
  have hin0 : ∀ w ∈ u_ws RX1 TX1 14, w ∈ wsX1_waived := by decide +kernel
  obtain ⟨hn1, hn4⟩ := id hM
  have hl := lv_entry ([.ref (h 0)]) (n := 2) (Nat.le_of_ble_eq_true rfl)
  rw [lg_entry_eq]
  generalize (lg_sl ([.ref (h 0)]) ++ List.replicate (2 - (lg_sl ([.ref (h 0)])).length) Slot.unset).toArray = ls at hl ⊢
  have hl : lv_has ls 2 [(0, .ref (h 0))] := hl
  refine w_abs (fun Q hQ => ?_)
  refine lv_iconst (v := 0) hx hb dX1_waived_0 (by decide) ?_
  refine lv_istore_n (lv' := [(1, .int 0), (0, .ref (h 0))]) hx hb dX1_waived_1 rfl hl (by decide) rfl (fun ls hl => ?_)
  have loop : ∀ (fu : Nat) (k : Nat), k ≤ m_an M → y_pf (m_as M) (m_an M) 0 = y_pf (m_as M) (m_an M - k) k → m_an M - k < fu → ∀ (ls : Array Slot), lv_has ls 2 [(0, .ref (h 0)), (1, .int (nI k))] → W p l e (headSpec wsX1_waived ({ frames := 0, cells := 0, slots := 0, locals := 0 } : Room)).room s m ([.ref (h 0)] : List Value).toArray below meth c s.heap [] 0 0 Q (F0 m 2 ls []) := by
    intro fu
    induction fu with
    | zero => intro k hk eb hfu; exact absurd hfu (by omega)
    | succ fu ih =>
      intro k hk eb hfu ls hl
      refine lv_iload_n hx hb dX1_waived_2 rfl (lv_at hl 1 rfl) ?_
      refine lv_aload_n hx hb dX1_waived_3 rfl (lv_at hl 0 rfl) ?_
      refine va_get (D := D) (ci := 1) (v := .int (nI (m_an M))) (C := RX1) (T := TX1) (N := 14) hx hb hts hin0 hown hK hP 0 rfl rfl 9 (by decide) kw0 (fun _ h9 => h9) rfl dX1_waived_4 ?_
      refine lv_icmp_ge (tgt := 26) hx hb dX1_waived_7 (by decide) (fun c1 => ?_) (fun c1 => ?_)
      · have c1 := k_le (a := (m_an M)) (b := k) (by omega) (by omega) c1
        refine lv_iload_n hx hb dX1_waived_26 rfl (lv_at hl 1 rfl) ?_
        subst hQ
        exact W.iret (v := nI k) hx hb hr (fun t ht hW => ⟨_, rfl, (by rw [eb, show m_an M - k = 0 by omega]; rfl), ht⟩) (fun q hq => by cases hq) dX1_waived_27
      · have c1 := k_nle (a := (m_an M)) (b := k) (by omega) (by omega) c1
        refine lv_aload_n hx hb dX1_waived_10 rfl (lv_at hl 0 rfl) ?_
        refine va_get (D := D) (ci := 1) (v := .ref (h 7)) (C := RX1) (T := TX1) (N := 14) hx hb hts hin0 hown hK hP 0 rfl rfl 10 (by decide) kw1 (fun _ h9 => h9) rfl dX1_waived_11 ?_
        refine lv_iload_n hx hb dX1_waived_14 rfl (lv_at hl 1 rfl) ?_
        refine r_ald (f := m_as M) (j := k) hx hb hK hP 7 0 rfl rfl (by omega) (by omega) dX1_waived_15 ?_
        refine lv_iconst (v := 2) hx hb dX1_waived_16 (by decide) ?_
        refine lv_icmp_ne (tgt := 26) hx hb dX1_waived_17 (by decide) (fun c2 => ?_) (fun c2 => ?_)
        · refine lv_iload_n hx hb dX1_waived_26 rfl (lv_at hl 1 rfl) ?_
          subst hQ
          exact W.iret (v := nI k) hx hb hr (fun t ht hW => ⟨_, rfl, (by rw [eb, y_pf_y c2]), ht⟩) (fun q hq => by cases hq) dX1_waived_27
        · refine lv_iinc (v := nI (k + 1)) (lv' := [(1, .int (nI (k + 1))), (0, .ref (h 0))]) hx hb dX1_waived_20 hl (k := 1) rfl (nI_1 _) (by decide) rfl (fun ls hl => ?_)
          refine lv_goto (tgt := 2) hx hb dX1_waived_23 (by decide) ?_
          exact ih (k + 1) (by omega) (by rw [eb]; exact y_pf_n (by omega) c2) (by omega) ls (lv_sub hl [1, 0] rfl)
  exact loop (m_an M + 1) 0 (Nat.zero_le _) rfl (by omega) ls (lv_sub hl [1, 0] rfl)
set_option maxHeartbeats 4000000 in
set_option maxRecDepth 100000 in
theorem c1_sumPaid (l : Launch) (D : va_G) (h : Nat → Nat) (cA : ClassId) (rf : Int32) (M : MM) (hM : OK1 M) : Met l yX1_sumPaid wsX1_sumPaid ({ frames := 0, cells := 0, slots := 0, locals := 0 } : Room) (va_Pc [.ref (h 0)] (pR D [(cA, .int)] (w1 h cA rf M))) (vp_Si (fun r : Int32 => r = y_psum (m_as M) (m_aa M) (m_an M))) 0 0 (fun _ => False) := by
  refine Met.ofW (cc := cX1_sumPaid) (maxL := 3) (ret := (some .int)) (by decide) rfl ?_
  intro p e s m args below meth c s₁ B hml hv
  obtain ⟨rfl, hP, hK⟩ := hv
  have hx := B.exec
  have hb := B.bytes
  have hr := B.returns
  have hts := atoms_spec (ws := wsX1_sumPaid) B.pre
  have hown : s.vm.findClass RX1 = some m.cls := findClass_of_methodNamed B.named
  have hlocks := B.notSynchronized
  have kw0 := hts (.fieldLink RX1 100 "ProgressBillingModel" "applications" "I") (by decide +kernel)
  have kw1 := hts (.fieldLink RX1 28 "ProgressBillingModel" "states" "[I") (by decide +kernel)
  have kw2 := hts (.fieldLink RX1 31 "ProgressBillingModel" "amounts" "[I") (by decide +kernel)
  have hin0 : ∀ w ∈ u_ws RX1 TX1 14, w ∈ wsX1_sumPaid := by decide +kernel
  obtain ⟨hn1, hn4⟩ := id hM
  have hl := lv_entry ([.ref (h 0)]) (n := 3) (Nat.le_of_ble_eq_true rfl)
  rw [lg_entry_eq]
  generalize (lg_sl ([.ref (h 0)]) ++ List.replicate (3 - (lg_sl ([.ref (h 0)])).length) Slot.unset).toArray = ls at hl ⊢
  have hl : lv_has ls 3 [(0, .ref (h 0))] := hl
  refine w_abs (fun Q hQ => ?_)
  refine lv_iconst (v := 0) hx hb dX1_sumPaid_0 (by decide) ?_
  refine lv_istore_n (lv' := [(1, .int 0), (0, .ref (h 0))]) hx hb dX1_sumPaid_1 rfl hl (by decide) rfl (fun ls hl => ?_)
  refine lv_iconst (v := 0) hx hb dX1_sumPaid_2 (by decide) ?_
  refine lv_istore_n (lv' := [(2, .int 0), (1, .int 0), (0, .ref (h 0))]) hx hb dX1_sumPaid_3 rfl hl (by decide) rfl (fun ls hl => ?_)
  have loop : ∀ (fu : Nat) (k : Nat) (x2 : Int32), k ≤ m_an M → x2 = y_psum (m_as M) (m_aa M) k → m_an M - k < fu → ∀ (ls : Array Slot), lv_has ls 3 [(0, .ref (h 0)), (1, .int x2), (2, .int (nI k))] → W p l e (headSpec wsX1_sumPaid ({ frames := 0, cells := 0, slots := 0, locals := 0 } : Room)).room s m ([.ref (h 0)] : List Value).toArray below meth c s.heap [] 0 0 Q (F0 m 4 ls []) := by
    intro fu
    induction fu with
    | zero => intro k x2 hk e2 hfu; exact absurd hfu (by omega)
    | succ fu ih =>
      intro k x2 hk e2 hfu ls hl
      refine lv_iload_n hx hb dX1_sumPaid_4 rfl (lv_at hl 2 rfl) ?_
      refine lv_aload_n hx hb dX1_sumPaid_5 rfl (lv_at hl 0 rfl) ?_
      refine va_get (D := D) (ci := 1) (v := .int (nI (m_an M))) (C := RX1) (T := TX1) (N := 14) hx hb hts hin0 hown hK hP 0 rfl rfl 9 (by decide) kw0 (fun _ h9 => h9) rfl dX1_sumPaid_6 ?_
      refine lv_icmp_ge (tgt := 40) hx hb dX1_sumPaid_9 (by decide) (fun c1 => ?_) (fun c1 => ?_)
      · have c1 := k_le (a := (m_an M)) (b := k) (by omega) (by omega) c1
        refine lv_iload_n hx hb dX1_sumPaid_40 rfl (lv_at hl 1 rfl) ?_
        subst hQ
        exact W.iret (v := x2) hx hb hr (fun t ht hW => ⟨_, rfl, (by rw [e2, show k = m_an M by omega]), ht⟩) (fun q hq => by cases hq) dX1_sumPaid_41
      · have c1 := k_nle (a := (m_an M)) (b := k) (by omega) (by omega) c1
        refine lv_iload_n hx hb dX1_sumPaid_12 rfl (lv_at hl 1 rfl) ?_
        refine lv_aload_n hx hb dX1_sumPaid_13 rfl (lv_at hl 0 rfl) ?_
        refine va_get (D := D) (ci := 1) (v := .ref (h 7)) (C := RX1) (T := TX1) (N := 14) hx hb hts hin0 hown hK hP 0 rfl rfl 10 (by decide) kw1 (fun _ h9 => h9) rfl dX1_sumPaid_14 ?_
        refine lv_iload_n hx hb dX1_sumPaid_17 rfl (lv_at hl 2 rfl) ?_
        refine r_ald (f := m_as M) (j := k) hx hb hK hP 7 0 rfl rfl (by omega) (by omega) dX1_sumPaid_18 ?_
        refine lv_if_ne (tgt := 26) hx hb dX1_sumPaid_19 (by decide) (fun c2 => ?_) (fun c2 => ?_)
        · refine lv_aload_n hx hb dX1_sumPaid_26 rfl (lv_at hl 0 rfl) ?_
          refine va_get (D := D) (ci := 1) (v := .ref (h 8)) (C := RX1) (T := TX1) (N := 14) hx hb hts hin0 hown hK hP 0 rfl rfl 11 (by decide) kw2 (fun _ h9 => h9) rfl dX1_sumPaid_27 ?_
          refine lv_iload_n hx hb dX1_sumPaid_30 rfl (lv_at hl 2 rfl) ?_
          refine r_ald (f := m_aa M) (j := k) hx hb hK hP 8 0 rfl rfl (by omega) (by omega) dX1_sumPaid_31 ?_
          refine lv_iadd hx hb dX1_sumPaid_32 ?_
          refine lv_istore_n (lv' := [(1, .int (x2 + ((m_aa M) k))), (0, .ref (h 0)), (2, .int (nI k))]) hx hb dX1_sumPaid_33 rfl hl (by decide) rfl (fun ls hl => ?_)
          refine lv_iinc (v := nI (k + 1)) (lv' := [(2, .int (nI (k + 1))), (1, .int (x2 + ((m_aa M) k))), (0, .ref (h 0))]) hx hb dX1_sumPaid_34 hl (k := 2) rfl (nI_1 _) (by decide) rfl (fun ls hl => ?_)
          refine lv_goto (tgt := 4) hx hb dX1_sumPaid_37 (by decide) ?_
          exact ih (k + 1) (x2 + ((m_aa M) k)) (by omega) (by unfold y_psum; rw [← e2, if_neg c2]) (by omega) ls (lv_sub hl [2, 1, 0] rfl)
        · refine lv_iconst (v := 0) hx hb dX1_sumPaid_22 (by decide) ?_
          refine lv_goto (tgt := 32) hx hb dX1_sumPaid_23 (by decide) ?_
          refine lv_iadd hx hb dX1_sumPaid_32 ?_
          refine lv_topi (fun y3 ey3 => ?_)
          obtain rfl : x2 = y3 := (ey3.trans (Int32.add_zero _)).symm
          refine lv_istore_n (lv' := [(1, .int x2), (0, .ref (h 0)), (2, .int (nI k))]) hx hb dX1_sumPaid_33 rfl hl (by decide) rfl (fun ls hl => ?_)
          refine lv_iinc (v := nI (k + 1)) (lv' := [(2, .int (nI (k + 1))), (1, .int x2), (0, .ref (h 0))]) hx hb dX1_sumPaid_34 hl (k := 2) rfl (nI_1 _) (by decide) rfl (fun ls hl => ?_)
          refine lv_goto (tgt := 4) hx hb dX1_sumPaid_37 (by decide) ?_
          exact ih (k + 1) x2 (by omega) (by unfold y_psum; rw [← e2, if_pos c2, Int32.add_zero]) (by omega) ls (lv_sub hl [2, 1, 0] rfl)
  exact loop (m_an M + 1) 0 0 (Nat.zero_le _) rfl (by omega) ls (lv_sub hl [2, 1, 0] rfl)
set_option maxHeartbeats 4000000 in
set_option maxRecDepth 100000 in
theorem c1_isAhead (l : Launch) (D : va_G) (h : Nat → Nat) (cA : ClassId) (rf : Int32) (M : MM) (hM : OK1 M) (a b : Nat) (ha : a < m_ln M) (hb9 : b < m_ln M) : Met l yX1_isAhead wsX1_isAhead ({ frames := 0, cells := 0, slots := 0, locals := 0 } : Room) (va_Pc [.ref (h 0), .int (nI a), .int (nI b)] (pR D [(cA, .int)] (w1 h cA rf M))) (vp_Si (fun r : Int32 => r = if z_ah (m_lw M) (y_dv M) a b = true then 1 else 0)) 0 0 (fun _ => False) := by
  refine Met.ofW (cc := cX1_isAhead) (maxL := 7) (ret := (some .boolean)) (by decide) rfl ?_
  intro p e s m args below meth c s₁ B hml hv
  obtain ⟨rfl, hP, hK⟩ := hv
  have hx := B.exec
  have hb := B.bytes
  have hr := B.returns
  have hts := atoms_spec (ws := wsX1_isAhead) B.pre
  have hown : s.vm.findClass RX1 = some m.cls := findClass_of_methodNamed B.named
  have hlocks := B.notSynchronized
  have kw0 := hts (.fieldLink RX1 16 "ProgressBillingModel" "works" "[I") (by decide +kernel)
  have kw1 := hts (.fieldLink RX1 7 "ProgressBillingModel" "values" "[I") (by decide +kernel)
  have hin0 : ∀ w ∈ u_ws RX1 TX1 14, w ∈ wsX1_isAhead := by decide +kernel
  obtain ⟨hn1, hn4⟩ := id hM
  have hl := lv_entry ([.ref (h 0), .int (nI a), .int (nI b)]) (n := 7) (Nat.le_of_ble_eq_true rfl)
  rw [lg_entry_eq]
  generalize (lg_sl ([.ref (h 0), .int (nI a), .int (nI b)]) ++ List.replicate (7 - (lg_sl ([.ref (h 0), .int (nI a), .int (nI b)])).length) Slot.unset).toArray = ls at hl ⊢
  have hl : lv_has ls 7 [(0, .ref (h 0)), (1, .int (nI a)), (2, .int (nI b))] := hl
  refine w_abs (fun Q hQ => ?_)
  refine lv_aload_n hx hb dX1_isAhead_0 rfl (lv_at hl 0 rfl) ?_
  refine va_get (D := D) (ci := 1) (v := .ref (h 3)) (C := RX1) (T := TX1) (N := 14) hx hb hts hin0 hown hK hP 0 rfl rfl 4 (by decide) kw0 (fun _ h9 => h9) rfl dX1_isAhead_1 ?_
  refine lv_iload_n hx hb dX1_isAhead_4 rfl (lv_at hl 1 rfl) ?_
  refine r_ald (f := m_lw M) (j := a) hx hb hK hP 3 0 rfl rfl (by omega) (by omega) dX1_isAhead_5 ?_
  refine lv_i2l (v := ((m_lw M) a).toInt64) hx hb dX1_isAhead_6 rfl ?_
  refine lv_aload_n hx hb dX1_isAhead_7 rfl (lv_at hl 0 rfl) ?_
  refine va_get (D := D) (ci := 1) (v := .ref (h 1)) (C := RX1) (T := TX1) (N := 14) hx hb hts hin0 hown hK hP 0 rfl rfl 2 (by decide) kw1 (fun _ h9 => h9) rfl dX1_isAhead_8 ?_
  refine lv_iload_n hx hb dX1_isAhead_11 rfl (lv_at hl 2 rfl) ?_
  refine r_ald (f := m_lv M) (j := b) hx hb hK hP 1 0 rfl rfl (by omega) (by omega) dX1_isAhead_12 ?_
  refine lv_if_ne (tgt := 20) hx hb dX1_isAhead_13 (by decide) (fun c1 => ?_) (fun c1 => ?_)
  · have dvb : y_dv M b = m_lv M b := by unfold y_dv; rw [if_neg c1]
    refine lv_aload_n hx hb dX1_isAhead_20 rfl (lv_at hl 0 rfl) ?_
    refine va_get (D := D) (ci := 1) (v := .ref (h 1)) (C := RX1) (T := TX1) (N := 14) hx hb hts hin0 hown hK hP 0 rfl rfl 2 (by decide) kw1 (fun _ h9 => h9) rfl dX1_isAhead_21 ?_
    refine lv_iload_n hx hb dX1_isAhead_24 rfl (lv_at hl 2 rfl) ?_
    refine r_ald (f := m_lv M) (j := b) hx hb hK hP 1 0 rfl rfl (by omega) (by omega) dX1_isAhead_25 ?_
    refine lv_i2l (v := ((m_lv M) b).toInt64) hx hb dX1_isAhead_26 rfl ?_
    refine lv_lmul hx hb dX1_isAhead_27 ?_
    refine lv_lstore_n (lv' := [(3, .long ((((m_lw M) a).toInt64) * (((m_lv M) b).toInt64))), (0, .ref (h 0)), (1, .int (nI a)), (2, .int (nI b))]) hx hb dX1_isAhead_28 rfl hl (by decide) rfl (fun ls hl => ?_)
    refine lv_aload_n hx hb dX1_isAhead_29 rfl (lv_at hl 1 rfl) ?_
    refine va_get (D := D) (ci := 1) (v := .ref (h 3)) (C := RX1) (T := TX1) (N := 14) hx hb hts hin0 hown hK hP 0 rfl rfl 4 (by decide) kw0 (fun _ h9 => h9) rfl dX1_isAhead_30 ?_
    refine lv_iload_n hx hb dX1_isAhead_33 rfl (lv_at hl 3 rfl) ?_
    refine r_ald (f := m_lw M) (j := b) hx hb hK hP 3 0 rfl rfl (by omega) (by omega) dX1_isAhead_34 ?_
    refine lv_i2l (v := ((m_lw M) b).toInt64) hx hb dX1_isAhead_35 rfl ?_
    refine lv_aload_n hx hb dX1_isAhead_36 rfl (lv_at hl 1 rfl) ?_
    refine va_get (D := D) (ci := 1) (v := .ref (h 1)) (C := RX1) (T := TX1) (N := 14) hx hb hts hin0 hown hK hP 0 rfl rfl 2 (by decide) kw1 (fun _ h9 => h9) rfl dX1_isAhead_37 ?_
    refine lv_iload_n hx hb dX1_isAhead_40 rfl (lv_at hl 2 rfl) ?_
    refine r_ald (f := m_lv M) (j := a) hx hb hK hP 1 0 rfl rfl (by omega) (by omega) dX1_isAhead_41 ?_
    refine lv_if_ne (tgt := 49) hx hb dX1_isAhead_42 (by decide) (fun c2 => ?_) (fun c2 => ?_)
    · have dva : y_dv M a = m_lv M a := by unfold y_dv; rw [if_neg c2]
      refine lv_aload_n hx hb dX1_isAhead_49 rfl (lv_at hl 1 rfl) ?_
      refine va_get (D := D) (ci := 1) (v := .ref (h 1)) (C := RX1) (T := TX1) (N := 14) hx hb hts hin0 hown hK hP 0 rfl rfl 2 (by decide) kw1 (fun _ h9 => h9) rfl dX1_isAhead_50 ?_
      refine lv_iload_n hx hb dX1_isAhead_53 rfl (lv_at hl 2 rfl) ?_
      refine r_ald (f := m_lv M) (j := a) hx hb hK hP 1 0 rfl rfl (by omega) (by omega) dX1_isAhead_54 ?_
      refine lv_i2l (v := ((m_lv M) a).toInt64) hx hb dX1_isAhead_55 rfl ?_
      refine lv_lmul hx hb dX1_isAhead_56 ?_
      refine lv_lstore (lv' := [(5, .long ((((m_lw M) b).toInt64) * (((m_lv M) a).toInt64))), (3, .long ((((m_lw M) a).toInt64) * (((m_lv M) b).toInt64))), (0, .ref (h 0)), (1, .int (nI a)), (2, .int (nI b))]) hx hb dX1_isAhead_57 hl (by decide) rfl (fun ls hl => ?_)
      refine lv_lload_n hx hb dX1_isAhead_59 rfl (lv_at hl 1 rfl) ?_
      refine lv_lload hx hb dX1_isAhead_60 (lv_at hl 0 rfl) ?_
      refine W.lcmp hx hb dX1_isAhead_62 ?_
      refine lv_if_gt (tgt := 78) hx hb dX1_isAhead_63 (by decide) (fun c3 => ?_) (fun c3 => ?_)
      · have c3 := k_cgt c3
        refine lv_iconst (v := 1) hx hb dX1_isAhead_78 (by decide) ?_
        refine lv_goto (tgt := 83) hx hb dX1_isAhead_79 (by decide) ?_
        subst hQ
        exact W.zret (v := 1) (ty := .boolean) hx hb hr rfl (fun t ht hW => ⟨_, rfl, (by unfold z_ah; rw [dvb, dva, decide_eq_true c3, Bool.true_or, if_pos rfl]), ht⟩) (fun q hq => by cases hq) dX1_isAhead_83
      · have c3 := k_cngt c3
        refine lv_lload_n hx hb dX1_isAhead_66 rfl (lv_at hl 1 rfl) ?_
        refine lv_lload hx hb dX1_isAhead_67 (lv_at hl 0 rfl) ?_
        refine W.lcmp hx hb dX1_isAhead_69 ?_
        refine lv_if_ne (tgt := 82) hx hb dX1_isAhead_70 (by decide) (fun c4 => ?_) (fun c4 => ?_)
        · have c4 := k_cne c4
          refine lv_iconst (v := 0) hx hb dX1_isAhead_82 (by decide) ?_
          subst hQ
          exact W.zret (v := 0) (ty := .boolean) hx hb hr rfl (fun t ht hW => ⟨_, rfl, (by unfold z_ah; rw [dvb, dva, decide_eq_false c3, decide_eq_false c4]; rfl), ht⟩) (fun q hq => by cases hq) dX1_isAhead_83
        · have c4 := k_ceq c4
          refine lv_iload_n hx hb dX1_isAhead_73 rfl (lv_at hl 3 rfl) ?_
          refine lv_iload_n hx hb dX1_isAhead_74 rfl (lv_at hl 4 rfl) ?_
          refine lv_icmp_ge (tgt := 82) hx hb dX1_isAhead_75 (by decide) (fun c5 => ?_) (fun c5 => ?_)
          · have c5 := k_le (a := b) (b := a) (by omega) (by omega) c5
            refine lv_iconst (v := 0) hx hb dX1_isAhead_82 (by decide) ?_
            subst hQ
            exact W.zret (v := 0) (ty := .boolean) hx hb hr rfl (fun t ht hW => ⟨_, rfl, (by unfold z_ah; rw [dvb, dva, decide_eq_false c3, decide_eq_false (p := a < b) (by omega), Bool.and_false]; rfl), ht⟩) (fun q hq => by cases hq) dX1_isAhead_83
          · have c5 := k_nle (a := b) (b := a) (by omega) (by omega) c5
            refine lv_iconst (v := 1) hx hb dX1_isAhead_78 (by decide) ?_
            refine lv_goto (tgt := 83) hx hb dX1_isAhead_79 (by decide) ?_
            subst hQ
            exact W.zret (v := 1) (ty := .boolean) hx hb hr rfl (fun t ht hW => ⟨_, rfl, (by unfold z_ah; rw [dvb, dva, decide_eq_false c3, decide_eq_true c4, decide_eq_true c5]; rfl), ht⟩) (fun q hq => by cases hq) dX1_isAhead_83
    · have dva : y_dv M a = 1 := by unfold y_dv; rw [if_pos c2]
      refine lv_iconst (v := 1) hx hb dX1_isAhead_45 (by decide) ?_
      refine lv_goto (tgt := 55) hx hb dX1_isAhead_46 (by decide) ?_
      refine lv_i2l (v := (1 : Int32).toInt64) hx hb dX1_isAhead_55 rfl ?_
      refine lv_lmul hx hb dX1_isAhead_56 ?_
      refine lv_lstore (lv' := [(5, .long ((((m_lw M) b).toInt64) * ((1 : Int32).toInt64))), (3, .long ((((m_lw M) a).toInt64) * (((m_lv M) b).toInt64))), (0, .ref (h 0)), (1, .int (nI a)), (2, .int (nI b))]) hx hb dX1_isAhead_57 hl (by decide) rfl (fun ls hl => ?_)
      refine lv_lload_n hx hb dX1_isAhead_59 rfl (lv_at hl 1 rfl) ?_
      refine lv_lload hx hb dX1_isAhead_60 (lv_at hl 0 rfl) ?_
      refine W.lcmp hx hb dX1_isAhead_62 ?_
      refine lv_if_gt (tgt := 78) hx hb dX1_isAhead_63 (by decide) (fun c6 => ?_) (fun c6 => ?_)
      · have c6 := k_cgt c6
        refine lv_iconst (v := 1) hx hb dX1_isAhead_78 (by decide) ?_
        refine lv_goto (tgt := 83) hx hb dX1_isAhead_79 (by decide) ?_
        subst hQ
        exact W.zret (v := 1) (ty := .boolean) hx hb hr rfl (fun t ht hW => ⟨_, rfl, (by unfold z_ah; rw [dvb, dva, decide_eq_true c6, Bool.true_or, if_pos rfl]), ht⟩) (fun q hq => by cases hq) dX1_isAhead_83
      · have c6 := k_cngt c6
        refine lv_lload_n hx hb dX1_isAhead_66 rfl (lv_at hl 1 rfl) ?_
        refine lv_lload hx hb dX1_isAhead_67 (lv_at hl 0 rfl) ?_
        refine W.lcmp hx hb dX1_isAhead_69 ?_
        refine lv_if_ne (tgt := 82) hx hb dX1_isAhead_70 (by decide) (fun c7 => ?_) (fun c7 => ?_)
        · have c7 := k_cne c7
          refine lv_iconst (v := 0) hx hb dX1_isAhead_82 (by decide) ?_
          subst hQ
          exact W.zret (v := 0) (ty := .boolean) hx hb hr rfl (fun t ht hW => ⟨_, rfl, (by unfold z_ah; rw [dvb, dva, decide_eq_false c6, decide_eq_false c7]; rfl), ht⟩) (fun q hq => by cases hq) dX1_isAhead_83
        · have c7 := k_ceq c7
          refine lv_iload_n hx hb dX1_isAhead_73 rfl (lv_at hl 3 rfl) ?_
          refine lv_iload_n hx hb dX1_isAhead_74 rfl (lv_at hl 4 rfl) ?_
          refine lv_icmp_ge (tgt := 82) hx hb dX1_isAhead_75 (by decide) (fun c8 => ?_) (fun c8 => ?_)
          · have c8 := k_le (a := b) (b := a) (by omega) (by omega) c8
            refine lv_iconst (v := 0) hx hb dX1_isAhead_82 (by decide) ?_
            subst hQ
            exact W.zret (v := 0) (ty := .boolean) hx hb hr rfl (fun t ht hW => ⟨_, rfl, (by unfold z_ah; rw [dvb, dva, decide_eq_false c6, decide_eq_false (p := a < b) (by omega), Bool.and_false]; rfl), ht⟩) (fun q hq => by cases hq) dX1_isAhead_83
          · have c8 := k_nle (a := b) (b := a) (by omega) (by omega) c8
            refine lv_iconst (v := 1) hx hb dX1_isAhead_78 (by decide) ?_
            refine lv_goto (tgt := 83) hx hb dX1_isAhead_79 (by decide) ?_
            subst hQ
            exact W.zret (v := 1) (ty := .boolean) hx hb hr rfl (fun t ht hW => ⟨_, rfl, (by unfold z_ah; rw [dvb, dva, decide_eq_false c6, decide_eq_true c7, decide_eq_true c8]; rfl), ht⟩) (fun q hq => by cases hq) dX1_isAhead_83
  · have dvb : y_dv M b = 1 := by unfold y_dv; rw [if_pos c1]
    refine lv_iconst (v := 1) hx hb dX1_isAhead_16 (by decide) ?_
    refine lv_goto (tgt := 26) hx hb dX1_isAhead_17 (by decide) ?_
    refine lv_i2l (v := (1 : Int32).toInt64) hx hb dX1_isAhead_26 rfl ?_
    refine lv_lmul hx hb dX1_isAhead_27 ?_
    refine lv_lstore_n (lv' := [(3, .long ((((m_lw M) a).toInt64) * ((1 : Int32).toInt64))), (0, .ref (h 0)), (1, .int (nI a)), (2, .int (nI b))]) hx hb dX1_isAhead_28 rfl hl (by decide) rfl (fun ls hl => ?_)
    refine lv_aload_n hx hb dX1_isAhead_29 rfl (lv_at hl 1 rfl) ?_
    refine va_get (D := D) (ci := 1) (v := .ref (h 3)) (C := RX1) (T := TX1) (N := 14) hx hb hts hin0 hown hK hP 0 rfl rfl 4 (by decide) kw0 (fun _ h9 => h9) rfl dX1_isAhead_30 ?_
    refine lv_iload_n hx hb dX1_isAhead_33 rfl (lv_at hl 3 rfl) ?_
    refine r_ald (f := m_lw M) (j := b) hx hb hK hP 3 0 rfl rfl (by omega) (by omega) dX1_isAhead_34 ?_
    refine lv_i2l (v := ((m_lw M) b).toInt64) hx hb dX1_isAhead_35 rfl ?_
    refine lv_aload_n hx hb dX1_isAhead_36 rfl (lv_at hl 1 rfl) ?_
    refine va_get (D := D) (ci := 1) (v := .ref (h 1)) (C := RX1) (T := TX1) (N := 14) hx hb hts hin0 hown hK hP 0 rfl rfl 2 (by decide) kw1 (fun _ h9 => h9) rfl dX1_isAhead_37 ?_
    refine lv_iload_n hx hb dX1_isAhead_40 rfl (lv_at hl 2 rfl) ?_
    refine r_ald (f := m_lv M) (j := a) hx hb hK hP 1 0 rfl rfl (by omega) (by omega) dX1_isAhead_41 ?_
    refine lv_if_ne (tgt := 49) hx hb dX1_isAhead_42 (by decide) (fun c9 => ?_) (fun c9 => ?_)
    · have dva : y_dv M a = m_lv M a := by unfold y_dv; rw [if_neg c9]
      refine lv_aload_n hx hb dX1_isAhead_49 rfl (lv_at hl 1 rfl) ?_
      refine va_get (D := D) (ci := 1) (v := .ref (h 1)) (C := RX1) (T := TX1) (N := 14) hx hb hts hin0 hown hK hP 0 rfl rfl 2 (by decide) kw1 (fun _ h9 => h9) rfl dX1_isAhead_50 ?_
      refine lv_iload_n hx hb dX1_isAhead_53 rfl (lv_at hl 2 rfl) ?_
      refine r_ald (f := m_lv M) (j := a) hx hb hK hP 1 0 rfl rfl (by omega) (by omega) dX1_isAhead_54 ?_
      refine lv_i2l (v := ((m_lv M) a).toInt64) hx hb dX1_isAhead_55 rfl ?_
      refine lv_lmul hx hb dX1_isAhead_56 ?_
      refine lv_lstore (lv' := [(5, .long ((((m_lw M) b).toInt64) * (((m_lv M) a).toInt64))), (3, .long ((((m_lw M) a).toInt64) * ((1 : Int32).toInt64))), (0, .ref (h 0)), (1, .int (nI a)), (2, .int (nI b))]) hx hb dX1_isAhead_57 hl (by decide) rfl (fun ls hl => ?_)
      refine lv_lload_n hx hb dX1_isAhead_59 rfl (lv_at hl 1 rfl) ?_
      refine lv_lload hx hb dX1_isAhead_60 (lv_at hl 0 rfl) ?_
      refine W.lcmp hx hb dX1_isAhead_62 ?_
      refine lv_if_gt (tgt := 78) hx hb dX1_isAhead_63 (by decide) (fun c10 => ?_) (fun c10 => ?_)
      · have c10 := k_cgt c10
        refine lv_iconst (v := 1) hx hb dX1_isAhead_78 (by decide) ?_
        refine lv_goto (tgt := 83) hx hb dX1_isAhead_79 (by decide) ?_
        subst hQ
        exact W.zret (v := 1) (ty := .boolean) hx hb hr rfl (fun t ht hW => ⟨_, rfl, (by unfold z_ah; rw [dvb, dva, decide_eq_true c10, Bool.true_or, if_pos rfl]), ht⟩) (fun q hq => by cases hq) dX1_isAhead_83
      · have c10 := k_cngt c10
        refine lv_lload_n hx hb dX1_isAhead_66 rfl (lv_at hl 1 rfl) ?_
        refine lv_lload hx hb dX1_isAhead_67 (lv_at hl 0 rfl) ?_
        refine W.lcmp hx hb dX1_isAhead_69 ?_
        refine lv_if_ne (tgt := 82) hx hb dX1_isAhead_70 (by decide) (fun c11 => ?_) (fun c11 => ?_)
        · have c11 := k_cne c11
          refine lv_iconst (v := 0) hx hb dX1_isAhead_82 (by decide) ?_
          subst hQ
          exact W.zret (v := 0) (ty := .boolean) hx hb hr rfl (fun t ht hW => ⟨_, rfl, (by unfold z_ah; rw [dvb, dva, decide_eq_false c10, decide_eq_false c11]; rfl), ht⟩) (fun q hq => by cases hq) dX1_isAhead_83
        · have c11 := k_ceq c11
          refine lv_iload_n hx hb dX1_isAhead_73 rfl (lv_at hl 3 rfl) ?_
          refine lv_iload_n hx hb dX1_isAhead_74 rfl (lv_at hl 4 rfl) ?_
          refine lv_icmp_ge (tgt := 82) hx hb dX1_isAhead_75 (by decide) (fun c12 => ?_) (fun c12 => ?_)
          · have c12 := k_le (a := b) (b := a) (by omega) (by omega) c12
            refine lv_iconst (v := 0) hx hb dX1_isAhead_82 (by decide) ?_
            subst hQ
            exact W.zret (v := 0) (ty := .boolean) hx hb hr rfl (fun t ht hW => ⟨_, rfl, (by unfold z_ah; rw [dvb, dva, decide_eq_false c10, decide_eq_false (p := a < b) (by omega), Bool.and_false]; rfl), ht⟩) (fun q hq => by cases hq) dX1_isAhead_83
          · have c12 := k_nle (a := b) (b := a) (by omega) (by omega) c12
            refine lv_iconst (v := 1) hx hb dX1_isAhead_78 (by decide) ?_
            refine lv_goto (tgt := 83) hx hb dX1_isAhead_79 (by decide) ?_
            subst hQ
            exact W.zret (v := 1) (ty := .boolean) hx hb hr rfl (fun t ht hW => ⟨_, rfl, (by unfold z_ah; rw [dvb, dva, decide_eq_false c10, decide_eq_true c11, decide_eq_true c12]; rfl), ht⟩) (fun q hq => by cases hq) dX1_isAhead_83
    · have dva : y_dv M a = 1 := by unfold y_dv; rw [if_pos c9]
      refine lv_iconst (v := 1) hx hb dX1_isAhead_45 (by decide) ?_
      refine lv_goto (tgt := 55) hx hb dX1_isAhead_46 (by decide) ?_
      refine lv_i2l (v := (1 : Int32).toInt64) hx hb dX1_isAhead_55 rfl ?_
      refine lv_lmul hx hb dX1_isAhead_56 ?_
      refine lv_lstore (lv' := [(5, .long ((((m_lw M) b).toInt64) * ((1 : Int32).toInt64))), (3, .long ((((m_lw M) a).toInt64) * ((1 : Int32).toInt64))), (0, .ref (h 0)), (1, .int (nI a)), (2, .int (nI b))]) hx hb dX1_isAhead_57 hl (by decide) rfl (fun ls hl => ?_)
      refine lv_lload_n hx hb dX1_isAhead_59 rfl (lv_at hl 1 rfl) ?_
      refine lv_lload hx hb dX1_isAhead_60 (lv_at hl 0 rfl) ?_
      refine W.lcmp hx hb dX1_isAhead_62 ?_
      refine lv_if_gt (tgt := 78) hx hb dX1_isAhead_63 (by decide) (fun c13 => ?_) (fun c13 => ?_)
      · have c13 := k_cgt c13
        refine lv_iconst (v := 1) hx hb dX1_isAhead_78 (by decide) ?_
        refine lv_goto (tgt := 83) hx hb dX1_isAhead_79 (by decide) ?_
        subst hQ
        exact W.zret (v := 1) (ty := .boolean) hx hb hr rfl (fun t ht hW => ⟨_, rfl, (by unfold z_ah; rw [dvb, dva, decide_eq_true c13, Bool.true_or, if_pos rfl]), ht⟩) (fun q hq => by cases hq) dX1_isAhead_83
      · have c13 := k_cngt c13
        refine lv_lload_n hx hb dX1_isAhead_66 rfl (lv_at hl 1 rfl) ?_
        refine lv_lload hx hb dX1_isAhead_67 (lv_at hl 0 rfl) ?_
        refine W.lcmp hx hb dX1_isAhead_69 ?_
        refine lv_if_ne (tgt := 82) hx hb dX1_isAhead_70 (by decide) (fun c14 => ?_) (fun c14 => ?_)
        · have c14 := k_cne c14
          refine lv_iconst (v := 0) hx hb dX1_isAhead_82 (by decide) ?_
          subst hQ
          exact W.zret (v := 0) (ty := .boolean) hx hb hr rfl (fun t ht hW => ⟨_, rfl, (by unfold z_ah; rw [dvb, dva, decide_eq_false c13, decide_eq_false c14]; rfl), ht⟩) (fun q hq => by cases hq) dX1_isAhead_83
        · have c14 := k_ceq c14
          refine lv_iload_n hx hb dX1_isAhead_73 rfl (lv_at hl 3 rfl) ?_
          refine lv_iload_n hx hb dX1_isAhead_74 rfl (lv_at hl 4 rfl) ?_
          refine lv_icmp_ge (tgt := 82) hx hb dX1_isAhead_75 (by decide) (fun c15 => ?_) (fun c15 => ?_)
          · have c15 := k_le (a := b) (b := a) (by omega) (by omega) c15
            refine lv_iconst (v := 0) hx hb dX1_isAhead_82 (by decide) ?_
            subst hQ
            exact W.zret (v := 0) (ty := .boolean) hx hb hr rfl (fun t ht hW => ⟨_, rfl, (by unfold z_ah; rw [dvb, dva, decide_eq_false c13, decide_eq_false (p := a < b) (by omega), Bool.and_false]; rfl), ht⟩) (fun q hq => by cases hq) dX1_isAhead_83
          · have c15 := k_nle (a := b) (b := a) (by omega) (by omega) c15
            refine lv_iconst (v := 1) hx hb dX1_isAhead_78 (by decide) ?_
            refine lv_goto (tgt := 83) hx hb dX1_isAhead_79 (by decide) ?_
            subst hQ
            exact W.zret (v := 1) (ty := .boolean) hx hb hr rfl (fun t ht hW => ⟨_, rfl, (by unfold z_ah; rw [dvb, dva, decide_eq_false c13, decide_eq_true c14, decide_eq_true c15]; rfl), ht⟩) (fun q hq => by cases hq) dX1_isAhead_83
end
section
/-! THE REFERENCE: parts that change it -/
set_option maxHeartbeats 4000000 in
set_option maxRecDepth 100000 in
theorem c1_refused (l : Launch) (D : va_G) (h : Nat → Nat) (cA : ClassId) (rf : Int32) (M : MM) (n9 : Int32) (sz : Nat) : Met l yX1_refused wsX1_refused ({ frames := 0, cells := 0, slots := 0, locals := 0 } : Room) (va_Pc [.ref (h 0), .int n9] (pW D [(cA, .int)] (w1 h cA rf M) sz)) (va_Qi (fun (r : Int32) (u : Int32) => r = (if n9 = 0 then 0 else 1) ∧ u = n9) (fun u => qW D (va_A (w1 h cA rf M) sz) (w1 h cA u M)) (va_A (w1 h cA rf M) sz)) 0 0 (va_A (w1 h cA rf M) sz) := by
  refine Met.ofW (cc := cX1_refused) (maxL := 2) (ret := (some .boolean)) (by decide) rfl ?_
  intro p e s m args below meth c s₁ B hml hv
  obtain ⟨rfl, hsz, hP, hK, hD0⟩ := hv
  have hx := B.exec
  have hb := B.bytes
  have hr := B.returns
  have hts := atoms_spec (ws := wsX1_refused) B.pre
  have hown : s.vm.findClass RX1 = some m.cls := findClass_of_methodNamed B.named
  have hlocks := B.notSynchronized
  have kw0 := hts (.fieldLink RX1 40 "ProgressBillingModel" "refusal" "I") (by decide +kernel)
  have hin0 : ∀ w ∈ u_ws RX1 TX1 14, w ∈ wsX1_refused := by decide +kernel
  subst hsz
  have hD := hD0.self (sz := s.heap.size)
  generalize hAe : va_A (w1 h cA rf M) s.heap.size = A at hD ⊢
  have hA : ∀ q : Nat, s.heap.size ≤ q → A q := fun q h => by rw [← hAe]; exact Or.inr h
  have hS : va_S A s.heap s.heap [] := va_S.rf
  have hP : va_P D vwCl (w1 h cA rf M) s.heap := hP
  have hl := lv_entry ([.ref (h 0), .int n9]) (n := 2) (Nat.le_of_ble_eq_true rfl)
  rw [lg_entry_eq]
  generalize (lg_sl ([.ref (h 0), .int n9]) ++ List.replicate (2 - (lg_sl ([.ref (h 0), .int n9])).length) Slot.unset).toArray = ls at hl ⊢
  have hl : lv_has ls 2 [(0, .ref (h 0)), (1, .int n9)] := hl
  refine w_abs (fun Q hQ => ?_)
  refine lv_aload_n hx hb dX1_refused_0 rfl (lv_at hl 0 rfl) ?_
  refine lv_iload_n hx hb dX1_refused_1 rfl (lv_at hl 1 rfl) ?_
  refine va_put (D := D) (ci := 1) (v := .int n9) (ty := .int) (C := RX1) (T := TX1) (N := 14) hx hb hts hin0 tyX1 tyX1_ok nmX1 hown hK hP hD hS 0 rfl rfl 0 (by decide) kw0 (fun _ h9 => h9) rfl (by decide +kernel) rfl rfl (Nat.le_of_ble_eq_true rfl) dX1_refused_2 (fun H locs hP hD hS => ?_)
  rw [q1_rf] at hP hD
  refine lv_iload_n hx hb dX1_refused_5 rfl (lv_at hl 1 rfl) ?_
  refine lv_if_eq (tgt := 13) hx hb dX1_refused_6 (by decide) (fun c1 => ?_) (fun c1 => ?_)
  · refine lv_iconst (v := 0) hx hb dX1_refused_13 (by decide) ?_
    subst hQ
    exact W.zret (v := 0) (ty := .boolean) hx hb hr rfl (fun t ht hW => ⟨⟨0, n9, rfl, ⟨by rw [if_pos c1], rfl⟩, by rw [ht]; exact hP, hD⟩, hS.F ht⟩) hS.2.2 dX1_refused_14
  · refine lv_iconst (v := 1) hx hb dX1_refused_9 (by decide) ?_
    refine lv_goto (tgt := 14) hx hb dX1_refused_10 (by decide) ?_
    subst hQ
    exact W.zret (v := 1) (ty := .boolean) hx hb hr rfl (fun t ht hW => ⟨⟨1, n9, rfl, ⟨by rw [if_neg c1], rfl⟩, by rw [ht]; exact hP, hD⟩, hS.F ht⟩) hS.2.2 dX1_refused_14
set_option maxHeartbeats 4000000 in
set_option maxRecDepth 100000 in
theorem c1_fine (l : Launch) (D : va_G) (h : Nat → Nat) (cA : ClassId) (rf : Int32) (M : MM) (n9 : Int32) (sz : Nat) : Met l yX1_fine wsX1_fine ({ frames := 0, cells := 0, slots := 0, locals := 0 } : Room) (va_Pc [.ref (h 0), .int n9] (pW D [(cA, .int)] (w1 h cA rf M) sz)) (va_Qi (fun (r : Int32) (u : Int32) => r = n9 ∧ u = 0) (fun u => qW D (va_A (w1 h cA rf M) sz) (w1 h cA u M)) (va_A (w1 h cA rf M) sz)) 0 0 (va_A (w1 h cA rf M) sz) := by
  refine Met.ofW (cc := cX1_fine) (maxL := 2) (ret := (some .int)) (by decide) rfl ?_
  intro p e s m args below meth c s₁ B hml hv
  obtain ⟨rfl, hsz, hP, hK, hD0⟩ := hv
  have hx := B.exec
  have hb := B.bytes
  have hr := B.returns
  have hts := atoms_spec (ws := wsX1_fine) B.pre
  have hown : s.vm.findClass RX1 = some m.cls := findClass_of_methodNamed B.named
  have hlocks := B.notSynchronized
  have kw0 := hts (.fieldLink RX1 40 "ProgressBillingModel" "refusal" "I") (by decide +kernel)
  have hin0 : ∀ w ∈ u_ws RX1 TX1 14, w ∈ wsX1_fine := by decide +kernel
  subst hsz
  have hD := hD0.self (sz := s.heap.size)
  generalize hAe : va_A (w1 h cA rf M) s.heap.size = A at hD ⊢
  have hA : ∀ q : Nat, s.heap.size ≤ q → A q := fun q h => by rw [← hAe]; exact Or.inr h
  have hS : va_S A s.heap s.heap [] := va_S.rf
  have hP : va_P D vwCl (w1 h cA rf M) s.heap := hP
  have hl := lv_entry ([.ref (h 0), .int n9]) (n := 2) (Nat.le_of_ble_eq_true rfl)
  rw [lg_entry_eq]
  generalize (lg_sl ([.ref (h 0), .int n9]) ++ List.replicate (2 - (lg_sl ([.ref (h 0), .int n9])).length) Slot.unset).toArray = ls at hl ⊢
  have hl : lv_has ls 2 [(0, .ref (h 0)), (1, .int n9)] := hl
  refine w_abs (fun Q hQ => ?_)
  refine lv_aload_n hx hb dX1_fine_0 rfl (lv_at hl 0 rfl) ?_
  refine lv_iconst (v := 0) hx hb dX1_fine_1 (by decide) ?_
  refine va_put (D := D) (ci := 1) (v := .int 0) (ty := .int) (C := RX1) (T := TX1) (N := 14) hx hb hts hin0 tyX1 tyX1_ok nmX1 hown hK hP hD hS 0 rfl rfl 0 (by decide) kw0 (fun _ h9 => h9) rfl (by decide +kernel) rfl rfl (Nat.le_of_ble_eq_true rfl) dX1_fine_2 (fun H locs hP hD hS => ?_)
  rw [q1_rf] at hP hD
  refine lv_iload_n hx hb dX1_fine_5 rfl (lv_at hl 1 rfl) ?_
  subst hQ
  exact W.iret (v := n9) hx hb hr (fun t ht hW => ⟨⟨n9, 0, rfl, ⟨rfl, rfl⟩, by rw [ht]; exact hP, hD⟩, hS.F ht⟩) hS.2.2 dX1_fine_6
set_option maxHeartbeats 4000000 in
set_option maxRecDepth 100000 in
theorem c1_noLine (l : Launch) (D : va_G) (h : Nat → Nat) (cA : ClassId) (rf : Int32) (M : MM) (hM : OK1 M) (x : Int32) (sz : Nat) : Met l yX1_noLine wsX1_noLine ({ frames := 2, cells := 0, slots := 0, locals := 43 } : Room) (va_Pc [.ref (h 0), .int x] (pW D [(cA, .int)] (w1 h cA rf M) sz)) (va_Qi (fun (r : Int32) (u : Int32) => r = (if (ixL (m_ln M) x).isSome = true then 0 else 1) ∧ u = (if (ixL (m_ln M) x).isSome = true then 0 else 1)) (fun u => qW D (va_A (w1 h cA rf M) sz) (w1 h cA u M)) (va_A (w1 h cA rf M) sz)) 0 0 (va_A (w1 h cA rf M) sz) := by
  refine Met.ofW (cc := cX1_noLine) (maxL := 2) (ret := (some .boolean)) (by decide) rfl ?_
  intro p e s m args below meth c s₁ B hml hv
  obtain ⟨rfl, hsz, hP, hK, hD0⟩ := hv
  have hx := B.exec
  have hb := B.bytes
  have hr := B.returns
  have hts := atoms_spec (ws := wsX1_noLine) B.pre
  have hown : s.vm.findClass RX1 = some m.cls := findClass_of_methodNamed B.named
  have hlocks := B.notSynchronized
  subst hsz
  have hD := hD0.self (sz := s.heap.size)
  generalize hAe : va_A (w1 h cA rf M) s.heap.size = A at hD ⊢
  have hA : ∀ q : Nat, s.heap.size ≤ q → A q := fun q h => by rw [← hAe]; exact Or.inr h
  have hS : va_S A s.heap s.heap [] := va_S.rf
  have hP : va_P D vwCl (w1 h cA rf M) s.heap := hP
  obtain ⟨hn1, hn4⟩ := id hM
  have hl := lv_entry ([.ref (h 0), .int x]) (n := 2) (Nat.le_of_ble_eq_true rfl)
  rw [lg_entry_eq]
  generalize (lg_sl ([.ref (h 0), .int x]) ++ List.replicate (2 - (lg_sl ([.ref (h 0), .int x])).length) Slot.unset).toArray = ls at hl ⊢
  have hl : lv_has ls 2 [(0, .ref (h 0)), (1, .int x)] := hl
  refine w_abs (fun Q hQ => ?_)
  refine lv_aload_n hx hb dX1_noLine_0 rfl (lv_at hl 0 rfl) ?_
  refine lv_aload_n hx hb dX1_noLine_1 rfl (lv_at hl 0 rfl) ?_
  refine lv_iload_n hx hb dX1_noLine_2 rfl (lv_at hl 1 rfl) ?_
  refine vp_callSi (W.runV (As := [.int x]) (rest := [.ref (h 0)]) ⟨hx, hb, hml, hown, hts⟩ (c1_isLine l D h cA rf M hM x) (cwV 1 hts gX1_noLine_X1_isLine rfl rfl rfl (by decide +kernel) ⟨Nat.le_of_ble_eq_true rfl, Nat.le_of_ble_eq_true rfl⟩) ⟨pR_fb, va_recv hK hP (ci := 1) (q0 := 0) rfl rfl, pR_mk hP hK⟩ rfl rfl hl.1 rfl (lv_room (Nat.le_of_ble_eq_true rfl)) dX1_noLine_3 ⟨Nat.le_of_ble_eq_true rfl, Nat.le_of_ble_eq_true rfl⟩) (fun r1 qr1 => ?_)
  rcases ixL_c (n := m_ln M) (x := x) (by omega) with hix | ⟨j, hj, ex, hix⟩
  · have qr1 : r1 = 0 := by rw [qr1, hix]; rfl
    subst qr1
    refine lv_if_eq (tgt := 13) hx hb dX1_noLine_6 (by decide) (fun c2 => ?_) (fun c2 => ?_)
    · refine lv_iconst (v := 1) hx hb dX1_noLine_13 (by decide) ?_
      refine g_calliS (wf := fun u : Int32 => w1 h cA u M) (va_runV (As := [.int 1]) (rest := []) ⟨hx, hb, hml, hown, hts⟩ (c1_refused l D h cA rf M 1 s.heap.size) (cwV 1 hts gX1_noLine_X1_refused rfl rfl rfl (by decide +kernel) ⟨Nat.le_of_ble_eq_true rfl, Nat.le_of_ble_eq_true rfl⟩) ⟨pW_fb, va_recv hK hP (ci := 1) (q0 := 0) rfl rfl, pW_mk hP hK hD⟩ rfl rfl hl.1 rfl (lv_room (Nat.le_of_ble_eq_true rfl)) dX1_noLine_14 ⟨Nat.le_of_ble_eq_true rfl, Nat.le_of_ble_eq_true rfl⟩) hP hD hS hA (fun r3 ur3 H locs qr3 hP hD hS => ?_)
      obtain ⟨qr3, eur3⟩ := qr3
      have qr3 : r3 = 1 := qr3
      subst qr3
      have eur3 : ur3 = 1 := eur3
      subst eur3
      subst hQ
      exact W.zret (v := 1) (ty := .boolean) hx hb hr rfl (fun t ht hW => ⟨⟨1, 1, rfl, ⟨by rw [hix]; rfl, by rw [hix]; rfl⟩, by rw [ht]; exact hP, hD⟩, hS.F ht⟩) hS.2.2 dX1_noLine_17
    · exact absurd c2 (by decide)
  · have qr1 : r1 = 1 := by rw [qr1, hix]; rfl
    subst qr1
    subst ex
    refine lv_if_eq (tgt := 13) hx hb dX1_noLine_6 (by decide) (fun c4 => ?_) (fun c4 => ?_)
    · exact absurd c4 (by decide)
    · refine lv_iconst (v := 0) hx hb dX1_noLine_9 (by decide) ?_
      refine lv_goto (tgt := 14) hx hb dX1_noLine_10 (by decide) ?_
      refine g_calliS (wf := fun u : Int32 => w1 h cA u M) (va_runV (As := [.int 0]) (rest := []) ⟨hx, hb, hml, hown, hts⟩ (c1_refused l D h cA rf M 0 s.heap.size) (cwV 1 hts gX1_noLine_X1_refused rfl rfl rfl (by decide +kernel) ⟨Nat.le_of_ble_eq_true rfl, Nat.le_of_ble_eq_true rfl⟩) ⟨pW_fb, va_recv hK hP (ci := 1) (q0 := 0) rfl rfl, pW_mk hP hK hD⟩ rfl rfl hl.1 rfl (lv_room (Nat.le_of_ble_eq_true rfl)) dX1_noLine_14 ⟨Nat.le_of_ble_eq_true rfl, Nat.le_of_ble_eq_true rfl⟩) hP hD hS hA (fun r5 ur5 H locs qr5 hP hD hS => ?_)
      obtain ⟨qr5, eur5⟩ := qr5
      have qr5 : r5 = 0 := qr5
      subst qr5
      have eur5 : ur5 = 0 := eur5
      subst eur5
      subst hQ
      exact W.zret (v := 0) (ty := .boolean) hx hb hr rfl (fun t ht hW => ⟨⟨0, 0, rfl, ⟨by rw [hix]; rfl, by rw [hix]; rfl⟩, by rw [ht]; exact hP, hD⟩, hS.F ht⟩) hS.2.2 dX1_noLine_17
set_option maxHeartbeats 4000000 in
set_option maxRecDepth 100000 in
theorem c1_told (l : Launch) (D : va_G) (h : Nat → Nat) (cA : ClassId) (rf : Int32) (M : MM) (hM : OK1 M) (x : Int32) (c9 : Nat) (f : FF) (hc9 : ∀ z : Int32, (w1 h cA z M)[c9]? = some (h c9, .inl (cA, 60, .inl f))) (sz : Nat) : Met l yX1_told wsX1_told ({ frames := 2, cells := 0, slots := 0, locals := 43 } : Room) (va_Pc [.ref (h 0), .int x, .ref (h c9)] (pW D [(cA, .int)] (w1 h cA rf M) sz)) (va_Qi (fun (r : Int32) (u : Int32) => (ixL (m_an M) x = none ∧ r = 0 ∧ u = 1) ∨ (∃ j : Nat, ixL (m_an M) x = some j ∧ r = f j ∧ u = 0)) (fun u => qW D (va_A (w1 h cA rf M) sz) (w1 h cA u M)) (va_A (w1 h cA rf M) sz)) 0 0 (va_A (w1 h cA rf M) sz) := by
  refine Met.ofW (cc := cX1_told) (maxL := 3) (ret := (some .int)) (by decide) rfl ?_
  intro p e s m args below meth c s₁ B hml hv
  obtain ⟨rfl, hsz, hP, hK, hD0⟩ := hv
  have hx := B.exec
  have hb := B.bytes
  have hr := B.returns
  have hts := atoms_spec (ws := wsX1_told) B.pre
  have hown : s.vm.findClass RX1 = some m.cls := findClass_of_methodNamed B.named
  have hlocks := B.notSynchronized
  subst hsz
  have hD := hD0.self (sz := s.heap.size)
  generalize hAe : va_A (w1 h cA rf M) s.heap.size = A at hD ⊢
  have hA : ∀ q : Nat, s.heap.size ≤ q → A q := fun q h => by rw [← hAe]; exact Or.inr h
  have hS : va_S A s.heap s.heap [] := va_S.rf
  have hP : va_P D vwCl (w1 h cA rf M) s.heap := hP
  obtain ⟨hn1, hn4⟩ := id hM
  have hl := lv_entry ([.ref (h 0), .int x, .ref (h c9)]) (n := 3) (Nat.le_of_ble_eq_true rfl)
  rw [lg_entry_eq]
  generalize (lg_sl ([.ref (h 0), .int x, .ref (h c9)]) ++ List.replicate (3 - (lg_sl ([.ref (h 0), .int x, .ref (h c9)])).length) Slot.unset).toArray = ls at hl ⊢
  have hl : lv_has ls 3 [(0, .ref (h 0)), (1, .int x), (2, .ref (h c9))] := hl
  refine w_abs (fun Q hQ => ?_)
  refine lv_aload_n hx hb dX1_told_0 rfl (lv_at hl 0 rfl) ?_
  refine lv_aload_n hx hb dX1_told_1 rfl (lv_at hl 0 rfl) ?_
  refine lv_iload_n hx hb dX1_told_2 rfl (lv_at hl 1 rfl) ?_
  refine vp_callSi (W.runV (As := [.int x]) (rest := [.ref (h 0)]) ⟨hx, hb, hml, hown, hts⟩ (c1_isApplication l D h cA rf M hM x) (cwV 1 hts gX1_told_X1_isApplication rfl rfl rfl (by decide +kernel) ⟨Nat.le_of_ble_eq_true rfl, Nat.le_of_ble_eq_true rfl⟩) ⟨pR_fb, va_recv hK hP (ci := 1) (q0 := 0) rfl rfl, pR_mk hP hK⟩ rfl rfl hl.1 rfl (lv_room (Nat.le_of_ble_eq_true rfl)) dX1_told_3 ⟨Nat.le_of_ble_eq_true rfl, Nat.le_of_ble_eq_true rfl⟩) (fun r1 qr1 => ?_)
  rcases ixL_c (n := m_an M) (x := x) (by omega) with hix | ⟨j, hj, ex, hix⟩
  · have qr1 : r1 = 0 := by rw [qr1, hix]; rfl
    subst qr1
    refine lv_if_eq (tgt := 13) hx hb dX1_told_6 (by decide) (fun c2 => ?_) (fun c2 => ?_)
    · refine lv_iconst (v := 1) hx hb dX1_told_13 (by decide) ?_
      refine g_calliS (wf := fun u : Int32 => w1 h cA u M) (va_runV (As := [.int 1]) (rest := []) ⟨hx, hb, hml, hown, hts⟩ (c1_refused l D h cA rf M 1 s.heap.size) (cwV 1 hts gX1_told_X1_refused rfl rfl rfl (by decide +kernel) ⟨Nat.le_of_ble_eq_true rfl, Nat.le_of_ble_eq_true rfl⟩) ⟨pW_fb, va_recv hK hP (ci := 1) (q0 := 0) rfl rfl, pW_mk hP hK hD⟩ rfl rfl hl.1 rfl (lv_room (Nat.le_of_ble_eq_true rfl)) dX1_told_14 ⟨Nat.le_of_ble_eq_true rfl, Nat.le_of_ble_eq_true rfl⟩) hP hD hS hA (fun r3 ur3 H locs qr3 hP hD hS => ?_)
      obtain ⟨qr3, eur3⟩ := qr3
      have qr3 : r3 = 1 := qr3
      subst qr3
      have eur3 : ur3 = 1 := eur3
      subst eur3
      refine lv_if_eq (tgt := 24) hx hb dX1_told_17 (by decide) (fun c4 => ?_) (fun c4 => ?_)
      · exact absurd c4 (by decide)
      · refine lv_iconst (v := 0) hx hb dX1_told_20 (by decide) ?_
        refine lv_goto (tgt := 27) hx hb dX1_told_21 (by decide) ?_
        subst hQ
        exact W.iret (v := 0) hx hb hr (fun t ht hW => ⟨⟨0, 1, rfl, (Or.inl ⟨hix, rfl, rfl⟩), by rw [ht]; exact hP, hD⟩, hS.F ht⟩) hS.2.2 dX1_told_27
    · exact absurd c2 (by decide)
  · have qr1 : r1 = 1 := by rw [qr1, hix]; rfl
    subst qr1
    subst ex
    refine lv_if_eq (tgt := 13) hx hb dX1_told_6 (by decide) (fun c5 => ?_) (fun c5 => ?_)
    · exact absurd c5 (by decide)
    · refine lv_iconst (v := 0) hx hb dX1_told_9 (by decide) ?_
      refine lv_goto (tgt := 14) hx hb dX1_told_10 (by decide) ?_
      refine g_calliS (wf := fun u : Int32 => w1 h cA u M) (va_runV (As := [.int 0]) (rest := []) ⟨hx, hb, hml, hown, hts⟩ (c1_refused l D h cA rf M 0 s.heap.size) (cwV 1 hts gX1_told_X1_refused rfl rfl rfl (by decide +kernel) ⟨Nat.le_of_ble_eq_true rfl, Nat.le_of_ble_eq_true rfl⟩) ⟨pW_fb, va_recv hK hP (ci := 1) (q0 := 0) rfl rfl, pW_mk hP hK hD⟩ rfl rfl hl.1 rfl (lv_room (Nat.le_of_ble_eq_true rfl)) dX1_told_14 ⟨Nat.le_of_ble_eq_true rfl, Nat.le_of_ble_eq_true rfl⟩) hP hD hS hA (fun r6 ur6 H locs qr6 hP hD hS => ?_)
      obtain ⟨qr6, eur6⟩ := qr6
      have qr6 : r6 = 0 := qr6
      subst qr6
      have eur6 : ur6 = 0 := eur6
      subst eur6
      refine lv_if_eq (tgt := 24) hx hb dX1_told_17 (by decide) (fun c7 => ?_) (fun c7 => ?_)
      · refine lv_aload_n hx hb dX1_told_24 rfl (lv_at hl 2 rfl) ?_
        refine lv_iload_n hx hb dX1_told_25 rfl (lv_at hl 1 rfl) ?_
        refine r_ald (f := f) (j := j) hx hb hK hP c9 0 (hc9 _) rfl (by omega) (by omega) dX1_told_26 ?_
        subst hQ
        exact W.iret (v := f j) hx hb hr (fun t ht hW => ⟨⟨f j, 0, rfl, (Or.inr ⟨j, hix, rfl, rfl⟩), by rw [ht]; exact hP, hD⟩, hS.F ht⟩) hS.2.2 dX1_told_27
      · exact absurd c7 (by decide)
set_option maxHeartbeats 4000000 in
set_option maxRecDepth 100000 in
theorem c1_put (l : Launch) (D : va_G) (h : Nat → Nat) (cA : ClassId) (rf : Int32) (M : MM) (j : Nat) (hj : j < 16) (v9 o9 w9 b9 h9 : Int32) (sz : Nat) : Met l yX1_put wsX1_put ({ frames := 0, cells := 0, slots := 0, locals := 0 } : Room) (va_Pc [.ref (h 0), .int (nI j), .int v9, .int o9, .int w9, .int b9, .int h9] (pW D [(cA, .int)] (w1 h cA rf M) sz)) (va_Qv (fun (u : MM) => u = z_put M j v9 o9 w9 b9 h9) (fun u => qW D (va_A (w1 h cA rf M) sz) (w1 h cA rf u)) (va_A (w1 h cA rf M) sz)) 0 0 (va_A (w1 h cA rf M) sz) := by
  refine Met.ofW (cc := cX1_put) (maxL := 7) (ret := none) (by decide) rfl ?_
  intro p e s m args below meth c s₁ B hml hv
  obtain ⟨rfl, hsz, hP, hK, hD0⟩ := hv
  have hx := B.exec
  have hb := B.bytes
  have hr := B.returns
  have hts := atoms_spec (ws := wsX1_put) B.pre
  have hown : s.vm.findClass RX1 = some m.cls := findClass_of_methodNamed B.named
  have hlocks := B.notSynchronized
  have kw0 := hts (.fieldLink RX1 7 "ProgressBillingModel" "values" "[I") (by decide +kernel)
  have kw1 := hts (.fieldLink RX1 13 "ProgressBillingModel" "earned" "[I") (by decide +kernel)
  have kw2 := hts (.fieldLink RX1 16 "ProgressBillingModel" "works" "[I") (by decide +kernel)
  have kw3 := hts (.fieldLink RX1 19 "ProgressBillingModel" "billed" "[I") (by decide +kernel)
  have kw4 := hts (.fieldLink RX1 22 "ProgressBillingModel" "held" "[I") (by decide +kernel)
  have hin0 : ∀ w ∈ u_ws RX1 TX1 14, w ∈ wsX1_put := by decide +kernel
  subst hsz
  have hD := hD0.self (sz := s.heap.size)
  generalize hAe : va_A (w1 h cA rf M) s.heap.size = A at hD ⊢
  have hA : ∀ q : Nat, s.heap.size ≤ q → A q := fun q h => by rw [← hAe]; exact Or.inr h
  have hS : va_S A s.heap s.heap [] := va_S.rf
  have hP : va_P D vwCl (w1 h cA rf M) s.heap := hP
  have hl := lv_entry ([.ref (h 0), .int (nI j), .int v9, .int o9, .int w9, .int b9, .int h9]) (n := 7) (Nat.le_of_ble_eq_true rfl)
  rw [lg_entry_eq]
  generalize (lg_sl ([.ref (h 0), .int (nI j), .int v9, .int o9, .int w9, .int b9, .int h9]) ++ List.replicate (7 - (lg_sl ([.ref (h 0), .int (nI j), .int v9, .int o9, .int w9, .int b9, .int h9])).length) Slot.unset).toArray = ls at hl ⊢
  have hl : lv_has ls 7 [(0, .ref (h 0)), (1, .int (nI j)), (2, .int v9), (3, .int o9), (4, .int w9), (5, .int b9), (6, .int h9)] := hl
  refine w_abs (fun Q hQ => ?_)
  refine lv_aload_n hx hb dX1_put_0 rfl (lv_at hl 0 rfl) ?_
  refine va_get (D := D) (ci := 1) (v := .ref (h 1)) (C := RX1) (T := TX1) (N := 14) hx hb hts hin0 hown hK hP 0 rfl rfl 2 (by decide) kw0 (fun _ h9 => h9) rfl dX1_put_1 ?_
  refine lv_iload_n hx hb dX1_put_4 rfl (lv_at hl 1 rfl) ?_
  refine lv_iload_n hx hb dX1_put_5 rfl (lv_at hl 2 rfl) ?_
  refine r_ast (f := m_lv M) (j := j) (v := v9) hx hb hK hP hD hS 1 0 rfl rfl (by omega) (by omega) dX1_put_6 (fun H locs hP hD hS => ?_)
  obtain ⟨N1, eN1⟩ : ∃ N : MM, N = s_lv M (upd (m_lv M) j v9) := ⟨_, rfl⟩
  rw [q1_lv, ← eN1] at hP hD
  have aN1_lv : m_lv N1 = upd (m_lv M) j v9 := by rw [eN1]; rfl
  have aN1_le : m_le N1 = m_le M := by rw [eN1]; rfl
  have aN1_lw : m_lw N1 = m_lw M := by rw [eN1]; rfl
  have aN1_lb : m_lb N1 = m_lb M := by rw [eN1]; rfl
  have aN1_lh : m_lh N1 = m_lh M := by rw [eN1]; rfl
  have aN1_ln : m_ln N1 = m_ln M := by rw [eN1]; rfl
  have aN1_st : m_st N1 = m_st M := by rw [eN1]; rfl
  have aN1_sr : m_sr N1 = m_sr M := by rw [eN1]; rfl
  have aN1_sn : m_sn N1 = m_sn M := by rw [eN1]; rfl
  have aN1_rt : m_rt N1 = m_rt M := by rw [eN1]; rfl
  have aN1_hb : m_hb N1 = m_hb M := by rw [eN1]; rfl
  have aN1_as : m_as N1 = m_as M := by rw [eN1]; rfl
  have aN1_aa : m_aa N1 = m_aa M := by rw [eN1]; rfl
  have aN1_ab : m_ab N1 = m_ab M := by rw [eN1]; rfl
  have aN1_ah : m_ah N1 = m_ah M := by rw [eN1]; rfl
  have aN1_an : m_an N1 = m_an M := by rw [eN1]; rfl
  refine lv_aload_n hx hb dX1_put_7 rfl (lv_at hl 0 rfl) ?_
  refine va_get (D := D) (ci := 1) (v := .ref (h 2)) (C := RX1) (T := TX1) (N := 14) hx hb hts hin0 hown hK hP 0 rfl rfl 3 (by decide) kw1 (fun _ h9 => h9) rfl dX1_put_8 ?_
  refine lv_iload_n hx hb dX1_put_11 rfl (lv_at hl 1 rfl) ?_
  refine lv_iload_n hx hb dX1_put_12 rfl (lv_at hl 3 rfl) ?_
  refine r_ast (f := m_le N1) (j := j) (v := o9) hx hb hK hP hD hS 2 0 rfl rfl (by omega) (by omega) dX1_put_13 (fun H locs hP hD hS => ?_)
  rw [aN1_le] at hP hD
  obtain ⟨N3, eN3⟩ : ∃ N : MM, N = s_le N1 (upd (m_le M) j o9) := ⟨_, rfl⟩
  rw [q1_le, ← eN3] at hP hD
  have aN3_lv : m_lv N3 = upd (m_lv M) j v9 := by rw [eN3]; exact aN1_lv
  have aN3_le : m_le N3 = upd (m_le M) j o9 := by rw [eN3]; rfl
  have aN3_lw : m_lw N3 = m_lw M := by rw [eN3]; exact aN1_lw
  have aN3_lb : m_lb N3 = m_lb M := by rw [eN3]; exact aN1_lb
  have aN3_lh : m_lh N3 = m_lh M := by rw [eN3]; exact aN1_lh
  have aN3_ln : m_ln N3 = m_ln M := by rw [eN3]; exact aN1_ln
  have aN3_st : m_st N3 = m_st M := by rw [eN3]; exact aN1_st
  have aN3_sr : m_sr N3 = m_sr M := by rw [eN3]; exact aN1_sr
  have aN3_sn : m_sn N3 = m_sn M := by rw [eN3]; exact aN1_sn
  have aN3_rt : m_rt N3 = m_rt M := by rw [eN3]; exact aN1_rt
  have aN3_hb : m_hb N3 = m_hb M := by rw [eN3]; exact aN1_hb
  have aN3_as : m_as N3 = m_as M := by rw [eN3]; exact aN1_as
  have aN3_aa : m_aa N3 = m_aa M := by rw [eN3]; exact aN1_aa
  have aN3_ab : m_ab N3 = m_ab M := by rw [eN3]; exact aN1_ab
  have aN3_ah : m_ah N3 = m_ah M := by rw [eN3]; exact aN1_ah
  have aN3_an : m_an N3 = m_an M := by rw [eN3]; exact aN1_an
  refine lv_aload_n hx hb dX1_put_14 rfl (lv_at hl 0 rfl) ?_
  refine va_get (D := D) (ci := 1) (v := .ref (h 3)) (C := RX1) (T := TX1) (N := 14) hx hb hts hin0 hown hK hP 0 rfl rfl 4 (by decide) kw2 (fun _ h9 => h9) rfl dX1_put_15 ?_
  refine lv_iload_n hx hb dX1_put_18 rfl (lv_at hl 1 rfl) ?_
  refine lv_iload hx hb dX1_put_19 (lv_at hl 4 rfl) ?_
  refine r_ast (f := m_lw N3) (j := j) (v := w9) hx hb hK hP hD hS 3 0 rfl rfl (by omega) (by omega) dX1_put_21 (fun H locs hP hD hS => ?_)
  rw [aN3_lw] at hP hD
  obtain ⟨N5, eN5⟩ : ∃ N : MM, N = s_lw N3 (upd (m_lw M) j w9) := ⟨_, rfl⟩
  rw [q1_lw, ← eN5] at hP hD
  have aN5_lv : m_lv N5 = upd (m_lv M) j v9 := by rw [eN5]; exact aN3_lv
  have aN5_le : m_le N5 = upd (m_le M) j o9 := by rw [eN5]; exact aN3_le
  have aN5_lw : m_lw N5 = upd (m_lw M) j w9 := by rw [eN5]; rfl
  have aN5_lb : m_lb N5 = m_lb M := by rw [eN5]; exact aN3_lb
  have aN5_lh : m_lh N5 = m_lh M := by rw [eN5]; exact aN3_lh
  have aN5_ln : m_ln N5 = m_ln M := by rw [eN5]; exact aN3_ln
  have aN5_st : m_st N5 = m_st M := by rw [eN5]; exact aN3_st
  have aN5_sr : m_sr N5 = m_sr M := by rw [eN5]; exact aN3_sr
  have aN5_sn : m_sn N5 = m_sn M := by rw [eN5]; exact aN3_sn
  have aN5_rt : m_rt N5 = m_rt M := by rw [eN5]; exact aN3_rt
  have aN5_hb : m_hb N5 = m_hb M := by rw [eN5]; exact aN3_hb
  have aN5_as : m_as N5 = m_as M := by rw [eN5]; exact aN3_as
  have aN5_aa : m_aa N5 = m_aa M := by rw [eN5]; exact aN3_aa
  have aN5_ab : m_ab N5 = m_ab M := by rw [eN5]; exact aN3_ab
  have aN5_ah : m_ah N5 = m_ah M := by rw [eN5]; exact aN3_ah
  have aN5_an : m_an N5 = m_an M := by rw [eN5]; exact aN3_an
  refine lv_aload_n hx hb dX1_put_22 rfl (lv_at hl 0 rfl) ?_
  refine va_get (D := D) (ci := 1) (v := .ref (h 4)) (C := RX1) (T := TX1) (N := 14) hx hb hts hin0 hown hK hP 0 rfl rfl 5 (by decide) kw3 (fun _ h9 => h9) rfl dX1_put_23 ?_
  refine lv_iload_n hx hb dX1_put_26 rfl (lv_at hl 1 rfl) ?_
  refine lv_iload hx hb dX1_put_27 (lv_at hl 5 rfl) ?_
  refine r_ast (f := m_lb N5) (j := j) (v := b9) hx hb hK hP hD hS 4 0 rfl rfl (by omega) (by omega) dX1_put_29 (fun H locs hP hD hS => ?_)
  rw [aN5_lb] at hP hD
  obtain ⟨N7, eN7⟩ : ∃ N : MM, N = s_lb N5 (upd (m_lb M) j b9) := ⟨_, rfl⟩
  rw [q1_lb, ← eN7] at hP hD
  have aN7_lv : m_lv N7 = upd (m_lv M) j v9 := by rw [eN7]; exact aN5_lv
  have aN7_le : m_le N7 = upd (m_le M) j o9 := by rw [eN7]; exact aN5_le
  have aN7_lw : m_lw N7 = upd (m_lw M) j w9 := by rw [eN7]; exact aN5_lw
  have aN7_lb : m_lb N7 = upd (m_lb M) j b9 := by rw [eN7]; rfl
  have aN7_lh : m_lh N7 = m_lh M := by rw [eN7]; exact aN5_lh
  have aN7_ln : m_ln N7 = m_ln M := by rw [eN7]; exact aN5_ln
  have aN7_st : m_st N7 = m_st M := by rw [eN7]; exact aN5_st
  have aN7_sr : m_sr N7 = m_sr M := by rw [eN7]; exact aN5_sr
  have aN7_sn : m_sn N7 = m_sn M := by rw [eN7]; exact aN5_sn
  have aN7_rt : m_rt N7 = m_rt M := by rw [eN7]; exact aN5_rt
  have aN7_hb : m_hb N7 = m_hb M := by rw [eN7]; exact aN5_hb
  have aN7_as : m_as N7 = m_as M := by rw [eN7]; exact aN5_as
  have aN7_aa : m_aa N7 = m_aa M := by rw [eN7]; exact aN5_aa
  have aN7_ab : m_ab N7 = m_ab M := by rw [eN7]; exact aN5_ab
  have aN7_ah : m_ah N7 = m_ah M := by rw [eN7]; exact aN5_ah
  have aN7_an : m_an N7 = m_an M := by rw [eN7]; exact aN5_an
  refine lv_aload_n hx hb dX1_put_30 rfl (lv_at hl 0 rfl) ?_
  refine va_get (D := D) (ci := 1) (v := .ref (h 5)) (C := RX1) (T := TX1) (N := 14) hx hb hts hin0 hown hK hP 0 rfl rfl 6 (by decide) kw4 (fun _ h9 => h9) rfl dX1_put_31 ?_
  refine lv_iload_n hx hb dX1_put_34 rfl (lv_at hl 1 rfl) ?_
  refine lv_iload hx hb dX1_put_35 (lv_at hl 6 rfl) ?_
  refine r_ast (f := m_lh N7) (j := j) (v := h9) hx hb hK hP hD hS 5 0 rfl rfl (by omega) (by omega) dX1_put_37 (fun H locs hP hD hS => ?_)
  rw [aN7_lh] at hP hD
  obtain ⟨N9, eN9⟩ : ∃ N : MM, N = s_lh N7 (upd (m_lh M) j h9) := ⟨_, rfl⟩
  rw [q1_lh, ← eN9] at hP hD
  have aN9_lv : m_lv N9 = upd (m_lv M) j v9 := by rw [eN9]; exact aN7_lv
  have aN9_le : m_le N9 = upd (m_le M) j o9 := by rw [eN9]; exact aN7_le
  have aN9_lw : m_lw N9 = upd (m_lw M) j w9 := by rw [eN9]; exact aN7_lw
  have aN9_lb : m_lb N9 = upd (m_lb M) j b9 := by rw [eN9]; exact aN7_lb
  have aN9_lh : m_lh N9 = upd (m_lh M) j h9 := by rw [eN9]; rfl
  have aN9_ln : m_ln N9 = m_ln M := by rw [eN9]; exact aN7_ln
  have aN9_st : m_st N9 = m_st M := by rw [eN9]; exact aN7_st
  have aN9_sr : m_sr N9 = m_sr M := by rw [eN9]; exact aN7_sr
  have aN9_sn : m_sn N9 = m_sn M := by rw [eN9]; exact aN7_sn
  have aN9_rt : m_rt N9 = m_rt M := by rw [eN9]; exact aN7_rt
  have aN9_hb : m_hb N9 = m_hb M := by rw [eN9]; exact aN7_hb
  have aN9_as : m_as N9 = m_as M := by rw [eN9]; exact aN7_as
  have aN9_aa : m_aa N9 = m_aa M := by rw [eN9]; exact aN7_aa
  have aN9_ab : m_ab N9 = m_ab M := by rw [eN9]; exact aN7_ab
  have aN9_ah : m_ah N9 = m_ah M := by rw [eN9]; exact aN7_ah
  have aN9_an : m_an N9 = m_an M := by rw [eN9]; exact aN7_an
  subst hQ
  exact W.vret hx hb hr (fun t ht hW => ⟨⟨N9, rfl, (by rw [mk_eta N9, aN9_lv, aN9_le, aN9_lw, aN9_lb, aN9_lh, aN9_ln, aN9_st, aN9_sr, aN9_sn, aN9_rt, aN9_hb, aN9_as, aN9_aa, aN9_ab, aN9_ah, aN9_an]; rfl), by rw [ht]; exact hP, hD⟩, hS.F ht⟩) hS.2.2 dX1_put_38
end
