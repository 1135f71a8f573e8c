section
-- ===== PART A: goes FIRST, ahead of the names: the tables' words, and 'selects' of the private methods out of them =====
/-- a private method of a class that the tables say can be made, by its rows of tables_1 -/
def lw_okq (q : MethodName × Nat) : Prop := (q.1.cls ≠ "java/lang/invoke/MethodHandle" ∧ q.1.cls ≠ "java/lang/invoke/VarHandle") ∧ Cond.instantiable q.1.cls q.2 ∈ tables_1 ∧ Cond.privateMethod q.1 ∈ tables_1 ∧ Cond.instanceMethod q.1 ∈ tables_1
theorem lw_p0 : lw_okq (⟨"ProgressBilling", "heldIfClosed", "(II)I"⟩, 15) := ⟨⟨by decide +kernel, by decide +kernel⟩, List.mem_of_getElem? (i := 11) (by decide +kernel), List.mem_of_getElem? (i := 101) (by decide +kernel), List.mem_of_getElem? (i := 102) (by decide +kernel)⟩
theorem lw_p1 : lw_okq (⟨"java/lang/Throwable", "fillInStackTrace", "(I)Ljava/lang/Throwable;"⟩, 6) := ⟨⟨by decide +kernel, by decide +kernel⟩, List.mem_of_getElem? (i := 179) (by decide +kernel), List.mem_of_getElem? (i := 177) (by decide +kernel), List.mem_of_getElem? (i := 178) (by decide +kernel)⟩
theorem lw_p2 : lw_okq (⟨"ProgressBilling", "requireRoomForLine", "()V"⟩, 15) := ⟨⟨by decide +kernel, by decide +kernel⟩, List.mem_of_getElem? (i := 11) (by decide +kernel), List.mem_of_getElem? (i := 209) (by decide +kernel), List.mem_of_getElem? (i := 210) (by decide +kernel)⟩
theorem lw_p3 : lw_okq (⟨"ProgressBilling", "requireLine", "(I)V"⟩, 15) := ⟨⟨by decide +kernel, by decide +kernel⟩, List.mem_of_getElem? (i := 11) (by decide +kernel), List.mem_of_getElem? (i := 237) (by decide +kernel), List.mem_of_getElem? (i := 238) (by decide +kernel)⟩
theorem lw_p4 : lw_okq (⟨"ProgressBilling", "requireValueFor", "(II)V"⟩, 15) := ⟨⟨by decide +kernel, by decide +kernel⟩, List.mem_of_getElem? (i := 11) (by decide +kernel), List.mem_of_getElem? (i := 276) (by decide +kernel), List.mem_of_getElem? (i := 277) (by decide +kernel)⟩
theorem lw_p5 : lw_okq (⟨"ProgressBilling", "stepWith", "(I)I"⟩, 15) := ⟨⟨by decide +kernel, by decide +kernel⟩, List.mem_of_getElem? (i := 11) (by decide +kernel), List.mem_of_getElem? (i := 303) (by decide +kernel), List.mem_of_getElem? (i := 304) (by decide +kernel)⟩
theorem lw_p6 : lw_okq (⟨"ProgressBilling", "addStep", "(II)V"⟩, 15) := ⟨⟨by decide +kernel, by decide +kernel⟩, List.mem_of_getElem? (i := 11) (by decide +kernel), List.mem_of_getElem? (i := 307) (by decide +kernel), List.mem_of_getElem? (i := 308) (by decide +kernel)⟩
theorem lw_p7 : lw_okq (⟨"ProgressBilling", "billLines", "()V"⟩, 15) := ⟨⟨by decide +kernel, by decide +kernel⟩, List.mem_of_getElem? (i := 11) (by decide +kernel), List.mem_of_getElem? (i := 330) (by decide +kernel), List.mem_of_getElem? (i := 331) (by decide +kernel)⟩
theorem lw_p8 : lw_okq (⟨"ProgressBilling", "requireApplication", "(I)V"⟩, 15) := ⟨⟨by decide +kernel, by decide +kernel⟩, List.mem_of_getElem? (i := 11) (by decide +kernel), List.mem_of_getElem? (i := 341) (by decide +kernel), List.mem_of_getElem? (i := 342) (by decide +kernel)⟩
theorem lw_p9 : lw_okq (⟨"ProgressBilling", "waiversGiven", "()I"⟩, 15) := ⟨⟨by decide +kernel, by decide +kernel⟩, List.mem_of_getElem? (i := 11) (by decide +kernel), List.mem_of_getElem? (i := 347) (by decide +kernel), List.mem_of_getElem? (i := 348) (by decide +kernel)⟩
theorem lw_p10 : lw_okq (⟨"ProgressBilling", "placeByShare", "(I)I"⟩, 15) := ⟨⟨by decide +kernel, by decide +kernel⟩, List.mem_of_getElem? (i := 11) (by decide +kernel), List.mem_of_getElem? (i := 430) (by decide +kernel), List.mem_of_getElem? (i := 431) (by decide +kernel)⟩
theorem lw_p11 : lw_okq (⟨"ProgressBilling", "isAhead", "(II)Z"⟩, 15) := ⟨⟨by decide +kernel, by decide +kernel⟩, List.mem_of_getElem? (i := 11) (by decide +kernel), List.mem_of_getElem? (i := 434) (by decide +kernel), List.mem_of_getElem? (i := 435) (by decide +kernel)⟩
theorem lw_p12 : lw_okq (⟨"ProgressBilling", "shareDivisor", "(I)I"⟩, 15) := ⟨⟨by decide +kernel, by decide +kernel⟩, List.mem_of_getElem? (i := 11) (by decide +kernel), List.mem_of_getElem? (i := 438) (by decide +kernel), List.mem_of_getElem? (i := 439) (by decide +kernel)⟩
theorem lw_p13 : lw_okq (⟨"ProgressBillingModel", "refused", "(I)Z"⟩, 14) := ⟨⟨by decide +kernel, by decide +kernel⟩, List.mem_of_getElem? (i := 445) (by decide +kernel), List.mem_of_getElem? (i := 506) (by decide +kernel), List.mem_of_getElem? (i := 507) (by decide +kernel)⟩
theorem lw_p14 : lw_okq (⟨"ProgressBillingModel", "put", "(IIIIII)V"⟩, 14) := ⟨⟨by decide +kernel, by decide +kernel⟩, List.mem_of_getElem? (i := 445) (by decide +kernel), List.mem_of_getElem? (i := 510) (by decide +kernel), List.mem_of_getElem? (i := 511) (by decide +kernel)⟩
theorem lw_p15 : lw_okq (⟨"ProgressBillingModel", "isLine", "(I)Z"⟩, 14) := ⟨⟨by decide +kernel, by decide +kernel⟩, List.mem_of_getElem? (i := 445) (by decide +kernel), List.mem_of_getElem? (i := 518) (by decide +kernel), List.mem_of_getElem? (i := 519) (by decide +kernel)⟩
def lw_privs_1 : List (MethodName × Nat) := [(⟨"ProgressBilling", "heldIfClosed", "(II)I"⟩, 15), (⟨"java/lang/Throwable", "fillInStackTrace", "(I)Ljava/lang/Throwable;"⟩, 6), (⟨"ProgressBilling", "requireRoomForLine", "()V"⟩, 15), (⟨"ProgressBilling", "requireLine", "(I)V"⟩, 15), (⟨"ProgressBilling", "requireValueFor", "(II)V"⟩, 15), (⟨"ProgressBilling", "stepWith", "(I)I"⟩, 15), (⟨"ProgressBilling", "addStep", "(II)V"⟩, 15), (⟨"ProgressBilling", "billLines", "()V"⟩, 15), (⟨"ProgressBilling", "requireApplication", "(I)V"⟩, 15), (⟨"ProgressBilling", "waiversGiven", "()I"⟩, 15), (⟨"ProgressBilling", "placeByShare", "(I)I"⟩, 15), (⟨"ProgressBilling", "isAhead", "(II)Z"⟩, 15), (⟨"ProgressBilling", "shareDivisor", "(I)I"⟩, 15), (⟨"ProgressBillingModel", "refused", "(I)Z"⟩, 14), (⟨"ProgressBillingModel", "put", "(IIIIII)V"⟩, 14), (⟨"ProgressBillingModel", "isLine", "(I)Z"⟩, 14)]
theorem lw_r1 : ∀ q ∈ lw_privs_1, lw_okq q := List.forall_mem_cons.mpr ⟨lw_p0, List.forall_mem_cons.mpr ⟨lw_p1, List.forall_mem_cons.mpr ⟨lw_p2, List.forall_mem_cons.mpr ⟨lw_p3, List.forall_mem_cons.mpr ⟨lw_p4, List.forall_mem_cons.mpr ⟨lw_p5, List.forall_mem_cons.mpr ⟨lw_p6, List.forall_mem_cons.mpr ⟨lw_p7, List.forall_mem_cons.mpr ⟨lw_p8, List.forall_mem_cons.mpr ⟨lw_p9, List.forall_mem_cons.mpr ⟨lw_p10, List.forall_mem_cons.mpr ⟨lw_p11, List.forall_mem_cons.mpr ⟨lw_p12, List.forall_mem_cons.mpr ⟨lw_p13, List.forall_mem_cons.mpr ⟨lw_p14, List.forall_mem_cons.mpr ⟨lw_p15, fun _ h => absurd h List.not_mem_nil⟩⟩⟩⟩⟩⟩⟩⟩⟩⟩⟩⟩⟩⟩⟩⟩
theorem lw_p16 : lw_okq (⟨"ProgressBillingModel", "countSteps", "()I"⟩, 14) := ⟨⟨by decide +kernel, by decide +kernel⟩, List.mem_of_getElem? (i := 445) (by decide +kernel), List.mem_of_getElem? (i := 550) (by decide +kernel), List.mem_of_getElem? (i := 551) (by decide +kernel)⟩
theorem lw_p17 : lw_okq (⟨"ProgressBillingModel", "fine", "(I)I"⟩, 14) := ⟨⟨by decide +kernel, by decide +kernel⟩, List.mem_of_getElem? (i := 445) (by decide +kernel), List.mem_of_getElem? (i := 566) (by decide +kernel), List.mem_of_getElem? (i := 567) (by decide +kernel)⟩
theorem lw_p18 : lw_okq (⟨"ProgressBillingModel", "reached", "()I"⟩, 14) := ⟨⟨by decide +kernel, by decide +kernel⟩, List.mem_of_getElem? (i := 445) (by decide +kernel), List.mem_of_getElem? (i := 574) (by decide +kernel), List.mem_of_getElem? (i := 575) (by decide +kernel)⟩
theorem lw_p19 : lw_okq (⟨"ProgressBillingModel", "sum", "([I)I"⟩, 14) := ⟨⟨by decide +kernel, by decide +kernel⟩, List.mem_of_getElem? (i := 445) (by decide +kernel), List.mem_of_getElem? (i := 578) (by decide +kernel), List.mem_of_getElem? (i := 579) (by decide +kernel)⟩
theorem lw_p20 : lw_okq (⟨"ProgressBillingModel", "rateNow", "()I"⟩, 14) := ⟨⟨by decide +kernel, by decide +kernel⟩, List.mem_of_getElem? (i := 445) (by decide +kernel), List.mem_of_getElem? (i := 586) (by decide +kernel), List.mem_of_getElem? (i := 587) (by decide +kernel)⟩
theorem lw_p21 : lw_okq (⟨"ProgressBillingModel", "amountNow", "()I"⟩, 14) := ⟨⟨by decide +kernel, by decide +kernel⟩, List.mem_of_getElem? (i := 445) (by decide +kernel), List.mem_of_getElem? (i := 594) (by decide +kernel), List.mem_of_getElem? (i := 595) (by decide +kernel)⟩
theorem lw_p22 : lw_okq (⟨"ProgressBillingModel", "holdsThen", "(I)I"⟩, 14) := ⟨⟨by decide +kernel, by decide +kernel⟩, List.mem_of_getElem? (i := 445) (by decide +kernel), List.mem_of_getElem? (i := 598) (by decide +kernel), List.mem_of_getElem? (i := 599) (by decide +kernel)⟩
theorem lw_p23 : lw_okq (⟨"ProgressBillingModel", "isApplication", "(I)Z"⟩, 14) := ⟨⟨by decide +kernel, by decide +kernel⟩, List.mem_of_getElem? (i := 445) (by decide +kernel), List.mem_of_getElem? (i := 610) (by decide +kernel), List.mem_of_getElem? (i := 611) (by decide +kernel)⟩
theorem lw_p24 : lw_okq (⟨"ProgressBillingModel", "waived", "()I"⟩, 14) := ⟨⟨by decide +kernel, by decide +kernel⟩, List.mem_of_getElem? (i := 445) (by decide +kernel), List.mem_of_getElem? (i := 614) (by decide +kernel), List.mem_of_getElem? (i := 615) (by decide +kernel)⟩
theorem lw_p25 : lw_okq (⟨"ProgressBillingModel", "told", "(I[I)I"⟩, 14) := ⟨⟨by decide +kernel, by decide +kernel⟩, List.mem_of_getElem? (i := 445) (by decide +kernel), List.mem_of_getElem? (i := 630) (by decide +kernel), List.mem_of_getElem? (i := 631) (by decide +kernel)⟩
theorem lw_p26 : lw_okq (⟨"ProgressBillingModel", "noLine", "(I)Z"⟩, 14) := ⟨⟨by decide +kernel, by decide +kernel⟩, List.mem_of_getElem? (i := 445) (by decide +kernel), List.mem_of_getElem? (i := 654) (by decide +kernel), List.mem_of_getElem? (i := 655) (by decide +kernel)⟩
theorem lw_p27 : lw_okq (⟨"ProgressBillingModel", "isAhead", "(II)Z"⟩, 14) := ⟨⟨by decide +kernel, by decide +kernel⟩, List.mem_of_getElem? (i := 445) (by decide +kernel), List.mem_of_getElem? (i := 678) (by decide +kernel), List.mem_of_getElem? (i := 679) (by decide +kernel)⟩
theorem lw_p28 : lw_okq (⟨"ProgressBillingModel", "sumPaid", "()I"⟩, 14) := ⟨⟨by decide +kernel, by decide +kernel⟩, List.mem_of_getElem? (i := 445) (by decide +kernel), List.mem_of_getElem? (i := 690) (by decide +kernel), List.mem_of_getElem? (i := 691) (by decide +kernel)⟩
def lw_privs_2 : List (MethodName × Nat) := [(⟨"ProgressBillingModel", "countSteps", "()I"⟩, 14), (⟨"ProgressBillingModel", "fine", "(I)I"⟩, 14), (⟨"ProgressBillingModel", "reached", "()I"⟩, 14), (⟨"ProgressBillingModel", "sum", "([I)I"⟩, 14), (⟨"ProgressBillingModel", "rateNow", "()I"⟩, 14), (⟨"ProgressBillingModel", "amountNow", "()I"⟩, 14), (⟨"ProgressBillingModel", "holdsThen", "(I)I"⟩, 14), (⟨"ProgressBillingModel", "isApplication", "(I)Z"⟩, 14), (⟨"ProgressBillingModel", "waived", "()I"⟩, 14), (⟨"ProgressBillingModel", "told", "(I[I)I"⟩, 14), (⟨"ProgressBillingModel", "noLine", "(I)Z"⟩, 14), (⟨"ProgressBillingModel", "isAhead", "(II)Z"⟩, 14), (⟨"ProgressBillingModel", "sumPaid", "()I"⟩, 14)]
theorem lw_r2 : ∀ q ∈ lw_privs_2, lw_okq q := List.forall_mem_cons.mpr ⟨lw_p16, List.forall_mem_cons.mpr ⟨lw_p17, List.forall_mem_cons.mpr ⟨lw_p18, List.forall_mem_cons.mpr ⟨lw_p19, List.forall_mem_cons.mpr ⟨lw_p20, List.forall_mem_cons.mpr ⟨lw_p21, List.forall_mem_cons.mpr ⟨lw_p22, List.forall_mem_cons.mpr ⟨lw_p23, List.forall_mem_cons.mpr ⟨lw_p24, List.forall_mem_cons.mpr ⟨lw_p25, List.forall_mem_cons.mpr ⟨lw_p26, List.forall_mem_cons.mpr ⟨lw_p27, List.forall_mem_cons.mpr ⟨lw_p28, fun _ h => absurd h List.not_mem_nil⟩⟩⟩⟩⟩⟩⟩⟩⟩⟩⟩⟩⟩
def lw_privs : List (MethodName × Nat) := lw_privs_1 ++ (lw_privs_2)
def lw_tbl : List Cond := k2_sels lw_privs ++ tables_1
theorem lw_privs_ok : ∀ q ∈ lw_privs, lw_okq q := by
  show ∀ q ∈ lw_privs_1 ++ (lw_privs_2), lw_okq q
  exact List.forall_mem_append.mpr ⟨lw_r1, lw_r2⟩
/-! ===== BEGIN words of one list among another's, by their places ===== -/
theorem goodIn_r {big : List Cond} (ws : List Cond) (ps : List Nat) (hp : ws = ps.filterMap (fun i => big[i]?)) (h : ws.all goodWord = true) : GoodIn big ws := by
  intro w hw
  have h1 := List.all_eq_true.mp h w hw
  rw [hp] at hw
  obtain ⟨i, -, hi⟩ := List.mem_filterMap.mp hw
  have hm : w ∈ big := by first | exact List.mem_of_getElem? hi | exact List.getElem?_mem hi
  exact ⟨hm, good_of_word h1⟩
theorem goodIn_app {big a b : List Cond} (ha : GoodIn big a) (hb : GoodIn big b) : GoodIn big (a ++ b) := fun w h => (List.mem_append.mp h).elim (ha w) (hb w)
theorem goodIn_ca {big a b : List Cond} {c : Cond} (ha : GoodIn big (c :: a)) (hb : GoodIn big b) : GoodIn big (c :: (a ++ b)) := fun w h => (List.mem_cons.mp h).elim (fun e => ha w (List.mem_cons.mpr (Or.inl e))) (fun h => (List.mem_append.mp h).elim (fun h => ha w (List.mem_cons.mpr (Or.inr h))) (hb w))
theorem goodIn_sub {big ws : List Cond} (hm : ∀ w ∈ ws, w ∈ big) (h : ws.all goodWord = true) : GoodIn big ws := fun w hw => ⟨hm w hw, good_of_word (List.all_eq_true.mp h w hw)⟩
/-! ===== END ===== -/

/-! ===== BEGIN exceptions that leave a method, and their catching by the caller (launches without stack traces) ===== -/
section VXA
/-! The laws vx_back, vx_callV, vx_callS, vx_callSW, vx_throw0, vx_throwS follow proofs of the library, with one case more: JvmDerived/Free/Laws.lean (Back.of_free), Shelf42/LK1.lean (callV, callS), Shelf/KitTraced.lean (throwNew0V, throwNewS). -/
/-- where a method has thrown q: the class by its name, the cell, what was written, the world -/
def vx_T (XC : String → State → State → Prop) (st : State) (q : Addr) (t : State) (mc ms : Nat) (free : Addr → Prop) : Prop :=
  ∃ (E : String) (ce : Cell) (L : List Loc), XC E st t ∧ t.heap[q]? = some ce ∧ ce.vm = .none ∧ st.vm.findClass E = some ce.cls ∧ st.WarmedH t.vm ∧ st.sameButNew ({ t with vm := st.vm } : State) L mc ms ∧ ∀ z ∈ L, free z.base
def vx_Q (Qc : Array Value → State → Outcome → State → Prop) (XC : String → State → State → Prop) (mc ms : Nat) (free : Addr → Prop) : Array Value → State → Outcome → State → Prop := fun a st o t =>
  (Qc a st o t ∧ ∃ L, FrameEnd st o t L mc ms ∧ ∀ q ∈ L, free q.base) ∨ ∃ q, o = .threw q ∧ vx_T XC st q t mc ms free
/-- a callee that returns or throws -/
def vx_Met (l : Launch) (y : MethodName) (ws : List Cond) (rm : Room) (Pc : Array Value → State → Prop) (Qc : Array Value → State → Outcome → State → Prop) (XC : String → State → State → Prop) (mc ms : Nat) (free : Addr → Prop) : Prop :=
  MetFree l y (headSpec ws rm) Pc (fun _ _ _ _ _ => True) (vx_Q Qc XC mc ms free)
def vx_Post (XC : String → State → State → Prop) (mc ms : Nat) (free : Addr → Prop) : Pt → Array Value → Addr → Pt → Prop := fun A a q B =>
  ∃ (g : JFrame) (mk : MethodId) (t : State) (L : List Loc) (E : String) (ce : Cell), B.U.heap = t.heap ∧ B.U.vm = t.vm ∧ XC E (A.U.calling g mk a) t ∧ t.heap[q]? = some ce ∧ ce.vm = .none ∧ A.U.vm.findClass E = some ce.cls ∧ B.locs = A.locs ++ L ∧ (∀ z ∈ L, free z.base) ∧ B.cells = A.cells + mc ∧ B.slots = A.slots + ms
def vx_Back (l : Launch) (R : Room) (p : Program) (e : Env) (below : List Frame) (s : State) (sargs : Array Value) (y : MethodName) (len W9 : Nat)
    (Pre : Pt → Array Value → Prop) (Post : Pt → Array Value → Option Value → Pt → Prop) (PostX : Pt → Array Value → Addr → Pt → Prop) : Prop :=
  ∀ (m : MethodId) (meth : Method) (c : Code) (A : Pt) (g : JFrame) (ig : Instr) (mk : MethodId) (a : Array Value),
    Stand p l e R s m sargs below meth c A.U A.locs A.cells A.slots → g.method = m → g.locals.size = c.maxLocals → decode c.code g.pc = .ok (ig, len) →
    2 * g.monitorRoom + (g.stack.map fun v => v.category).sum ≤ W9 → A.U.methodNamed? y = some mk → Pre A a →
    (∃ (v : Option Value) (B : Pt), Stand p l e R s m sargs below meth c B.U B.locs B.cells B.slots ∧ Post A a v B ∧
      Steps p.tables e below (doInvoke e (A.U.setTop g) [] mk a).1 (B.U.setTop { g with pc := g.pc + len, stack := v.toList ++ g.stack })) ∨
    (∃ (q : Addr) (B : Pt), Stand p l e R s m sargs below meth c B.U B.locs B.cells B.slots ∧ PostX A a q B ∧
      Steps p.tables e below (doInvoke e (A.U.setTop g) [] mk a).1 ((B.U.setTop g).pushFrame (.throwing q)))
section Payer
variable {l : Launch} {R : Room} {p : Program} {e : Env} {below : List Frame} {s : State} {sargs : Array Value} {y : MethodName} {len W9 : Nat}
theorem vx_back {ws : List Cond} {rm : Room} {Pc : Array Value → State → Prop} {Qc : Array Value → State → Outcome → State → Prop} {XC : String → State → State → Prop} {mc ms : Nat} {free : Addr → Prop} {bytes : ByteArray} {maxL : Nat} {ret : Option FieldType}
    (hM : vx_Met l y ws rm Pc Qc XC mc ms free) (hblind : FrameBlind Pc) (hrc : rm.cells = mc) (hrs : rm.slots = ms)
    (hframes : rm.frames + 1 ≤ R.frames) (hlocals : W9 + (maxL + 11) + rm.locals ≤ R.locals)
    (hws : ∀ w ∈ ws, ∀ a' U, s.WarmedH U.vm → w.before a' U = true) (hcode : Cond.code y bytes maxL ret ∈ ws) (hinit : ∀ a' U, s.WarmedH U.vm → (Cond.initialized y.cls).before a' U = true) :
    vx_Back l R p e below s sargs y len W9 (PreOf R mc ms Pc) (PostOf Qc mc ms free) (vx_Post XC mc ms free) := by
  intro m meth c A g ig mk a X hg hsize hdg hW hn hp
  have h1 : (headSpec ws rm).pre.before a A.U = true := atoms_intro fun w hw => hws w hw _ _ X.warmed
  have h2 : (Cond.code y bytes maxL ret).before a A.U = true := hws _ hcode _ _ X.warmed
  have h3 : (Cond.initialized y.cls).before a A.U = true := hinit _ _ X.warmed
  have h4 : A.cells + (headSpec ws rm).room.cells ≤ R.cells := by rw [show (headSpec ws rm).room.cells = mc from hrc]; exact hp.1
  have h5 : A.slots + (headSpec ws rm).room.slots ≤ R.slots := by rw [show (headSpec ws rm).room.slots = ms from hrs]; exact hp.2.1
  have hPc : Pc a (A.U.calling g mk a) := hblind _ _ _ _ hp.2.2
  obtain ⟨U, Ls, c0, s0⟩ := A
  dsimp only [Pt.U, Pt.locs, Pt.cells, Pt.slots] at h1 h2 h3 h4 h5 X hn hPc ⊢
  obtain ⟨methY, cY, hmY, hcY, -, hlY, -, -, -, -⟩ := Cond.code_spec hn h2
  obtain ⟨kY, hkY, -⟩ := className_of_methodNamed hn
  have hinitY : kY.init = .initialized := Cond.initialized_spec (findClass_of_methodNamed hn) hkY h3
  have h : At U g.method c below := by rw [hg]; exact X.here
  have hlocals9 : W9 + (maxL + 11) + (headSpec ws rm).room.locals ≤ R.locals := hlocals
  have happ : (headSpec ws rm).appliesLoose y e.platform (U.calling g mk a) = true :=
    Spec.appliesLoose_calling (g := g) h hdg hn hkY hinitY
      (X.room_calling (g := g) (R' := (headSpec ws rm).room) hsize hmY hcY hframes (by rw [hlY]; omega) h4 h5) h1
  obtain ⟨mid, hmid⟩ := h.above
  have hfr : (U.setTop g).frames = (.java g :: mid) ++ below := by rw [State.frames_setTop' g h.top, hmid]; rfl
  obtain ⟨o, s₂, hsteps, -, hend, hq⟩ := Steps.callFree hM p X.admits X.cas X.clock (acts := []) hfr happ hPc trivial
  have hq' : vx_Q Qc XC mc ms free a (U.calling g mk a) o s₂ := hq
  rw [State.frames_setTop' g h.top] at hend
  obtain ⟨g₀, hg0⟩ := Option.isSome_iff_exists.mp h.top
  obtain ⟨r, hr⟩ := State.topJava?_eq_some.mp hg0
  have hr' : (({ U with heap := s₂.heap, slotsUsed := s₂.slotsUsed } : State).setVm s₂.vm).frames = .java g₀ :: r := hr
  rcases hq' with ⟨hqc, L, hfe, hL⟩ | ⟨q, rfl, E, ce, L, hx, hce, hcv, hcl, hW₂, hsm, hL⟩
  · obtain ⟨⟨v, rfl⟩, hW₂, e2, q2, q3, q4, q5, q6⟩ := id hfe
    have e3 : s₂ = ({ (U.calling g mk a).setFrames s₂.frames with heap := s₂.heap, slotsUsed := s₂.slotsUsed } : State).setVm s₂.vm := by
      have : s₂ = ({ s₂ with vm := (U.calling g mk a).vm } : State).setVm s₂.vm := rfl
      rw [e2] at this
      exact this
    obtain ⟨c₂, i₂, len₂, hc₂, hd₂, hf₂⟩ := hend
    have hW' : U.WarmedH s₂.vm := hW₂
    have hcc : c₂ = c := by
      have h1 : s₂.code? g.method = U.code? g.method := by
        rw [State.code?_eq, State.code?_eq, hW'.alike.method?]
      exact Option.some.inj (hc₂.symm.trans (h1.trans h.code))
    subst hcc
    have hlen : len₂ = len := by rw [hdg] at hd₂; cases hd₂; rfl
    subst hlen
    have hs₂ : s₂ = (({ U with heap := s₂.heap, slotsUsed := s₂.slotsUsed } : State).setVm s₂.vm).setTop { g with pc := g.pc + len₂, stack := v.toList ++ g.stack } := by
      refine e3.trans ?_
      rw [hf₂, State.calling_eq h.top, State.setFrames_setFrames, State.setTop_of_frames _ hr', hr]
      rfl
    have hsame : U.sameButNew ({ U with heap := s₂.heap, slotsUsed := s₂.slotsUsed } : State) L mc ms := by
      refine ⟨?_, q2, q3, q4, q5, q6⟩
      obtain ⟨t, ht, -⟩ := State.frames_cons hr
      show ({ U with heap := s₂.heap, slotsUsed := s₂.slotsUsed } : State) = { U.setFrames U.frames with heap := s₂.heap, slotsUsed := s₂.slotsUsed }
      rw [State.setFrames_self ht]
    subst hg
    refine Or.inl ⟨v, ⟨(({ U with heap := s₂.heap, slotsUsed := s₂.slotsUsed } : State).setVm s₂.vm), Ls ++ L, c0 + mc, s0 + ms⟩,
      ⟨X.admits, X.cas, X.clock, X.frames, X.room, X.hears, X.method, X.code, (X.here.setHeapUsed s₂.heap s₂.slotsUsed).setVm hW'.alike, X.tail, State.WarmedH.trans X.warmed hW', X.limits, X.bytes, X.same.trans (hsame.setVm s.vm)⟩,
      ⟨g, mk, s₂, L, rfl, rfl, hqc, rfl, hL, rfl, rfl⟩, ?_⟩
    show Steps p.tables e below _ ((({ U with heap := s₂.heap, slotsUsed := s₂.slotsUsed } : State).setVm s₂.vm).setTop { g with pc := g.pc + len₂, stack := v.toList ++ g.stack })
    rw [← hs₂]
    exact hsteps
  · obtain ⟨e2, q2, q3, q4, q5, q6⟩ := id hsm
    have e3 : s₂ = ({ (U.calling g mk a).setFrames s₂.frames with heap := s₂.heap, slotsUsed := s₂.slotsUsed } : State).setVm s₂.vm := by
      have : s₂ = ({ s₂ with vm := (U.calling g mk a).vm } : State).setVm s₂.vm := rfl
      rw [e2] at this
      exact this
    have hf₂ : s₂.frames = .throwing q :: .java g :: U.frames.tail := hend
    have hW' : U.WarmedH s₂.vm := hW₂
    have hs₂ : s₂ = ((({ U with heap := s₂.heap, slotsUsed := s₂.slotsUsed } : State).setVm s₂.vm).setTop g).pushFrame (.throwing q) := by
      refine e3.trans ?_
      rw [hf₂, State.calling_eq h.top, State.setFrames_setFrames, State.pushFrame, State.frames_setTop _ hr', State.setTop_of_frames _ hr', State.setFrames_setFrames, hr]
      rfl
    have hsame : U.sameButNew ({ U with heap := s₂.heap, slotsUsed := s₂.slotsUsed } : State) L mc ms := by
      refine ⟨?_, q2, q3, q4, q5, q6⟩
      obtain ⟨t, ht, -⟩ := State.frames_cons hr
      show ({ U with heap := s₂.heap, slotsUsed := s₂.slotsUsed } : State) = { U.setFrames U.frames with heap := s₂.heap, slotsUsed := s₂.slotsUsed }
      rw [State.setFrames_self ht]
    subst hg
    refine Or.inr ⟨q, ⟨(({ U with heap := s₂.heap, slotsUsed := s₂.slotsUsed } : State).setVm s₂.vm), Ls ++ L, c0 + mc, s0 + ms⟩,
      ⟨X.admits, X.cas, X.clock, X.frames, X.room, X.hears, X.method, X.code, (X.here.setHeapUsed s₂.heap s₂.slotsUsed).setVm hW'.alike, X.tail, State.WarmedH.trans X.warmed hW', X.limits, X.bytes, X.same.trans (hsame.setVm s.vm)⟩,
      ⟨g, mk, s₂, L, E, ce, rfl, rfl, hx, hce, hcv, hcl, rfl, hL, rfl, rfl⟩, ?_⟩
    show Steps p.tables e below _ (((({ U with heap := s₂.heap, slotsUsed := s₂.slotsUsed } : State).setVm s₂.vm).setTop g).pushFrame (.throwing q))
    rw [← hs₂]
    exact hsteps
end Payer
section Calls
variable {p : Program} {l : Launch} {e : Env} {R : Room} {s : State} {m : MethodId} {args : Array Value} {below : List Frame} {meth : Method} {c : Code} {T : State} {locs : List Loc} {cells slots : Nat}
theorem vx_callV (X : Stand p l e R s m args below meth c T locs cells slots) (hexec : p.tables.exec = Jvm.exec) {own C : String} {index : Nat} {y : MethodName} {bytes : ByteArray} {maxL : Nat} {ret : Option FieldType}
    (hown : s.vm.findClass own = some m.cls) (hlink : (Cond.methodLink own index y).before args s = true) (hinst : (Cond.instanceMethod y).before args s = true) (hsel : (Cond.selects C y y).before args s = true)
    (hcode : (Cond.code y bytes maxL ret).before args s = true) (hy : y.cls ≠ "java/lang/invoke/MethodHandle" ∧ y.cls ≠ "java/lang/invoke/VarHandle")
    {W9 : Nat} {Pre : Pt → Array Value → Prop} {Post : Pt → Array Value → Option Value → Pt → Prop} {PostX : Pt → Array Value → Addr → Pt → Prop} (hK : vx_Back l R p e below s args y 3 W9 Pre Post PostX)
    {b : Addr} {cellB : Cell} (hcell : T.heap[b]? = some cellB) (hobj : cellB.vm.isStatics = false) (hcls : s.vm.findClass C = some cellB.cls)
    {g : JFrame} (hg : g.method = m) (hsize : g.locals.size = c.maxLocals) {argsL rest : List Value} (hlen : ∀ sig, parseMethodDescriptor y.desc = some sig → argsL.length = sig.parameters.length)
    (hstack : g.stack = argsL.reverse ++ .ref b :: rest) (hW : 2 * g.monitorRoom + (rest.map fun v => v.category).sum ≤ W9) (hdg : decode c.code g.pc = .ok (.invokevirtual index, 3))
    (hpre : ∀ vm₁, s.WarmedH vm₁ → Pre ⟨T.setVm vm₁, locs, cells, slots⟩ (Value.ref b :: argsL).toArray) :
    (∃ (v : Option Value) (vm₁ : Vm) (B : Pt), s.WarmedH vm₁ ∧ Stand p l e R s m args below meth c B.U B.locs B.cells B.slots ∧ Post ⟨T.setVm vm₁, locs, cells, slots⟩ (Value.ref b :: argsL).toArray v B ∧
      ∀ target, Steps p.tables e below (B.U.setTop { g with pc := g.pc + 3, stack := v.toList ++ rest }) target → Steps p.tables e below (T.setTop g) target) ∨
    (∃ (q : Addr) (vm₁ : Vm) (B : Pt), s.WarmedH vm₁ ∧ Stand p l e R s m args below meth c B.U B.locs B.cells B.slots ∧ PostX ⟨T.setVm vm₁, locs, cells, slots⟩ (Value.ref b :: argsL).toArray q B ∧
      Steps p.tables e below (T.setTop g) ((B.U.setTop { g with stack := rest }).pushFrame (.throwing q))) := by
  obtain ⟨mk, methM, hnamed, hmethM, hstM, habM⟩ := Cond.instanceMethod_spec hinst
  obtain ⟨methM', cM, hmethM', -, -, -, -, -, -, hsigM⟩ := Cond.code_spec hnamed hcode
  cases hmethM.symm.trans hmethM'
  obtain ⟨c2, r2, m2, q1, q2, q3, q4, kP, hkP, hkPi⟩ := Cond.selects_spec hsel
  cases hcls.symm.trans q1
  cases (State.methodFound?_of_named hnamed hy).symm.trans q2
  cases hnamed.symm.trans q3
  have hselP : selectMethod e.platform s.vm cellB.cls mk = .method mk := by rw [Launch.admits_selectMethod X.admits]; exact q4
  obtain ⟨vm₁, X₁, hstep₁⟩ := X.invokevirtual hexec hown hlink hnamed hmethM hstM hkP hkPi hy (a := b) (cell := cellB) hcell
    (fun z h => by rw [h] at hobj; cases hobj) hselP hmethM habM hkP hkPi (g := g) hg (argsL := argsL) (rest := rest) (hlen _ hsigM) hstack hdg
  rcases hK m meth c ⟨T.setVm vm₁, locs, cells, slots⟩ { g with stack := rest } (.invokevirtual index) mk (Value.ref b :: argsL).toArray X₁ hg hsize hdg hW (X₁.named hnamed) (hpre vm₁ X₁.warmed) with ⟨v, B, X', hpost, hsteps⟩ | ⟨q, B, X', hpost, hsteps⟩
  · exact Or.inl ⟨v, vm₁, B, X₁.warmed, X', hpost, fun target h => hstep₁ _ fun acts => by rw [doInvoke_state]; exact hsteps.trans h⟩
  · exact Or.inr ⟨q, vm₁, B, X₁.warmed, X', hpost, hstep₁ _ fun acts => by rw [doInvoke_state]; exact hsteps⟩
theorem vx_callS (X : Stand p l e R s m args below meth c T locs cells slots) (hexec : p.tables.exec = Jvm.exec) {own : String} {index : Nat} {y : MethodName} {bytes : ByteArray} {maxL : Nat} {ret : Option FieldType}
    (hown : s.vm.findClass own = some m.cls) (hlink : (Cond.methodLink own index y).before args s = true) (hstat : (Cond.static y).before args s = true) (hinit : (Cond.initialized y.cls).before args s = true)
    (hcode : (Cond.code y bytes maxL ret).before args s = true) (hy : y.cls ≠ "java/lang/invoke/MethodHandle" ∧ y.cls ≠ "java/lang/invoke/VarHandle")
    {W9 : Nat} {Pre : Pt → Array Value → Prop} {Post : Pt → Array Value → Option Value → Pt → Prop} {PostX : Pt → Array Value → Addr → Pt → Prop} (hK : vx_Back l R p e below s args y 3 W9 Pre Post PostX)
    {g : JFrame} (hg : g.method = m) (hsize : g.locals.size = c.maxLocals) {argsL rest : List Value} (hlen : ∀ sig, parseMethodDescriptor y.desc = some sig → argsL.length = sig.parameters.length)
    (hstack : g.stack = argsL.reverse ++ rest) (hW : 2 * g.monitorRoom + (rest.map fun v => v.category).sum ≤ W9) (hdg : decode c.code g.pc = .ok (.invokestatic index, 3))
    (hpre : ∀ vm₁, s.WarmedH vm₁ → Pre ⟨T.setVm vm₁, locs, cells, slots⟩ argsL.toArray) :
    (∃ (v : Option Value) (vm₁ : Vm) (B : Pt), s.WarmedH vm₁ ∧ Stand p l e R s m args below meth c B.U B.locs B.cells B.slots ∧ Post ⟨T.setVm vm₁, locs, cells, slots⟩ argsL.toArray v B ∧
      ∀ target, Steps p.tables e below (B.U.setTop { g with pc := g.pc + 3, stack := v.toList ++ rest }) target → Steps p.tables e below (T.setTop g) target) ∨
    (∃ (q : Addr) (vm₁ : Vm) (B : Pt), s.WarmedH vm₁ ∧ Stand p l e R s m args below meth c B.U B.locs B.cells B.slots ∧ PostX ⟨T.setVm vm₁, locs, cells, slots⟩ argsL.toArray q B ∧
      Steps p.tables e below (T.setTop g) ((B.U.setTop { g with stack := rest }).pushFrame (.throwing q))) := by
  obtain ⟨mk, hnamed⟩ := Cond.code_named hcode
  obtain ⟨methM, cM, hmethM, -, -, -, -, -, -, hsigM⟩ := Cond.code_spec hnamed hcode
  have hstatic : methM.isStatic = true := Cond.static_spec hnamed hmethM hstat
  obtain ⟨kP, hkP, -⟩ := className_of_methodNamed hnamed
  have hinitP : kP.init = .initialized := Cond.initialized_spec (findClass_of_methodNamed hnamed) hkP hinit
  obtain ⟨vm₁, X₁, hstep₁⟩ := X.invokestatic hexec hown hlink hnamed hmethM hstatic hkP hinitP hy (g := g) hg (argsL := argsL) (rest := rest) (hlen _ hsigM) hstack hdg
  rcases hK m meth c ⟨T.setVm vm₁, locs, cells, slots⟩ { g with stack := rest } (.invokestatic index) mk argsL.toArray X₁ hg hsize hdg hW (X₁.named hnamed) (hpre vm₁ X₁.warmed) with ⟨v, B, X', hpost, hsteps⟩ | ⟨q, B, X', hpost, hsteps⟩
  · exact Or.inl ⟨v, vm₁, B, X₁.warmed, X', hpost, fun target h => hstep₁ _ fun acts => by rw [doInvoke_state]; exact hsteps.trans h⟩
  · exact Or.inr ⟨q, vm₁, B, X₁.warmed, X', hpost, hstep₁ _ fun acts => by rw [doInvoke_state]; exact hsteps⟩
end Calls
theorem vx_cls {s : State} {T : State} {vm₁ : Vm} {E : String} {k : ClassId} (hW : s.WarmedH vm₁) (h : (T.setVm vm₁).vm.findClass E = some k) : s.vm.findClass E = some k := by
  have h1 : vm₁.findClass E = some k := h
  rw [hW.alike.findClass] at h1
  exact h1
/-- the method's frame g, with q thrown over it -/
def vx_W (p : Program) (l : Launch) (e : Env) (R : Room) (s : State) (m : MethodId) (args : Array Value) (below : List Frame) (meth : Method) (c : Code) (H : Heap) (locs : List Loc) (cells slots : Nat) (Q : State → Prop) (g : JFrame) (q : Addr) : Prop :=
  ∀ T : State, T.heap = H → Stand p l e R s m args below meth c T locs cells slots → ∃ t, Steps p.tables e below ((T.setTop g).pushFrame (.throwing q)) t ∧ Q t
def vx_Run (p : Program) (l : Launch) (e : Env) (R : Room) (s : State) (m : MethodId) (args : Array Value) (below : List Frame) (meth : Method) (c : Code) (H : Heap) (locs : List Loc) (cells slots mc ms : Nat) (g : JFrame) (rest : List Value) (Qa : State → Outcome → State → Prop) (XC : String → State → State → Prop) (free : Addr → Prop) : Prop :=
  ∀ T : State, T.heap = H → Stand p l e R s m args below meth c T locs cells slots →
    (∃ (v : Option Value) (st₀ t T' : State) (L : List Loc), st₀.heap = H ∧ Stand p l e R s m args below meth c T' (locs ++ L) (cells + mc) (slots + ms) ∧ (∀ q ∈ L, free q.base) ∧ T'.heap = t.heap ∧ T'.vm = t.vm ∧ Qa st₀ (.returned v) t ∧
      Goes p e below T g T' { g with pc := g.pc + 3, stack := v.toList ++ rest }) ∨
    (∃ (q : Addr) (st₀ t T' : State) (L : List Loc) (E : String) (ce : Cell), st₀.heap = H ∧ Stand p l e R s m args below meth c T' (locs ++ L) (cells + mc) (slots + ms) ∧ (∀ z ∈ L, free z.base) ∧ T'.heap = t.heap ∧ T'.vm = t.vm ∧ XC E st₀ t ∧ t.heap[q]? = some ce ∧ ce.vm = .none ∧ s.vm.findClass E = some ce.cls ∧
      Steps p.tables e below (T.setTop g) ((T'.setTop { g with stack := rest }).pushFrame (.throwing q)))
def vx_X {S : Type} (px : S → Prop) (B : String → S → State → Prop) (A : Nat → Prop) : String → State → State → Prop := fun E st t => ∃ u : S, px u ∧ B E u t ∧ va_F A st t
section Runs
variable {p : Program} {l : Launch} {e : Env} {R : Room} {s : State} {m : MethodId} {args : Array Value} {below : List Frame} {meth : Method} {c : Code} {H : Heap} {locs : List Loc} {cells slots : Nat}
variable {y : MethodName} {bytes cc : ByteArray} {maxL nL mc ms n index : Nat} {ret : Option FieldType} {ws : List Cond} {rm : Room} {Pc : Array Value → State → Prop} {Qc : Array Value → State → Outcome → State → Prop} {XC : String → State → State → Prop} {free : Addr → Prop} {Ts : List Cond} {own C : String} {b : Addr} {As rest : List Value} {g : JFrame}
theorem vx_callBack (cb : CallB R s args own index y bytes maxL ret ws rm mc ms n) (hM : vx_Met l y ws rm Pc Qc XC mc ms free) (hbl : FrameBlind Pc) : vx_Back l R p e below s args y 3 8 (PreOf R mc ms Pc) (PostOf Qc mc ms free) (vx_Post XC mc ms free) := by
  obtain ⟨hrc, hrs, hfr, hlo, hws, hcw, -, hini, -⟩ := cb
  exact vx_back (bytes := bytes) (maxL := maxL) (ret := ret) hM hbl hrc hrs hfr hlo hws hcw (fun a' U hW => word_at hW (Or.inl (by first | rfl | simp [Cond.onTables, Cond.keeps, Cond.steady])) hini)
theorem vx_runV (S : CallFix p m c cc nL s args Ts own) (hM : vx_Met l y ws rm Pc Qc XC mc ms free) (cw : CallW R s args own C index y bytes maxL ret ws rm mc ms n) (hp : PreV s H C b Pc As)
    (hg : g.method = m) (hn : As.length = n) (hsize : g.locals.size = nL) (hstack : g.stack = As.reverse ++ .ref b :: rest) (hW : 2 * g.monitorRoom + (rest.map fun v => v.category).sum ≤ 8) (hdg : decode cc g.pc = .ok (.invokevirtual index, 3)) (hf : cells + mc ≤ R.cells ∧ slots + ms ≤ R.slots) :
    vx_Run p l e R s m args below meth c H locs cells slots mc ms g rest (Qc (Value.ref b :: As).toArray) XC free := by
  have hK : vx_Back l R p e below s args y 3 8 (PreOf R mc ms Pc) (PostOf Qc mc ms free) (vx_Post XC mc ms free) := vx_callBack cw.1 hM hp.1
  obtain ⟨⟨-, -, -, -, -, -, hcode, -, hy, hlen, hl⟩, hin, hse⟩ := cw
  obtain ⟨hx, hb, hml, ho, -⟩ := S
  obtain ⟨-, ⟨cellB, hcB, hoB, hclB⟩, hPc⟩ := hp
  intro T hT X
  rcases vx_callV X hx (C := C) (bytes := bytes) (maxL := maxL) (ret := ret) ho hl hin hse hcode hy hK (by rw [hT]; exact hcB) hoB hclB hg (hsize.trans hml.symm) (argsL := As) (rest := rest) (fun sig h => hn.trans (hlen sig h)) hstack hW (by rw [hb]; exact hdg)
    (fun vm₁ hW₁ => ⟨hf.1, hf.2, hPc (T.setVm vm₁) hT hW₁⟩) with ⟨v, vm₁, ⟨U', l2, c2, s2⟩, hW₁, X', ⟨g', mk, t, L, e1, e2, hq, h1, hL, h2, h3⟩, st⟩ | ⟨q, vm₁, ⟨U', l2, c2, s2⟩, hW₁, X', ⟨g', mk, t, L, E, ce, e1, e2, hq, hce, hcv, hcl, h1, hL, h2, h3⟩, st⟩
  · dsimp only [Pt.U, Pt.locs, Pt.cells, Pt.slots] at X' e1 e2 h1 h2 h3 st
    subst h1; subst h2; subst h3
    exact Or.inl ⟨v, (T.setVm vm₁).calling g' mk (Value.ref b :: As).toArray, t, U', L, hT, X', hL, e1, e2, hq, st⟩
  · dsimp only [Pt.U, Pt.locs, Pt.cells, Pt.slots] at X' e1 e2 h1 h2 h3 st hcl
    subst h1; subst h2; subst h3
    exact Or.inr ⟨q, (T.setVm vm₁).calling g' mk (Value.ref b :: As).toArray, t, U', L, E, ce, hT, X', hL, e1, e2, hq, hce, hcv, vx_cls hW₁ hcl, st⟩
theorem vx_runS (S : CallFix p m c cc nL s args Ts own) (hM : vx_Met l y ws rm Pc Qc XC mc ms free) (cw : CallB R s args own index y bytes maxL ret ws rm mc ms n ∧ (Cond.static y).before args s = true) (hp : PreS s H Pc As)
    (hg : g.method = m) (hn : As.length = n) (hsize : g.locals.size = nL) (hstack : g.stack = As.reverse ++ rest) (hW : 2 * g.monitorRoom + (rest.map fun v => v.category).sum ≤ 8) (hdg : decode cc g.pc = .ok (.invokestatic index, 3)) (hf : cells + mc ≤ R.cells ∧ slots + ms ≤ R.slots) :
    vx_Run p l e R s m args below meth c H locs cells slots mc ms g rest (Qc As.toArray) XC free := by
  have hK : vx_Back l R p e below s args y 3 8 (PreOf R mc ms Pc) (PostOf Qc mc ms free) (vx_Post XC mc ms free) := vx_callBack cw.1 hM hp.1
  obtain ⟨⟨-, -, -, -, -, -, hcode, hini, hy, hlen, hl⟩, hstt⟩ := cw
  obtain ⟨hx, hb, hml, ho, -⟩ := S
  intro T hT X
  rcases vx_callS X hx (bytes := bytes) (maxL := maxL) (ret := ret) ho hl hstt hini hcode hy hK hg (hsize.trans hml.symm) (argsL := As) (rest := rest) (fun sig h => hn.trans (hlen sig h)) hstack hW (by rw [hb]; exact hdg)
    (fun vm₁ hW₁ => ⟨hf.1, hf.2, hp.2 (T.setVm vm₁) hT hW₁⟩) with ⟨v, vm₁, ⟨U', l2, c2, s2⟩, hW₁, X', ⟨g', mk, t, L, e1, e2, hq, h1, hL, h2, h3⟩, st⟩ | ⟨q, vm₁, ⟨U', l2, c2, s2⟩, hW₁, X', ⟨g', mk, t, L, E, ce, e1, e2, hq, hce, hcv, hcl, h1, hL, h2, h3⟩, st⟩
  · dsimp only [Pt.U, Pt.locs, Pt.cells, Pt.slots] at X' e1 e2 h1 h2 h3 st
    subst h1; subst h2; subst h3
    exact Or.inl ⟨v, (T.setVm vm₁).calling g' mk As.toArray, t, U', L, hT, X', hL, e1, e2, hq, st⟩
  · dsimp only [Pt.U, Pt.locs, Pt.cells, Pt.slots] at X' e1 e2 h1 h2 h3 st hcl
    subst h1; subst h2; subst h3
    exact Or.inr ⟨q, (T.setVm vm₁).calling g' mk As.toArray, t, U', L, E, ce, hT, X', hL, e1, e2, hq, hce, hcv, vx_cls hW₁ hcl, st⟩
end Runs
section Rows
variable {p : Program} {l : Launch} {e : Env} {R : Room} {s : State} {m : MethodId} {args : Array Value} {below : List Frame} {meth : Method} {c : Code} {H : Heap} {locs : List Loc} {cells slots : Nat} {Q : State → Prop}
variable {mc ms : Nat} {free : Addr → Prop} {A0 A1 : Nat → Prop} {H0 : Heap} {a : Array Value} {pc : Nat} {ls : Array Slot} {st0 rest : List Value}
theorem vx_keep {st₀ t T' : State} {L : List Loc} (h0 : st₀.heap = H) (e1 : T'.heap = t.heap) (hS : va_S A0 H0 H locs) (hA : ∀ q, q < H.size → A1 q → A0 q) (hf : ∀ q, free q → A0 q) (hL : ∀ q ∈ L, free q.base) (hF : va_F A1 st₀ t) :
    H.size ≤ T'.heap.size ∧ (∀ q : Nat, q < H.size → ¬ A1 q → T'.heap[q]? = H[q]?) ∧ va_S A0 H0 T'.heap (locs ++ L) := by
  obtain ⟨hz, hk⟩ := hF
  rw [h0] at hz hk
  exact ⟨by rw [e1]; exact hz, fun q h1 h2 => by rw [e1]; exact hk q h1 h2,
    ⟨Nat.le_trans hS.1 (by rw [e1]; exact hz), fun q h1 h2 => by rw [e1, hk q (Nat.lt_of_lt_of_le h1 hS.1) (fun z => h2 (hA q (Nat.lt_of_lt_of_le h1 hS.1) z))]; exact hS.2.1 q h1 h2, fun q hq => by
      rcases List.mem_append.mp hq with h | h
      · exact hS.2.2 q h
      · exact hf _ (hL q h)⟩⟩
theorem vx_calli {S SX : Type} {post : Int32 → S → Prop} {px : SX → Prop} {B : S → State → Prop} {BX : String → SX → State → Prop} {AX : Nat → Prop} (hr : vx_Run p l e R s m args below meth c H locs cells slots mc ms (F0 m pc ls st0) rest (va_Qi post B A1 a) (vx_X px BX AX) free) (hS : va_S A0 H0 H locs) (hA : ∀ q, q < H.size → A1 q → A0 q) (hf : ∀ q, free q → A0 q) (hAX : ∀ q, q < H.size → AX q → A0 q)
    (kx : ∀ (E : String) (ce : Cell) (q9 : Addr) (u : SX) (t : State) (H1 : Heap) (locs1 : List Loc), t.heap = H1 → s.vm.Alike t.vm → px u → BX E u t → H.size ≤ H1.size → (∀ q : Nat, q < H.size → ¬ AX q → H1[q]? = H[q]?) → va_S A0 H0 H1 locs1 → H1[q9]? = some ce → ce.vm = .none → s.vm.findClass E = some ce.cls → vx_W p l e R s m args below meth c H1 locs1 (cells + mc) (slots + ms) Q (F0 m pc ls rest) q9)
    (kk : ∀ (r : Int32) (u : S) (t : State) (H1 : Heap) (locs1 : List Loc), t.heap = H1 → s.vm.Alike t.vm → post r u → B u t → H.size ≤ H1.size → (∀ q : Nat, q < H.size → ¬ A1 q → H1[q]? = H[q]?) → va_S A0 H0 H1 locs1 → W p l e R s m args below meth c H1 locs1 (cells + mc) (slots + ms) Q (F0 m (pc + 3) ls (.int r :: rest))) : W p l e R s m args below meth c H locs cells slots Q (F0 m pc ls st0) := by
  intro T hT X
  rcases hr T hT X with ⟨v, st₀, t, T', L, h0, X', hL, e1, e2, ⟨⟨r, u, hv, hp, hb⟩, hF⟩, st⟩ | ⟨q, st₀, t, T', L, E, ce, h0, X', hL, e1, e2, ⟨u, hp, hb, hF⟩, hce, hcv, hcl, st⟩
  · cases hv
    obtain ⟨k1, k2, k3⟩ := vx_keep h0 e1 hS hA hf hL hF
    obtain ⟨t2, a1, b1⟩ := kk r u t T'.heap (locs ++ L) e1.symm (by rw [← e2]; exact X'.warmed.alike) hp hb k1 k2 k3 T' rfl X'
    exact ⟨t2, st t2 a1, b1⟩
  · obtain ⟨k1, k2, k3⟩ := vx_keep h0 e1 hS hAX hf hL hF
    obtain ⟨t2, a1, b1⟩ := kx E ce q u t T'.heap (locs ++ L) e1.symm (by rw [← e2]; exact X'.warmed.alike) hp hb k1 k2 k3 (by rw [e1]; exact hce) hcv hcl T' rfl X'
    exact ⟨t2, st.trans a1, b1⟩
theorem vx_calll {S SX : Type} {post : Int64 → S → Prop} {px : SX → Prop} {B : S → State → Prop} {BX : String → SX → State → Prop} {AX : Nat → Prop} (hr : vx_Run p l e R s m args below meth c H locs cells slots mc ms (F0 m pc ls st0) rest (va_Ql post B A1 a) (vx_X px BX AX) free) (hS : va_S A0 H0 H locs) (hA : ∀ q, q < H.size → A1 q → A0 q) (hf : ∀ q, free q → A0 q) (hAX : ∀ q, q < H.size → AX q → A0 q)
    (kx : ∀ (E : String) (ce : Cell) (q9 : Addr) (u : SX) (t : State) (H1 : Heap) (locs1 : List Loc), t.heap = H1 → s.vm.Alike t.vm → px u → BX E u t → H.size ≤ H1.size → (∀ q : Nat, q < H.size → ¬ AX q → H1[q]? = H[q]?) → va_S A0 H0 H1 locs1 → H1[q9]? = some ce → ce.vm = .none → s.vm.findClass E = some ce.cls → vx_W p l e R s m args below meth c H1 locs1 (cells + mc) (slots + ms) Q (F0 m pc ls rest) q9)
    (kk : ∀ (r : Int64) (u : S) (t : State) (H1 : Heap) (locs1 : List Loc), t.heap = H1 → s.vm.Alike t.vm → post r u → B u t → H.size ≤ H1.size → (∀ q : Nat, q < H.size → ¬ A1 q → H1[q]? = H[q]?) → va_S A0 H0 H1 locs1 → W p l e R s m args below meth c H1 locs1 (cells + mc) (slots + ms) Q (F0 m (pc + 3) ls (.long r :: rest))) : W p l e R s m args below meth c H locs cells slots Q (F0 m pc ls st0) := by
  intro T hT X
  rcases hr T hT X with ⟨v, st₀, t, T', L, h0, X', hL, e1, e2, ⟨⟨r, u, hv, hp, hb⟩, hF⟩, st⟩ | ⟨q, st₀, t, T', L, E, ce, h0, X', hL, e1, e2, ⟨u, hp, hb, hF⟩, hce, hcv, hcl, st⟩
  · cases hv
    obtain ⟨k1, k2, k3⟩ := vx_keep h0 e1 hS hA hf hL hF
    obtain ⟨t2, a1, b1⟩ := kk r u t T'.heap (locs ++ L) e1.symm (by rw [← e2]; exact X'.warmed.alike) hp hb k1 k2 k3 T' rfl X'
    exact ⟨t2, st t2 a1, b1⟩
  · obtain ⟨k1, k2, k3⟩ := vx_keep h0 e1 hS hAX hf hL hF
    obtain ⟨t2, a1, b1⟩ := kx E ce q u t T'.heap (locs ++ L) e1.symm (by rw [← e2]; exact X'.warmed.alike) hp hb k1 k2 k3 (by rw [e1]; exact hce) hcv hcl T' rfl X'
    exact ⟨t2, st.trans a1, b1⟩
theorem vx_callf {S SX : Type} {post : UInt32 → S → Prop} {px : SX → Prop} {B : S → State → Prop} {BX : String → SX → State → Prop} {AX : Nat → Prop} (hr : vx_Run p l e R s m args below meth c H locs cells slots mc ms (F0 m pc ls st0) rest (va_Qf post B A1 a) (vx_X px BX AX) free) (hS : va_S A0 H0 H locs) (hA : ∀ q, q < H.size → A1 q → A0 q) (hf : ∀ q, free q → A0 q) (hAX : ∀ q, q < H.size → AX q → A0 q)
    (kx : ∀ (E : String) (ce : Cell) (q9 : Addr) (u : SX) (t : State) (H1 : Heap) (locs1 : List Loc), t.heap = H1 → s.vm.Alike t.vm → px u → BX E u t → H.size ≤ H1.size → (∀ q : Nat, q < H.size → ¬ AX q → H1[q]? = H[q]?) → va_S A0 H0 H1 locs1 → H1[q9]? = some ce → ce.vm = .none → s.vm.findClass E = some ce.cls → vx_W p l e R s m args below meth c H1 locs1 (cells + mc) (slots + ms) Q (F0 m pc ls rest) q9)
    (kk : ∀ (r : UInt32) (u : S) (t : State) (H1 : Heap) (locs1 : List Loc), t.heap = H1 → s.vm.Alike t.vm → post r u → B u t → H.size ≤ H1.size → (∀ q : Nat, q < H.size → ¬ A1 q → H1[q]? = H[q]?) → va_S A0 H0 H1 locs1 → W p l e R s m args below meth c H1 locs1 (cells + mc) (slots + ms) Q (F0 m (pc + 3) ls (.float r :: rest))) : W p l e R s m args below meth c H locs cells slots Q (F0 m pc ls st0) := by
  intro T hT X
  rcases hr T hT X with ⟨v, st₀, t, T', L, h0, X', hL, e1, e2, ⟨⟨r, u, hv, hp, hb⟩, hF⟩, st⟩ | ⟨q, st₀, t, T', L, E, ce, h0, X', hL, e1, e2, ⟨u, hp, hb, hF⟩, hce, hcv, hcl, st⟩
  · cases hv
    obtain ⟨k1, k2, k3⟩ := vx_keep h0 e1 hS hA hf hL hF
    obtain ⟨t2, a1, b1⟩ := kk r u t T'.heap (locs ++ L) e1.symm (by rw [← e2]; exact X'.warmed.alike) hp hb k1 k2 k3 T' rfl X'
    exact ⟨t2, st t2 a1, b1⟩
  · obtain ⟨k1, k2, k3⟩ := vx_keep h0 e1 hS hAX hf hL hF
    obtain ⟨t2, a1, b1⟩ := kx E ce q u t T'.heap (locs ++ L) e1.symm (by rw [← e2]; exact X'.warmed.alike) hp hb k1 k2 k3 (by rw [e1]; exact hce) hcv hcl T' rfl X'
    exact ⟨t2, st.trans a1, b1⟩
theorem vx_calld {S SX : Type} {post : UInt64 → S → Prop} {px : SX → Prop} {B : S → State → Prop} {BX : String → SX → State → Prop} {AX : Nat → Prop} (hr : vx_Run p l e R s m args below meth c H locs cells slots mc ms (F0 m pc ls st0) rest (va_Qd post B A1 a) (vx_X px BX AX) free) (hS : va_S A0 H0 H locs) (hA : ∀ q, q < H.size → A1 q → A0 q) (hf : ∀ q, free q → A0 q) (hAX : ∀ q, q < H.size → AX q → A0 q)
    (kx : ∀ (E : String) (ce : Cell) (q9 : Addr) (u : SX) (t : State) (H1 : Heap) (locs1 : List Loc), t.heap = H1 → s.vm.Alike t.vm → px u → BX E u t → H.size ≤ H1.size → (∀ q : Nat, q < H.size → ¬ AX q → H1[q]? = H[q]?) → va_S A0 H0 H1 locs1 → H1[q9]? = some ce → ce.vm = .none → s.vm.findClass E = some ce.cls → vx_W p l e R s m args below meth c H1 locs1 (cells + mc) (slots + ms) Q (F0 m pc ls rest) q9)
    (kk : ∀ (r : UInt64) (u : S) (t : State) (H1 : Heap) (locs1 : List Loc), t.heap = H1 → s.vm.Alike t.vm → post r u → B u t → H.size ≤ H1.size → (∀ q : Nat, q < H.size → ¬ A1 q → H1[q]? = H[q]?) → va_S A0 H0 H1 locs1 → W p l e R s m args below meth c H1 locs1 (cells + mc) (slots + ms) Q (F0 m (pc + 3) ls (.double r :: rest))) : W p l e R s m args below meth c H locs cells slots Q (F0 m pc ls st0) := by
  intro T hT X
  rcases hr T hT X with ⟨v, st₀, t, T', L, h0, X', hL, e1, e2, ⟨⟨r, u, hv, hp, hb⟩, hF⟩, st⟩ | ⟨q, st₀, t, T', L, E, ce, h0, X', hL, e1, e2, ⟨u, hp, hb, hF⟩, hce, hcv, hcl, st⟩
  · cases hv
    obtain ⟨k1, k2, k3⟩ := vx_keep h0 e1 hS hA hf hL hF
    obtain ⟨t2, a1, b1⟩ := kk r u t T'.heap (locs ++ L) e1.symm (by rw [← e2]; exact X'.warmed.alike) hp hb k1 k2 k3 T' rfl X'
    exact ⟨t2, st t2 a1, b1⟩
  · obtain ⟨k1, k2, k3⟩ := vx_keep h0 e1 hS hAX hf hL hF
    obtain ⟨t2, a1, b1⟩ := kx E ce q u t T'.heap (locs ++ L) e1.symm (by rw [← e2]; exact X'.warmed.alike) hp hb k1 k2 k3 (by rw [e1]; exact hce) hcv hcl T' rfl X'
    exact ⟨t2, st.trans a1, b1⟩
theorem vx_callv {S SX : Type} {post : S → Prop} {px : SX → Prop} {B : S → State → Prop} {BX : String → SX → State → Prop} {AX : Nat → Prop} (hr : vx_Run p l e R s m args below meth c H locs cells slots mc ms (F0 m pc ls st0) rest (va_Qv post B A1 a) (vx_X px BX AX) free) (hS : va_S A0 H0 H locs) (hA : ∀ q, q < H.size → A1 q → A0 q) (hf : ∀ q, free q → A0 q) (hAX : ∀ q, q < H.size → AX q → A0 q)
    (kx : ∀ (E : String) (ce : Cell) (q9 : Addr) (u : SX) (t : State) (H1 : Heap) (locs1 : List Loc), t.heap = H1 → s.vm.Alike t.vm → px u → BX E u t → H.size ≤ H1.size → (∀ q : Nat, q < H.size → ¬ AX q → H1[q]? = H[q]?) → va_S A0 H0 H1 locs1 → H1[q9]? = some ce → ce.vm = .none → s.vm.findClass E = some ce.cls → vx_W p l e R s m args below meth c H1 locs1 (cells + mc) (slots + ms) Q (F0 m pc ls rest) q9)
    (kk : ∀ (u : S) (t : State) (H1 : Heap) (locs1 : List Loc), t.heap = H1 → s.vm.Alike t.vm → post u → B u t → H.size ≤ H1.size → (∀ q : Nat, q < H.size → ¬ A1 q → H1[q]? = H[q]?) → va_S A0 H0 H1 locs1 → W p l e R s m args below meth c H1 locs1 (cells + mc) (slots + ms) Q (F0 m (pc + 3) ls (rest))) : W p l e R s m args below meth c H locs cells slots Q (F0 m pc ls st0) := by
  intro T hT X
  rcases hr T hT X with ⟨v, st₀, t, T', L, h0, X', hL, e1, e2, ⟨⟨u, hv, hp, hb⟩, hF⟩, st⟩ | ⟨q, st₀, t, T', L, E, ce, h0, X', hL, e1, e2, ⟨u, hp, hb, hF⟩, hce, hcv, hcl, st⟩
  · cases hv
    obtain ⟨k1, k2, k3⟩ := vx_keep h0 e1 hS hA hf hL hF
    obtain ⟨t2, a1, b1⟩ := kk u t T'.heap (locs ++ L) e1.symm (by rw [← e2]; exact X'.warmed.alike) hp hb k1 k2 k3 T' rfl X'
    exact ⟨t2, st t2 a1, b1⟩
  · obtain ⟨k1, k2, k3⟩ := vx_keep h0 e1 hS hAX hf hL hF
    obtain ⟨t2, a1, b1⟩ := kx E ce q u t T'.heap (locs ++ L) e1.symm (by rw [← e2]; exact X'.warmed.alike) hp hb k1 k2 k3 (by rw [e1]; exact hce) hcv hcl T' rfl X'
    exact ⟨t2, st.trans a1, b1⟩
/-- caught by the row x of this method's table; the rows ahead don't take it -/
theorem vx_catch {own name : String} {E : String} {ce : Cell} {q : Addr} (hown : s.vm.findClass own = some m.cls) (pre : List ExceptionTableEntry) (x : ExceptionTableEntry) (suf : List ExceptionTableEntry) (hsplit : c.exceptionTable.toList = pre ++ x :: suf)
    (hpass : ∀ z ∈ pre, covers z pc = false ∨ (z.catchType ≠ 0 ∧ ∃ nm : String, (Cond.classLink own z.catchType nm).before args s = true ∧ va_Nc E nm s)) (hx : covers x pc = true) (h0 : x.catchType ≠ 0)
    (hlink : (Cond.classLink own x.catchType name).before args s = true) (hcast : (Cond.castable E name).before args s = true) (hcell : H[q]? = some ce) (hv : ce.vm = .none) (hcl : s.vm.findClass E = some ce.cls)
    (kk : W p l e R s m args below meth c H locs cells slots Q (F0 m x.handlerPc ls [.ref q])) : vx_W p l e R s m args below meth c H locs cells slots Q (F0 m pc ls rest) q := by
  intro T hT X
  have hpl : e.platform.magicAccessors = ({} : Platform).magicAccessors := by rw [X.admits.platform]
  obtain ⟨c3, c4, hc3, hc4, hasg⟩ := Cond.castable_spec hcast
  cases Option.some.inj (hc3.symm.trans hcl)
  obtain ⟨c5, hc5, hcl5⟩ := Cond.classLink_spec hown hlink e.platform hpl
  cases Option.some.inj (hc4.symm.trans hc5)
  obtain ⟨vm', X', st⟩ := X.thenCaughtThrough q (g := F0 m pc ls rest) rfl (Steps.refl _) (by rw [hT]; exact hcell) (by rw [hv]; rfl) (by obtain ⟨k9, h9, -⟩ := Vm.findClass_spec hcl; exact ⟨k9, h9⟩) pre x suf hsplit
    (fun z hz => by
      rcases hpass z hz with h | ⟨hz0, nm, hl1, hn1⟩
      · exact Or.inl h
      · obtain ⟨c6, hc6, hcl6⟩ := Cond.classLink_spec hown hl1 e.platform hpl
        obtain ⟨a8, b8, h1, h2, h3⟩ := hn1
        cases Option.some.inj (h1.symm.trans hcl)
        cases Option.some.inj (h2.symm.trans hc6)
        exact Or.inr ⟨hz0, _, hcl6, h3⟩) hx (Or.inr ⟨h0, c4, hcl5, hasg⟩)
  obtain ⟨t, a1, b1⟩ := kk (T.setVm vm') hT X'
  exact ⟨t, st.trans a1, b1⟩
end Rows
section Ends
variable {p : Program} {l : Launch} {e : Env} {R : Room} {s : State} {m : MethodId} {args : Array Value} {below : List Frame} {meth : Method} {c : Code} {H : Heap} {locs : List Loc} {cells slots : Nat} {Q : State → Prop}
variable {mc ms : Nat} {free : Addr → Prop} {A0 A1 : Nat → Prop} {H0 : Heap} {a : Array Value} {ls : Array Slot} {st0 rest : List Value}
variable {Qc : Array Value → State → Outcome → State → Prop} {XC : String → State → State → Prop}
/-- what a body that may throw owes at its end -/
def vx_MQ (below : List Frame) (Qc : Array Value → State → Outcome → State → Prop) (XC : String → State → State → Prop) (a : Array Value) (s : State) (mc ms : Nat) (free : Addr → Prop) : State → Prop := fun t =>
  ∃ o, t.status = .running ∧ Ended t below o ∧ vx_Q Qc XC mc ms free a s o t
theorem vx_ret {g : JFrame} {mc ms : Nat} (k : W p l e R s m args below meth c H locs cells slots (MQ below Qc args s mc ms free) g) : W p l e R s m args below meth c H locs cells slots (vx_MQ below Qc XC args s mc ms free) g := by
  intro T hT X
  obtain ⟨t, a1, o, b1, b2, b3, b4⟩ := k T hT X
  exact ⟨t, a1, o, b1, b2, Or.inl ⟨b3, b4⟩⟩
/-- not caught here: it goes on to the caller -/
theorem vx_widen {g : JFrame} {q : Addr} {k n : Nat} (h1 : cells ≤ k) (h2 : slots ≤ n) (kk : vx_W p l e R s m args below meth c H locs k n Q g q) : vx_W p l e R s m args below meth c H locs cells slots Q g q := fun T hT X => kk T hT (stand_widen X h1 h2)
theorem vx_out {pc : Nat} {E : String} {ce : Cell} {q : Addr} {mc ms : Nat} (hout : ∀ x ∈ c.exceptionTable.toList, covers x pc = false) (hlocks : meth.locks = false) (hcell : H[q]? = some ce) (hv : ce.vm = .none) (hcl : s.vm.findClass E = some ce.cls)
    (hx : ∀ t : State, t.heap = H → s.vm.Alike t.vm → XC E s t) (hf : ∀ z ∈ locs, free z.base) (hc : cells ≤ mc) (hs : slots ≤ ms) :
    vx_W p l e R s m args below meth c H locs cells slots (vx_MQ below Qc XC args s mc ms free) (F0 m pc ls rest) q := by
  intro T hT X
  obtain ⟨st1, hrun, hend, hW, hsm⟩ := X.leaveThrown q (g := F0 m pc ls rest) rfl rfl rfl hout hlocks
  have hcell9 : (T.setFrames (.throwing q :: below)).heap[q]? = some ce := by
    show T.heap[q]? = some ce
    rw [hT]; exact hcell
  exact ⟨_, st1, .threw q, hrun, hend, Or.inr ⟨q, rfl, E, ce, locs, hx _ hT hW.alike, hcell9, hv, hcl, hW, hsm.mono hc hs, hf⟩⟩
theorem vx_frame {U : State} {k n : Nat} (h : s.sameButNew ({ U with vm := s.vm } : State) locs k n) : s.heap.size ≤ U.heap.size ∧ ∀ q : Nat, q < s.heap.size → (∀ z ∈ locs, z.base ≠ q) → U.heap[q]? = s.heap[q]? := by
  obtain ⟨-, h2, -, -, -, h6⟩ := h
  refine ⟨h2, fun q hq hz => ?_⟩
  obtain ⟨c9, e1, e2, e3, e4⟩ := h6 q _ (Array.getElem?_eq_getElem hq)
  have hs : c9.slots = (s.heap[q]).slots := Array.ext_getElem? fun i => e4 i fun hm => hz _ hm rfl
  have h9 : c9 = s.heap[q] := by
    rw [hs] at e2
    exact e2
  have e5 : U.heap[q]? = some c9 := e1
  rw [e5, h9, Array.getElem?_eq_getElem hq]
/-- the words of a throw but the four that speak of the heap -/
def vx_no (w : Cond) : Bool := decide (w ≠ .isRef (.static Bundle.tN "UNASSIGNED_STACK" Bundle.steD)) && decide (w ≠ .isRef (.static Bundle.tN "SUPPRESSED_SENTINEL" Bundle.listD)) && decide (w ≠ .laysStatic Bundle.tN "UNASSIGNED_STACK" Bundle.steD) && decide (w ≠ .laysStatic Bundle.tN "SUPPRESSED_SENTINEL" Bundle.listD)
def vx_at0 (own : String) (ic : Nat) (X : String) (names : List String) : List Cond := (Bundle.ownAtoms0 own ic X names).filter vx_no
def vx_atS (own : String) (ic : Nat) (X : String) (names : List String) : List Cond := (Bundle.ownAtoms own ic X names).filter vx_no
/-- a word that the tables alone decide, or a good one -/
def vx_ot (w : Cond) : Bool := w.onTables || goodWord w
theorem vx_ot_at {args a' : Array Value} {s U : State} {w : Cond} (hW : s.WarmedH U.vm) (hvm : s.vm = U.vm) (hg : vx_ot w = true) (h : w.before args s = true) : w.before a' U = true := by
  simp only [vx_ot, Bool.or_eq_true] at hg
  rcases hg with hg | hg
  · exact va_tabs hg hvm h
  · exact word_at hW (good_of_word hg) h
/-- a list's words: the good ones out of the method's own list, the others by premises of their own -/
theorem vx_hat {args : Array Value} {s : State} {L B : List Cond} (h1 : ∀ w ∈ L.filter goodWord, w.before args s = true) (h2 : ∀ w ∈ L.filter (fun w => !goodWord w), w ∈ B) (h3 : ∀ w ∈ B, w.before args s = true) : ∀ w ∈ L, w.before args s = true := by
  intro w hw
  by_cases g : goodWord w = true
  · exact h1 w (List.mem_filter.mpr ⟨hw, g⟩)
  · refine h3 w (h2 w (List.mem_filter.mpr ⟨hw, ?_⟩))
    show (!goodWord w) = true
    cases hgw : goodWord w
    · rfl
    · exact absurd hgw g
theorem vx_c {args : Array Value} {s : State} {w : Cond} {B : List Cond} (h : w.before args s = true) (t : ∀ w ∈ B, w.before args s = true) : ∀ w' ∈ w :: B, w'.before args s = true := fun w' h' => (List.mem_cons.mp h').elim (fun e => by rw [e]; exact h) (t w')
theorem vx_n {args : Array Value} {s : State} : ∀ w ∈ ([] : List Cond), w.before args s = true := fun _ h => nomatch h
theorem vx_own {args : Array Value} {s : State} {L : List Cond} (h1 : ∀ w ∈ L.filter vx_no, w.before args s = true)
    (hU : (Cond.isRef (.static Bundle.tN "UNASSIGNED_STACK" Bundle.steD)).before args s = true) (hN : (Cond.isRef (.static Bundle.tN "SUPPRESSED_SENTINEL" Bundle.listD)).before args s = true)
    (lU : (Cond.laysStatic Bundle.tN "UNASSIGNED_STACK" Bundle.steD).before args s = true) (lN : (Cond.laysStatic Bundle.tN "SUPPRESSED_SENTINEL" Bundle.listD).before args s = true) : ∀ w ∈ L, w.before args s = true := by
  intro w hw
  by_cases e1 : w = .isRef (.static Bundle.tN "UNASSIGNED_STACK" Bundle.steD)
  · rw [e1]; exact hU
  · by_cases e2 : w = .isRef (.static Bundle.tN "SUPPRESSED_SENTINEL" Bundle.listD)
    · rw [e2]; exact hN
    · by_cases e3 : w = .laysStatic Bundle.tN "UNASSIGNED_STACK" Bundle.steD
      · rw [e3]; exact lU
      · by_cases e4 : w = .laysStatic Bundle.tN "SUPPRESSED_SENTINEL" Bundle.listD
        · rw [e4]; exact lN
        · exact h1 w (List.mem_filter.mpr ⟨hw, by unfold vx_no; rw [decide_eq_true e1, decide_eq_true e2, decide_eq_true e3, decide_eq_true e4]; rfl⟩)
/-- where a static field lies, its class's statics cell in H -/
def vx_L (C n d : String) (A : Nat → Prop) (U : State) (H : Heap) : Prop := ∃ (c : ClassId) (k : Class) (i : Nat) (f : Field) (a : Nat) (cell : Cell), U.vm.findClass C = some c ∧ U.fieldFound? C n d = some (c, k, i, f) ∧ f.isStatic = true ∧ k.statics = some a ∧ H[a]? = some cell ∧ cell.vm.isStatics = true ∧ cell.cls = c ∧ f.slot < cell.slots.size ∧ k.staticTypes[f.slot]? = some f.type ∧ ¬ A a
theorem vx_L.moved {C n d : String} {A : Nat → Prop} {u U : State} {H : Heap} (hvm : u.vm.Alike U.vm) (h : vx_L C n d A u H) : vx_L C n d A U H := by
  obtain ⟨c, k, i, f, a, cell, h1, h2, h3, h4, h5, h6, h7, h8, h9, h10⟩ := h
  obtain ⟨k', hi', he⟩ := State.fieldFound?_setVm hvm h2
  exact ⟨c, k', i, f, a, cell, by rw [hvm.findClass]; exact h1, hi', h3, by rw [he]; exact h4, h5, h6, h7, h8, by rw [he]; exact h9, h10⟩
theorem vx_L.kept {C n d : String} {A : Nat → Prop} {U : State} {H H1 : Heap} (h : vx_L C n d A U H) (hq : ∀ a : Nat, a < H.size → ¬ A a → H1[a]? = H[a]?) : vx_L C n d A U H1 := by
  obtain ⟨c, k, i, f, a, cell, h1, h2, h3, h4, h5, h6, h7, h8, h9, h10⟩ := h
  exact ⟨c, k, i, f, a, cell, h1, h2, h3, h4, by rw [hq a (Array.getElem?_eq_some_iff.mp h5).1 h10]; exact h5, h6, h7, h8, h9, h10⟩
theorem vx_L.narrow {C n d : String} {A B : Nat → Prop} {U : State} {H : Heap} (h : vx_L C n d A U H) (hAB : ∀ q, B q → A q) : vx_L C n d B U H := by
  obtain ⟨c, k, i, f, a, cell, h1, h2, h3, h4, h5, h6, h7, h8, h9, h10⟩ := h
  exact ⟨c, k, i, f, a, cell, h1, h2, h3, h4, h5, h6, h7, h8, h9, fun z => h10 (hAB _ z)⟩
theorem vx_L.word {C n d : String} {A : Nat → Prop} {s : State} {args : Array Value} (h : vx_L C n d A s s.heap) : (Cond.laysStatic C n d).before args s = true := by
  obtain ⟨c, k, i, f, a, cell, h1, h2, h3, h4, h5, h6, h7, h8, h9, -⟩ := h
  show (Cond.laysStatic C n d).holds args s none s [] = true
  exact Cond.laysStatic_of h1 h2 h3 h4 h5 h6 h7 h8 h9
/-- .. and what it holds: null or some reference -/
def vx_Zq (C n d : String) (A : Nat → Prop) (U : State) (H : Heap) : Prop := va_Zq C n d A U H ∧ vx_L C n d A U H
theorem vx_Zq.moved {C n d : String} {A : Nat → Prop} {u U : State} {H : Heap} (hvm : u.vm.Alike U.vm) (h : vx_Zq C n d A u H) : vx_Zq C n d A U H := ⟨va_Zq.moved hvm h.1, vx_L.moved hvm h.2⟩
theorem vx_Zq.kept {C n d : String} {A : Nat → Prop} {U : State} {H H1 : Heap} (h : vx_Zq C n d A U H) (hq : ∀ a : Nat, a < H.size → ¬ A a → H1[a]? = H[a]?) : vx_Zq C n d A U H1 := ⟨va_Zq.kept h.1 hq, vx_L.kept h.2 hq⟩
theorem vx_Zq.narrow {C n d : String} {A B : Nat → Prop} {U : State} {H : Heap} (h : vx_Zq C n d A U H) (hAB : ∀ q, B q → A q) : vx_Zq C n d B U H := ⟨va_Zq.narrow h.1 hAB, vx_L.narrow h.2 hAB⟩
theorem vx_Zqof {args : Array Value} {s : State} {C n d : String} {A : Nat → Prop} (hl : (Cond.laysStatic C n d).before args s = true) (hini : (Cond.initialized C).before args s = true) (h : (Cond.isRef (.static C n d)).before args s = true) (hA : ∀ a : Nat, a < s.heap.size → ¬ A a) : vx_Zq C n d A s s.heap := by
  refine ⟨va_Zqof hl hini h hA, ?_⟩
  obtain ⟨c, k, i, f, a, cell, h1, h2, h3, h4, h5, h6, h7, h8, h9⟩ := Cond.laysStatic_spec hl
  exact ⟨c, k, i, f, a, cell, h1, h2, h3, h4, h5, h6, h7, h8, h9, hA a (Array.getElem?_eq_some_iff.mp h5).1⟩
theorem vx_isRef {C n d : String} {v : Value} {A : Nat → Prop} {s : State} {args : Array Value} (h : va_Z C n d v A s s.heap) (hv : v.isRef = true) : (Cond.isRef (.static C n d)).before args s = true := by
  obtain ⟨cf, kf, fi, f, a, cell, h1, h2, h3, h4, h5, h6, h7, -⟩ := h
  have he : (Term.static C n d).eval args s none [] s = some v := by
    simp [Term.eval, State.fieldNamed?, h1, h2, h4, h5, h6, h7]
  simp only [Cond.before, Cond.holds, Cond.value, he]
  cases v <;> simp_all [Value.isRef]
theorem vx_isRefq {C n d : String} {A : Nat → Prop} {s : State} {args : Array Value} (h : va_Zq C n d A s s.heap) : (Cond.isRef (.static C n d)).before args s = true := by
  rcases h with h | ⟨t, h⟩
  · exact vx_isRef h rfl
  · exact vx_isRef h rfl
/-- the same frame, seen from here: as if the method were called anew in this heap -/
theorem vx_rebase {T : State} (X : Stand p l e R s m args below meth c T locs cells slots) {R' : Room} (hf : R'.frames ≤ R.frames) (hl : R'.locals ≤ R.locals) (hc : cells + R'.cells ≤ R.cells) (hs : slots + R'.slots ≤ R.slots) :
    Stand p l e R' ((T.setVm s.vm).setFrames (.invoking m args :: below)) m args below meth c T [] 0 0 := by
  have htop : (T.setVm s.vm).topJava?.isSome := X.here.top
  have hF : ((T.setVm s.vm).setFrames (.invoking m args :: below)).frames = .invoking m args :: below := State.frames_setFrames _ (State.cur_lt_of_top htop)
  obtain ⟨g₀, hg0⟩ := Option.isSome_iff_exists.mp htop
  obtain ⟨r, hr⟩ := State.topJava?_eq_some.mp hg0
  have hl9 : e.platform.stackLimits (T.setVm s.vm).me = e.platform.stackLimits s.me := X.limits
  have hb9 : (T.setVm s.vm).me.stackBytes = s.me.stackBytes := X.bytes
  refine ⟨X.admits, X.cas, X.clock, hF, ?_, X.hears, X.method, X.code, X.here, X.tail, X.warmed, ?_, ?_, ?_⟩
  · have h := X.room
    have hU : ((T.setVm s.vm).setFrames (.invoking m args :: below)).localsInUse = s.localsInUse := by
      rw [State.localsInUse_invoking hF (meth := meth) (c := c) X.method X.code, State.localsInUse_invoking X.frames X.method X.code]
    simp only [State.hasRoom, Bool.and_eq_true, decide_eq_true_eq] at h ⊢
    obtain ⟨⟨⟨⟨h1, h2, h3, h4, h5, h6⟩, h7⟩, h8⟩, h9⟩ := h
    rw [X.frames, List.length_cons] at h2 h3
    have q1 := X.heapSize
    have q2 := X.used
    simp only [hF, hU, List.length_cons, State.stackLimits_setFrames, State.stackBytes_setFrames, hl9, hb9]
    refine ⟨⟨⟨⟨by omega, by omega, by omega, by omega, by omega, h6⟩, ?_⟩, ?_⟩, X.book⟩
    · show T.heap.size + R'.cells ≤ e.platform.maxCells
      omega
    · show T.slotsUsed + R'.slots ≤ e.platform.maxSlots
      omega
  · rw [State.stackLimits_setFrames]; rfl
  · rw [State.stackBytes_setFrames]; rfl
  · refine ⟨?_, Nat.le_refl _, Nat.le_refl _, ?_, ?_, fun a c9 h9 => ⟨c9, h9, rfl, rfl, fun _ _ => rfl⟩⟩
    · obtain ⟨t, ht, -⟩ := State.frames_cons hr
      show T.setVm s.vm = { ((T.setVm s.vm).setFrames (.invoking m args :: below)).setFrames (T.setVm s.vm).frames with heap := T.heap, slotsUsed := T.slotsUsed }
      rw [State.setFrames_setFrames, State.setFrames_self ht]
      rfl
    · show T.slotsUsed = T.slotsUsed + ((T.heap.toList.drop T.heap.size).map (·.slots.size)).sum
      rw [List.drop_eq_nil_of_le (Nat.le_of_eq Array.length_toList)]
      rfl
    · show ((T.heap.toList.drop T.heap.size).map (·.slots.size)).sum ≤ 0
      rw [List.drop_eq_nil_of_le (Nat.le_of_eq Array.length_toList)]
      exact Nat.le_refl _
/-- 'throw new E()': new; dup; invokespecial; athrow -/
theorem vx_throw0 {cc : ByteArray} {pc : Nat} (hexec : p.tables.exec = Jvm.exec) (hb : c.code = cc) (hl : l.stackTraces = false) {own cls : String} {names : List String} {ik ic mc ms : Nat} {A : Nat → Prop}
    (hown : s.vm.findClass own = some m.cls) (hcls : Bundle.fit cls = true) (hnames : ∀ n ∈ names, Bundle.fit n = true)
    (hk : (Cond.classLink own ik cls).before args s = true) (hini : (Cond.initialized cls).before args s = true) (hat : ∀ w ∈ vx_at0 own ic cls names, w.before args s = true)
    (hgood : ∀ w ∈ Cond.classLink own ik cls :: Cond.initialized cls :: vx_at0 own ic cls names, vx_ot w = true)
    (hU : vx_Zq Bundle.tN "UNASSIGNED_STACK" Bundle.steD A s s.heap) (hN : vx_Zq Bundle.tN "SUPPRESSED_SENTINEL" Bundle.listD A s s.heap) (hS : va_S A s.heap H locs) (hsize : ls.size = c.maxLocals)
    (d0 : decode cc pc = .ok (.new ik, 3)) (d3 : decode cc (pc + 3) = .ok (.dup, 1)) (d4 : decode cc (pc + 4) = .ok (.invokespecial ic, 3)) (d7 : decode cc (pc + 7) = .ok (.athrow, 1))
    (hout : ∀ x ∈ c.exceptionTable.toList, covers x (pc + 7) = false)
    (hRframes : names.length + 3 < R.frames) (hRlocals : (rest.map fun v => v.category).sum + (13 * (names.length + 1) + 42) ≤ R.locals) (hRcells : cells + 1 ≤ R.cells) (hRslots : slots + 6 ≤ R.slots) (hlocks : meth.locks = false)
    (hx : ∀ t : State, s.vm.Alike t.vm → H.size ≤ t.heap.size → (∀ q : Nat, q < H.size → t.heap[q]? = H[q]?) → XC cls s t)
    (hf : ∀ z ∈ locs, free z.base) (hc : cells + 1 ≤ mc) (hs : slots + 6 ≤ ms) :
    W p l e R s m args below meth c H locs cells slots (vx_MQ below Qc XC args s mc ms free) (F0 m pc ls rest) := by
  intro T hT X
  have htr : e.platform.stackTraces = false := (show e.platform.stackTraces = l.stackTraces by rw [X.admits.platform]).trans hl
  have Y := vx_rebase X (R' := { frames := R.frames, locals := R.locals, cells := 1, slots := 6 }) (Nat.le_refl _) (Nat.le_refl _) hRcells hRslots
  obtain ⟨s', hA⟩ : ∃ z, z = (T.setVm s.vm).setFrames (.invoking m args :: below) := ⟨_, rfl⟩
  rw [← hA] at Y
  have hvm : s'.vm = s.vm := by rw [hA]; rfl
  have hhp : s'.heap = H := by rw [hA]; exact hT
  have hW0 : s.WarmedH s'.vm := by rw [hvm]; exact State.WarmedH.refl s
  have hat' : ∀ w ∈ vx_at0 own ic cls names, w.before args s' = true := fun w hw => vx_ot_at hW0 hvm.symm (hgood w (List.mem_cons_of_mem _ (List.mem_cons_of_mem _ hw))) (hat w hw)
  have hk' : (Cond.classLink own ik cls).before args s' = true := vx_ot_at hW0 hvm.symm (hgood _ List.mem_cons_self) hk
  have hini' : (Cond.initialized cls).before args s' = true := vx_ot_at hW0 hvm.symm (hgood _ (List.mem_cons_of_mem _ List.mem_cons_self)) hini
  have hU' : vx_Zq Bundle.tN "UNASSIGNED_STACK" Bundle.steD A s' s'.heap := by rw [hhp]; exact vx_Zq.moved hW0.alike (hU.kept hS.2.1)
  have hN' : vx_Zq Bundle.tN "SUPPRESSED_SENTINEL" Bundle.listD A s' s'.heap := by rw [hhp]; exact vx_Zq.moved hW0.alike (hN.kept hS.2.1)
  have h : ∀ w ∈ Bundle.ownAtoms0 own ic cls names, w.before args s' = true := vx_own hat' (vx_isRefq hU'.1) (vx_isRefq hN'.1) hU'.2.word hN'.2.word
  have hown' : s'.vm.findClass own = some m.cls := by rw [hvm]; exact hown
  have hins : (Cond.instantiable cls 6).before args s' = true := h _ (by simp [Bundle.ownAtoms0])
  obtain ⟨vm₁, cX, kX, hfX, hkX, -, -, X₁, st1⟩ := Y.newCold hexec (own := own) (C := cls) (index := ik) (n := 6) hown' hk' hins hini'
    (g := F0 m pc ls rest) rfl (by rw [hb]; exact d0) (Nat.le_refl _) (Nat.le_refl _)
  generalize hT1 : (T.setVm vm₁).pushCell { cls := cX, slots := kX.instanceTypes.map defaultValue, vm := .none } = T1 at X₁ st1
  have hcat : (Value.ref T.heap.size).category = 1 := rfl
  have hcellA : T1.heap[T.heap.size]? = some (freshCell cX kX) := by rw [← hT1]; exact State.heap_pushCell_size _ _
  have d3' : decode c.code (pc + 3) = .ok (.dup, 1) := by rw [hb]; exact d3
  obtain ⟨U, hsteps, hrun, hend, hW, hsame, ce, hce, hO⟩ := X₁.ctorThrow0 hexec htr (own := own) (cls := cls) (names := names) (ic := ic) hown' hcls hnames h (fun x hx => nomatch hx) hfX hkX hcellA (by rw [hhp, hT]; exact Nat.le_refl _)
    (g := { method := m, pc := pc + 4, locals := ls, stack := .ref T.heap.size :: .ref T.heap.size :: rest, locked := none }) rfl hsize rfl rfl (rest := rest) rfl
    (by rw [hb]; exact d4) (by rw [hb]; exact d7) hout hRframes (by simp only [List.map_cons, List.sum_cons, hcat]; omega) hlocks
  obtain ⟨f1, f2⟩ := vx_frame hsame
  rw [hhp] at f1 f2
  have hWs : s.WarmedH U.vm := State.WarmedH.trans hW0 hW
  have hcl : s.vm.findClass cls = some ce.cls := by
    have h9 := hO.cls
    rw [hvm] at h9
    exact h9
  have hall : s.sameButNew ({ U with vm := s.vm } : State) locs mc ms := by
    subst hA
    obtain ⟨e1, e2⟩ := hsame
    rw [State.setFrames_setFrames] at e1
    have h2 : (T.setVm s.vm).sameButNew ({ U with vm := s.vm } : State) [] (0 + 1) (0 + 6) := ⟨e1, e2⟩
    have h3 := X.same.trans h2
    rw [List.append_nil] at h3
    exact h3.mono hc hs
  refine ⟨U, ?_, .threw T.heap.size, hrun, hend, Or.inr ⟨T.heap.size, rfl, cls, ce, locs, hx U hWs.alike f1 (fun q hq => f2 q hq (fun z hz => nomatch hz)), hce, hO.vm, hcl, hWs, hall, hf⟩⟩
  refine st1 _ ?_
  show Steps p.tables e below (T1.setTop { method := m, pc := pc + 3, locals := ls, stack := .ref T.heap.size :: rest, locked := none }) _
  jvm_step X₁.here [X₁.here.top, hexec, d3', Value.category]
  exact hsteps
/-- 'throw new E("text")': new; dup; ldc; invokespecial; athrow -/
theorem vx_throwS {cc : ByteArray} {pc : Nat} (hexec : p.tables.exec = Jvm.exec) (hb : c.code = cc) (hl : l.stackTraces = false) {own cls text : String} {names : List String} {ik is ic mc ms sa : Nat} {A : Nat → Prop}
    (hown : s.vm.findClass own = some m.cls) (hcls : Bundle.fit cls = true) (hnames : ∀ n ∈ names, Bundle.fit n = true)
    (hk : (Cond.classLink own ik cls).before args s = true) (hini : (Cond.initialized cls).before args s = true) (hstr : vk_R own is text sa s) (hat : ∀ w ∈ vx_atS own ic cls names, w.before args s = true)
    (hgood : ∀ w ∈ Cond.classLink own ik cls :: Cond.initialized cls :: vx_atS own ic cls names, vx_ot w = true)
    (hU : vx_Zq Bundle.tN "UNASSIGNED_STACK" Bundle.steD A s s.heap) (hN : vx_Zq Bundle.tN "SUPPRESSED_SENTINEL" Bundle.listD A s s.heap) (hS : va_S A s.heap H locs) (hsize : ls.size = c.maxLocals)
    (d0 : decode cc pc = .ok (.new ik, 3)) (d3 : decode cc (pc + 3) = .ok (.dup, 1)) (d4 : decode cc (pc + 4) = .ok (.ldc is, 2)) (d6 : decode cc (pc + 6) = .ok (.invokespecial ic, 3)) (d9 : decode cc (pc + 9) = .ok (.athrow, 1))
    (hout : ∀ x ∈ c.exceptionTable.toList, covers x (pc + 9) = false)
    (hRframes : names.length + 3 < R.frames) (hRlocals : (rest.map fun v => v.category).sum + (13 * (names.length + 1) + 43) ≤ R.locals) (hRcells : cells + 1 ≤ R.cells) (hRslots : slots + 6 ≤ R.slots) (hlocks : meth.locks = false)
    (hx : ∀ t : State, s.vm.Alike t.vm → H.size ≤ t.heap.size → (∀ q : Nat, q < H.size → t.heap[q]? = H[q]?) → XC cls s t)
    (hf : ∀ z ∈ locs, free z.base) (hc : cells + 1 ≤ mc) (hs : slots + 6 ≤ ms) :
    W p l e R s m args below meth c H locs cells slots (vx_MQ below Qc XC args s mc ms free) (F0 m pc ls rest) := by
  intro T hT X
  have htr : e.platform.stackTraces = false := (show e.platform.stackTraces = l.stackTraces by rw [X.admits.platform]).trans hl
  have Y := vx_rebase X (R' := { frames := R.frames, locals := R.locals, cells := 1, slots := 6 }) (Nat.le_refl _) (Nat.le_refl _) hRcells hRslots
  obtain ⟨s', hA⟩ : ∃ z, z = (T.setVm s.vm).setFrames (.invoking m args :: below) := ⟨_, rfl⟩
  rw [← hA] at Y
  have hvm : s'.vm = s.vm := by rw [hA]; rfl
  have hhp : s'.heap = H := by rw [hA]; exact hT
  have hW0 : s.WarmedH s'.vm := by rw [hvm]; exact State.WarmedH.refl s
  have hat' : ∀ w ∈ vx_atS own ic cls names, w.before args s' = true := fun w hw => vx_ot_at hW0 hvm.symm (hgood w (List.mem_cons_of_mem _ (List.mem_cons_of_mem _ hw))) (hat w hw)
  have hk' : (Cond.classLink own ik cls).before args s' = true := vx_ot_at hW0 hvm.symm (hgood _ List.mem_cons_self) hk
  have hini' : (Cond.initialized cls).before args s' = true := vx_ot_at hW0 hvm.symm (hgood _ (List.mem_cons_of_mem _ List.mem_cons_self)) hini
  have hU' : vx_Zq Bundle.tN "UNASSIGNED_STACK" Bundle.steD A s' s'.heap := by rw [hhp]; exact vx_Zq.moved hW0.alike (hU.kept hS.2.1)
  have hN' : vx_Zq Bundle.tN "SUPPRESSED_SENTINEL" Bundle.listD A s' s'.heap := by rw [hhp]; exact vx_Zq.moved hW0.alike (hN.kept hS.2.1)
  have h : ∀ w ∈ Bundle.ownAtoms own ic cls names, w.before args s' = true := vx_own hat' (vx_isRefq hU'.1) (vx_isRefq hN'.1) hU'.2.word hN'.2.word
  have hown' : s'.vm.findClass own = some m.cls := by rw [hvm]; exact hown
  have hins : (Cond.instantiable cls 6).before args s' = true := h _ (by simp [Bundle.ownAtoms])
  obtain ⟨vm₁, cX, kX, hfX, hkX, -, -, X₁, st1⟩ := Y.newCold hexec (own := own) (C := cls) (index := ik) (n := 6) hown' hk' hins hini'
    (g := F0 m pc ls rest) rfl (by rw [hb]; exact d0) (Nat.le_refl _) (Nat.le_refl _)
  generalize hT1 : (T.setVm vm₁).pushCell { cls := cX, slots := kX.instanceTypes.map defaultValue, vm := .none } = T1 at X₁ st1
  have hcat : (Value.ref T.heap.size).category = 1 := rfl
  have hcellA : T1.heap[T.heap.size]? = some (freshCell cX kX) := by rw [← hT1]; exact State.heap_pushCell_size _ _
  have d3' : decode c.code (pc + 3) = .ok (.dup, 1) := by rw [hb]; exact d3
  have d4' : decode c.code (pc + 4) = .ok (.ldc is, 2) := by rw [hb]; exact d4
  have hstr' : vk_R own is text sa s' := vk_R.warm hW0 hstr
  obtain ⟨U, hsteps, hrun, hend, hW, hsame, ce, hce, hO⟩ := X₁.ctorThrowS hexec htr (own := own) (cls := cls) (names := names) (ic := ic) hown' hcls hnames h (fun x hx => nomatch hx) hfX hkX hcellA (by rw [hhp, hT]; exact Nat.le_refl _) (msg := .ref sa) rfl
    (g := { method := m, pc := pc + 6, locals := ls, stack := .ref sa :: .ref T.heap.size :: .ref T.heap.size :: rest, locked := none }) rfl hsize rfl rfl (rest := rest) rfl
    (by rw [hb]; exact d6) (by rw [hb]; exact d9) hout hRframes (by simp only [List.map_cons, List.sum_cons, hcat]; omega) hlocks
  obtain ⟨f1, f2⟩ := vx_frame hsame
  rw [hhp] at f1 f2
  have hWs : s.WarmedH U.vm := State.WarmedH.trans hW0 hW
  have hcl : s.vm.findClass cls = some ce.cls := by
    have h9 := hO.cls
    rw [hvm] at h9
    exact h9
  have hall : s.sameButNew ({ U with vm := s.vm } : State) locs mc ms := by
    subst hA
    obtain ⟨e1, e2⟩ := hsame
    rw [State.setFrames_setFrames] at e1
    have h2 : (T.setVm s.vm).sameButNew ({ U with vm := s.vm } : State) [] (0 + 1) (0 + 6) := ⟨e1, e2⟩
    have h3 := X.same.trans h2
    rw [List.append_nil] at h3
    exact h3.mono hc hs
  refine ⟨U, ?_, .threw T.heap.size, hrun, hend, Or.inr ⟨T.heap.size, rfl, cls, ce, locs, hx U hWs.alike f1 (fun q hq => f2 q hq (fun z hz => nomatch hz)), hce, hO.vm, hcl, hWs, hall, hf⟩⟩
  refine st1 _ ?_
  show Steps p.tables e below (T1.setTop { method := m, pc := pc + 3, locals := ls, stack := .ref T.heap.size :: rest, locked := none }) _
  jvm_step X₁.here [X₁.here.top, hexec, d3', Value.category]
  exact X₁.ldcString hexec (own := own) (text := text) (index := is) (a := sa) hown' hstr'.1 hstr'.2
    (g := { method := m, pc := pc + 4, locals := ls, stack := .ref T.heap.size :: .ref T.heap.size :: rest, locked := none }) rfl d4' _ hsteps
/-- 'throw new E("text")', the text by a wide index -/
theorem vx_throwSW {cc : ByteArray} {pc : Nat} (hexec : p.tables.exec = Jvm.exec) (hb : c.code = cc) (hl : l.stackTraces = false) {own cls text : String} {names : List String} {ik is ic mc ms sa : Nat} {A : Nat → Prop}
    (hown : s.vm.findClass own = some m.cls) (hcls : Bundle.fit cls = true) (hnames : ∀ n ∈ names, Bundle.fit n = true)
    (hk : (Cond.classLink own ik cls).before args s = true) (hini : (Cond.initialized cls).before args s = true) (hstr : vk_R own is text sa s) (hat : ∀ w ∈ vx_atS own ic cls names, w.before args s = true)
    (hgood : ∀ w ∈ Cond.classLink own ik cls :: Cond.initialized cls :: vx_atS own ic cls names, vx_ot w = true)
    (hU : vx_Zq Bundle.tN "UNASSIGNED_STACK" Bundle.steD A s s.heap) (hN : vx_Zq Bundle.tN "SUPPRESSED_SENTINEL" Bundle.listD A s s.heap) (hS : va_S A s.heap H locs) (hsize : ls.size = c.maxLocals)
    (d0 : decode cc pc = .ok (.new ik, 3)) (d3 : decode cc (pc + 3) = .ok (.dup, 1)) (d4 : decode cc (pc + 4) = .ok (.ldc_w is, 3)) (d7 : decode cc (pc + 7) = .ok (.invokespecial ic, 3)) (d10 : decode cc (pc + 10) = .ok (.athrow, 1))
    (hout : ∀ x ∈ c.exceptionTable.toList, covers x (pc + 10) = false)
    (hRframes : names.length + 3 < R.frames) (hRlocals : (rest.map fun v => v.category).sum + (13 * (names.length + 1) + 43) ≤ R.locals) (hRcells : cells + 1 ≤ R.cells) (hRslots : slots + 6 ≤ R.slots) (hlocks : meth.locks = false)
    (hx : ∀ t : State, s.vm.Alike t.vm → H.size ≤ t.heap.size → (∀ q : Nat, q < H.size → t.heap[q]? = H[q]?) → XC cls s t)
    (hf : ∀ z ∈ locs, free z.base) (hc : cells + 1 ≤ mc) (hs : slots + 6 ≤ ms) :
    W p l e R s m args below meth c H locs cells slots (vx_MQ below Qc XC args s mc ms free) (F0 m pc ls rest) := by
  intro T hT X
  have htr : e.platform.stackTraces = false := (show e.platform.stackTraces = l.stackTraces by rw [X.admits.platform]).trans hl
  have Y := vx_rebase X (R' := { frames := R.frames, locals := R.locals, cells := 1, slots := 6 }) (Nat.le_refl _) (Nat.le_refl _) hRcells hRslots
  obtain ⟨s', hA⟩ : ∃ z, z = (T.setVm s.vm).setFrames (.invoking m args :: below) := ⟨_, rfl⟩
  rw [← hA] at Y
  have hvm : s'.vm = s.vm := by rw [hA]; rfl
  have hhp : s'.heap = H := by rw [hA]; exact hT
  have hW0 : s.WarmedH s'.vm := by rw [hvm]; exact State.WarmedH.refl s
  have hat' : ∀ w ∈ vx_atS own ic cls names, w.before args s' = true := fun w hw => vx_ot_at hW0 hvm.symm (hgood w (List.mem_cons_of_mem _ (List.mem_cons_of_mem _ hw))) (hat w hw)
  have hk' : (Cond.classLink own ik cls).before args s' = true := vx_ot_at hW0 hvm.symm (hgood _ List.mem_cons_self) hk
  have hini' : (Cond.initialized cls).before args s' = true := vx_ot_at hW0 hvm.symm (hgood _ (List.mem_cons_of_mem _ List.mem_cons_self)) hini
  have hU' : vx_Zq Bundle.tN "UNASSIGNED_STACK" Bundle.steD A s' s'.heap := by rw [hhp]; exact vx_Zq.moved hW0.alike (hU.kept hS.2.1)
  have hN' : vx_Zq Bundle.tN "SUPPRESSED_SENTINEL" Bundle.listD A s' s'.heap := by rw [hhp]; exact vx_Zq.moved hW0.alike (hN.kept hS.2.1)
  have h : ∀ w ∈ Bundle.ownAtoms own ic cls names, w.before args s' = true := vx_own hat' (vx_isRefq hU'.1) (vx_isRefq hN'.1) hU'.2.word hN'.2.word
  have hown' : s'.vm.findClass own = some m.cls := by rw [hvm]; exact hown
  have hins : (Cond.instantiable cls 6).before args s' = true := h _ (by simp [Bundle.ownAtoms])
  obtain ⟨vm₁, cX, kX, hfX, hkX, -, -, X₁, st1⟩ := Y.newCold hexec (own := own) (C := cls) (index := ik) (n := 6) hown' hk' hins hini'
    (g := F0 m pc ls rest) rfl (by rw [hb]; exact d0) (Nat.le_refl _) (Nat.le_refl _)
  generalize hT1 : (T.setVm vm₁).pushCell { cls := cX, slots := kX.instanceTypes.map defaultValue, vm := .none } = T1 at X₁ st1
  have hcat : (Value.ref T.heap.size).category = 1 := rfl
  have hcellA : T1.heap[T.heap.size]? = some (freshCell cX kX) := by rw [← hT1]; exact State.heap_pushCell_size _ _
  have d3' : decode c.code (pc + 3) = .ok (.dup, 1) := by rw [hb]; exact d3
  have d4' : decode c.code (pc + 4) = .ok (.ldc_w is, 3) := by rw [hb]; exact d4
  have hstr' : vk_R own is text sa s' := vk_R.warm hW0 hstr
  obtain ⟨U, hsteps, hrun, hend, hW, hsame, ce, hce, hO⟩ := X₁.ctorThrowS hexec htr (own := own) (cls := cls) (names := names) (ic := ic) hown' hcls hnames h (fun x hx => nomatch hx) hfX hkX hcellA (by rw [hhp, hT]; exact Nat.le_refl _) (msg := .ref sa) rfl
    (g := { method := m, pc := pc + 7, locals := ls, stack := .ref sa :: .ref T.heap.size :: .ref T.heap.size :: rest, locked := none }) rfl hsize rfl rfl (rest := rest) rfl
    (by rw [hb]; exact d7) (by rw [hb]; exact d10) hout hRframes (by simp only [List.map_cons, List.sum_cons, hcat]; omega) hlocks
  obtain ⟨f1, f2⟩ := vx_frame hsame
  rw [hhp] at f1 f2
  have hWs : s.WarmedH U.vm := State.WarmedH.trans hW0 hW
  have hcl : s.vm.findClass cls = some ce.cls := by
    have h9 := hO.cls
    rw [hvm] at h9
    exact h9
  have hall : s.sameButNew ({ U with vm := s.vm } : State) locs mc ms := by
    subst hA
    obtain ⟨e1, e2⟩ := hsame
    rw [State.setFrames_setFrames] at e1
    have h2 : (T.setVm s.vm).sameButNew ({ U with vm := s.vm } : State) [] (0 + 1) (0 + 6) := ⟨e1, e2⟩
    have h3 := X.same.trans h2
    rw [List.append_nil] at h3
    exact h3.mono hc hs
  refine ⟨U, ?_, .threw T.heap.size, hrun, hend, Or.inr ⟨T.heap.size, rfl, cls, ce, locs, hx U hWs.alike f1 (fun q hq => f2 q hq (fun z hz => nomatch hz)), hce, hO.vm, hcl, hWs, hall, hf⟩⟩
  refine st1 _ ?_
  show Steps p.tables e below (T1.setTop { method := m, pc := pc + 3, locals := ls, stack := .ref T.heap.size :: rest, locked := none }) _
  jvm_step X₁.here [X₁.here.top, hexec, d3', Value.category]
  exact X₁.ldcStringW hexec (own := own) (text := text) (index := is) (a := sa) hown' hstr'.1 hstr'.2
    (g := { method := m, pc := pc + 4, locals := ls, stack := .ref T.heap.size :: .ref T.heap.size :: rest, locked := none }) rfl d4' _ hsteps
end Ends
section Bodies
variable {l : Launch}
theorem vx_ofW {y : MethodName} {ws ws' : List Cond} {rm : Room} {Pc : Array Value → State → Prop} {Qc : Array Value → State → Outcome → State → Prop} {XC : String → State → State → Prop} {mc ms : Nat} {free : Addr → Prop} {cc : ByteArray} {maxL : Nat} {ret : Option FieldType}
    (hy : plainName y.cls = true) (hw : ws = Cond.code y cc maxL ret :: ws')
    (body : ∀ p e s m args below meth c s₁, BodyLoose p l y (headSpec ws rm) cc maxL ret e s m args below meth c s₁ → c.maxLocals = maxL → (∀ x ∈ c.exceptionTable.toList, False) → Pc args s →
      W p l e (headSpec ws rm).room s m args below meth c s.heap [] 0 0 (vx_MQ below Qc XC args s mc ms free) (entryFrame m args maxL)) : vx_Met l y ws rm Pc Qc XC mc ms free := by
  refine MetFree.of_bodyS (code := cc) (maxLocals := maxL) (ret := ret) hy ?_ ?_
  · intro args s m h hn
    obtain ⟨meth, c, h1, h2, h3, h4, h5, h6, -, -⟩ := Cond.code_spec hn (atoms_spec (ws := ws) h _ (by rw [hw]; exact List.mem_cons_self))
    exact ⟨meth, c, h1, h2, h3, h4, h5, h6⟩
  · intro p e s m args below meth c s₁ B hml hP _
    have hh0 : s₁.heap = s.heap := by rw [B.state]; rfl
    have ht : ∀ x ∈ c.exceptionTable.toList, False := by
      obtain ⟨meth9, c9, h1, h2, -, -, -, -, h7, -⟩ := Cond.code_spec B.named (atoms_spec (ws := ws) B.pre _ (by rw [hw]; exact List.mem_cons_self))
      cases Option.some.inj (h1.symm.trans B.method)
      cases Option.some.inj (h2.symm.trans (Stand.of_body B).code)
      intro x hx
      rw [Array.isEmpty_iff.mp h7] at hx
      cases hx
    obtain ⟨t, a1, o, b1, b2, b3⟩ := body p e s m args below meth c s₁ B hml ht hP s₁ hh0 (Stand.of_body B)
    exact ⟨t, o, a1, b1, b2, b3⟩
/-- the table of a body with handlers -/
theorem vx_table {p : Program} {x y : MethodName} {S : Spec} {cc bytes : ByteArray} {maxL maxL' : Nat} {ret ret' : Option FieldType} {e : Env} {s s₁ : State} {m : MethodId} {args : Array Value} {below : List Frame} {meth : Method} {c : Code} {hh : List (Nat × Nat × Nat × Nat)}
    (B : BodyLoose p l y S cc maxL ret e s m args below meth c s₁) (h : (Cond.codeWith y bytes maxL' ret' hh).before args s = true) : c.exceptionTable.toList = tableOf hh := by
  obtain ⟨m9, meth9, c9, hn9, h1, h2, -, -, h6, -⟩ := Cond.codeWith_spec h
  cases Option.some.inj (hn9.symm.trans B.named)
  cases Option.some.inj (h1.symm.trans B.method)
  cases Option.some.inj (h2.symm.trans (Stand.of_body B).code)
  rw [← h6, table_eq]
end Bodies
end VXA
/-! ===== END ===== -/
/-! ===== BEGIN a static call of a method with an exception table ===== -/
section VXS
variable {p : Program} {l : Launch} {e : Env} {R : Room} {s : State} {m : MethodId} {args : Array Value} {below : List Frame} {meth : Method} {c : Code} {T : State} {H : Heap} {locs : List Loc} {cells slots : Nat}
abbrev vx_CSW (R : Room) (s : State) (args : Array Value) (own : String) (index : Nat) (y : MethodName) (bytes : ByteArray) (maxL : Nat) (ret : Option FieldType) (hh : List (Nat × Nat × Nat × Nat)) (ws : List Cond) (rm : Room) (mc ms n : Nat) : Prop :=
  (rm.cells = mc ∧ rm.slots = ms ∧ rm.frames + 1 ≤ R.frames ∧ 8 + (maxL + 11) + rm.locals ≤ R.locals ∧ (∀ w ∈ ws, ∀ (a' : Array Value) (U : State), s.WarmedH U.vm → w.before a' U = true) ∧ Cond.codeWith y bytes maxL ret hh ∈ ws) ∧
  (Cond.codeWith y bytes maxL ret hh).before args s = true ∧ (Cond.initialized y.cls).before args s = true ∧ (y.cls ≠ "java/lang/invoke/MethodHandle" ∧ y.cls ≠ "java/lang/invoke/VarHandle") ∧
  (∀ sig, parseMethodDescriptor y.desc = some sig → n = sig.parameters.length) ∧ (Cond.methodLink own index y).before args s = true ∧ (Cond.static y).before args s = true
theorem vx_cwSW {own : String} {index maxL mc ms : Nat} {y : MethodName} {bytes : ByteArray} {ret : Option FieldType} {hh : List (Nat × Nat × Nat × Nat)} {Ts ws ws' : List Cond} {rm : Room} (n : Nat) (ht : ∀ w ∈ Ts, w.before args s = true) (hT : GoodIn Ts (va_wsS own index y ws)) (hw : ws = Cond.codeWith y bytes maxL ret hh :: ws') (hrc : rm.cells = mc) (hrs : rm.slots = ms)
    (hd : y.cls ≠ "java/lang/invoke/MethodHandle" ∧ y.cls ≠ "java/lang/invoke/VarHandle" ∧ (parseMethodDescriptor y.desc).map (fun d => d.parameters.length) = some n) (hR : rm.frames + 1 ≤ R.frames ∧ 8 + (maxL + 11) + rm.locals ≤ R.locals) :
    vx_CSW R s args own index y bytes maxL ret hh ws rm mc ms n := by
  have ok : ∀ w ∈ va_wsS own index y ws, w.before args s = true := fun w h => ht w (hT w h).1
  have hG : GoodIn Ts ws := fun w h => hT w (by unfold va_wsS; exact List.mem_append_right _ h)
  have hc : Cond.codeWith y bytes maxL ret hh ∈ ws := by rw [hw]; exact List.mem_cons_self
  refine ⟨⟨hrc, hrs, hR.1, hR.2, pay_in ht hG, hc⟩, ht _ (hG _ hc).1, ok _ (by simp [va_wsS]), ⟨hd.1, hd.2.1⟩, fun sig h => ?_, ok _ (by simp [va_wsS]), ok _ (by simp [va_wsS])⟩
  have h2 := hd.2.2
  rw [h] at h2
  exact (Option.some.inj h2).symm
theorem vx_callSW (X : Stand p l e R s m args below meth c T locs cells slots) (hexec : p.tables.exec = Jvm.exec) {own : String} {index : Nat} {y : MethodName} {bytes : ByteArray} {maxL : Nat} {ret : Option FieldType} {hh : List (Nat × Nat × Nat × Nat)}
    (hown : s.vm.findClass own = some m.cls) (hlink : (Cond.methodLink own index y).before args s = true) (hstat : (Cond.static y).before args s = true) (hinit : (Cond.initialized y.cls).before args s = true)
    (hcode : (Cond.codeWith y bytes maxL ret hh).before args s = true) (hy : y.cls ≠ "java/lang/invoke/MethodHandle" ∧ y.cls ≠ "java/lang/invoke/VarHandle")
    {W9 : Nat} {Pre : Pt → Array Value → Prop} {Post : Pt → Array Value → Option Value → Pt → Prop} (hK : Back l R p e below s args y 3 W9 Pre Post)
    {g : JFrame} (hg : g.method = m) (hsize : g.locals.size = c.maxLocals) {argsL rest : List Value} (hlen : ∀ sig, parseMethodDescriptor y.desc = some sig → argsL.length = sig.parameters.length)
    (hstack : g.stack = argsL.reverse ++ rest) (hW : 2 * g.monitorRoom + (rest.map fun v => v.category).sum ≤ W9) (hdg : decode c.code g.pc = .ok (.invokestatic index, 3))
    (hpre : ∀ vm₁, s.WarmedH vm₁ → Pre ⟨T.setVm vm₁, locs, cells, slots⟩ argsL.toArray) :
    ∃ (v : Option Value) (vm₁ : Vm) (B : Pt), s.WarmedH vm₁ ∧ Stand p l e R s m args below meth c B.U B.locs B.cells B.slots ∧ Post ⟨T.setVm vm₁, locs, cells, slots⟩ argsL.toArray v B ∧
      ∀ target, Steps p.tables e below (B.U.setTop { g with pc := g.pc + 3, stack := v.toList ++ rest }) target → Steps p.tables e below (T.setTop g) target := by
  obtain ⟨mk, methM, cM, hnamed, hmethM, -, -, -, -, -, -, hsigM⟩ := Cond.codeWith_spec hcode
  have hstatic : methM.isStatic = true := Cond.static_spec hnamed hmethM hstat
  obtain ⟨kP, hkP, -⟩ := className_of_methodNamed hnamed
  have hinitP : kP.init = .initialized := Cond.initialized_spec (findClass_of_methodNamed hnamed) hkP hinit
  obtain ⟨vm₁, X₁, hstep₁⟩ := X.invokestatic hexec hown hlink hnamed hmethM hstatic hkP hinitP hy (g := g) hg (argsL := argsL) (rest := rest) (hlen _ hsigM) hstack hdg
  obtain ⟨v, B, X', hpost, hsteps⟩ := hK m meth c ⟨T.setVm vm₁, locs, cells, slots⟩ { g with stack := rest } (.invokestatic index) mk argsL.toArray X₁ hg hsize hdg hW (X₁.named hnamed) (hpre vm₁ X₁.warmed)
  exact ⟨v, vm₁, B, X₁.warmed, X', hpost, fun target h => hstep₁ _ fun acts => by rw [doInvoke_state]; exact hsteps.trans h⟩
theorem vx_runSW {y : MethodName} {bytes cc : ByteArray} {maxL nL mc ms n index : Nat} {ret : Option FieldType} {hh : List (Nat × Nat × Nat × Nat)} {ws : List Cond} {rm : Room} {Pc : Array Value → State → Prop} {Qc : Array Value → State → Outcome → State → Prop} {free : Addr → Prop} {Ts : List Cond} {own : String} {As rest : List Value} {g : JFrame}
    (S : CallFix p m c cc nL s args Ts own) (hM : Met l y ws rm Pc Qc mc ms free) (cw : vx_CSW R s args own index y bytes maxL ret hh ws rm mc ms n) (hp : PreS s H Pc As)
    (hg : g.method = m) (hn : As.length = n) (hsize : g.locals.size = nL) (hstack : g.stack = As.reverse ++ rest) (hW : 2 * g.monitorRoom + (rest.map fun v => v.category).sum ≤ 8) (hdg : decode cc g.pc = .ok (.invokestatic index, 3)) (hf : cells + mc ≤ R.cells ∧ slots + ms ≤ R.slots) :
    va_Run p l e R s m args below meth c H locs cells slots mc ms g rest (Qc As.toArray) (free) := by
  obtain ⟨⟨hrc, hrs, hfr, hlo, hws, hcw⟩, hcode, hini, hy, hlen, hl, hstt⟩ := cw
  have hK : Back l R p e below s args y 3 8 (PreOf R mc ms Pc) (PostOf Qc mc ms free) := va_backW (hh := hh) (bytes := bytes) (maxL := maxL) (ret := ret) hM hp.1 hrc hrs hfr hlo hws hcw (fun a' U hW => word_at hW (Or.inl (by first | rfl | simp [Cond.onTables, Cond.keeps, Cond.steady])) hini)
  obtain ⟨hx, hb, hml, ho, -⟩ := S
  intro T hT X
  obtain ⟨v, vm₁, ⟨U', l2, c2, s2⟩, hW₁, X', ⟨g', mk, t, L, e1, e2, hq, h1, hL, h2, h3⟩, st⟩ := vx_callSW X hx (hh := hh) (bytes := bytes) (maxL := maxL) (ret := ret) ho hl hstt hini hcode hy hK hg (hsize.trans hml.symm) (argsL := As) (rest := rest) (fun sig h => hn.trans (hlen sig h)) hstack hW (by rw [hb]; exact hdg)
    (fun vm₁ hW₁ => ⟨hf.1, hf.2, hp.2 (T.setVm vm₁) hT hW₁⟩)
  dsimp only [Pt.U, Pt.locs, Pt.cells, Pt.slots] at X' e1 e2 h1 h2 h3 st
  subst h1; subst h2; subst h3
  exact ⟨v, (T.setVm vm₁).calling g' mk As.toArray, t, U', L, hT, X', hL, e1, e2, hq, st⟩
/-- not caught here, past rows that name other classes: it goes on to the caller -/
theorem vx_outP {p : Program} {l : Launch} {e : Env} {R : Room} {s : State} {m : MethodId} {args : Array Value} {below : List Frame} {meth : Method} {c : Code} {H : Heap} {locs : List Loc} {cells slots : Nat} {free : Addr → Prop} {ls : Array Slot} {rest : List Value} {Qc : Array Value → State → Outcome → State → Prop} {XC : String → State → State → Prop}
    {pc : Nat} {own E : String} {ce : Cell} {q : Addr} {mc ms : Nat} (hown : s.vm.findClass own = some m.cls) (hlocks : meth.locks = false)
    (hpass : ∀ z ∈ c.exceptionTable.toList, covers z pc = false ∨ (z.catchType ≠ 0 ∧ ∃ nm : String, (Cond.classLink own z.catchType nm).before args s = true ∧ va_Nc E nm s)) (hcell : H[q]? = some ce) (hv : ce.vm = .none) (hcl : s.vm.findClass E = some ce.cls)
    (hx : ∀ t : State, t.heap = H → s.vm.Alike t.vm → XC E s t) (hf : ∀ z ∈ locs, free z.base) (hc : cells ≤ mc) (hs : slots ≤ ms) :
    vx_W p l e R s m args below meth c H locs cells slots (vx_MQ below Qc XC args s mc ms free) (F0 m pc ls rest) q := by
  intro T hT X
  have hpl : e.platform.magicAccessors = ({} : Platform).magicAccessors := by rw [X.admits.platform]
  obtain ⟨vm', hW', X', st⟩ := X.outThrough hlocks q (g := F0 m pc ls rest) rfl rfl rfl (cell := ce) (by rw [hT]; exact hcell) (by rw [hv]; rfl)
    (by obtain ⟨k9, h9, -⟩ := Vm.findClass_spec hcl; exact ⟨k9, h9⟩) (fun z hz => by
      rcases hpass z hz with h | ⟨hz0, nm, hl1, hn1⟩
      · exact Or.inl h
      · obtain ⟨c6, hc6, hcl6⟩ := Cond.classLink_spec hown hl1 e.platform hpl
        obtain ⟨a8, b8, h1, h2, h3⟩ := hn1
        cases Option.some.inj (h1.symm.trans hcl)
        cases Option.some.inj (h2.symm.trans hc6)
        exact Or.inr ⟨hz0, _, hcl6, h3⟩)
  obtain ⟨g₀, hfr⟩ := X'.frames_eq
  have hcell9 : ((T.setVm vm').setFrames (.throwing q :: below)).heap[q]? = some ce := by
    show T.heap[q]? = some ce
    rw [hT]; exact hcell
  have hend : Ended ((T.setVm vm').setFrames (.throwing q :: below)) below (.threw q) := State.frames_setFrames _ (State.cur_lt_of_frames hfr)
  refine ⟨(T.setVm vm').setFrames (.throwing q :: below), ?_, .threw q, X'.here.running, hend, Or.inr ⟨q, rfl, E, ce, locs, hx _ hT (X'.ends _).1.alike, hcell9, hv, hcl, (X'.ends _).1, (X'.ends _).2.mono hc hs, hf⟩⟩
  rw [X.pushThrowing_eq]
  exact st
/-- a thing of a world lies in the heap -/
theorem vx_lt {D : va_G} {cl : List vw_C} {ws : va_W} {H1 : Heap} (h : va_P D cl ws H1) {k : Nat} {q : Nat × va_E} (hk : ws[k]? = some q) : q.1 < H1.size := (h k q hk).lt
end VXS
/-! ===== END ===== -/
/-! ===== BEGIN methods with a table of their own: called by a name, returning or throwing ===== -/
section VXH
/-! vx_backW, vx_callVX, vx_callSX, vx_callVW, vx_runVW, vx_runVX, vx_runSX, vx_ofWH follow the same proofs as their sisters above (Free/Laws.lean, Shelf42/LK1.lean); vx_outP calls Shelf42/NT130.lean (outThrough). -/
section
variable {l : Launch} {R : Room} {p : Program} {e : Env} {below : List Frame} {s : State} {sargs : Array Value} {y : MethodName} {len W9 : Nat}
theorem vx_backW {ws : List Cond} {rm : Room} {Pc : Array Value → State → Prop} {Qc : Array Value → State → Outcome → State → Prop} {XC : String → State → State → Prop} {mc ms : Nat} {free : Addr → Prop} {bytes : ByteArray} {maxL : Nat} {ret : Option FieldType} {hh : List (Nat × Nat × Nat × Nat)}
    (hM : vx_Met l y ws rm Pc Qc XC mc ms free) (hblind : FrameBlind Pc) (hrc : rm.cells = mc) (hrs : rm.slots = ms)
    (hframes : rm.frames + 1 ≤ R.frames) (hlocals : W9 + (maxL + 11) + rm.locals ≤ R.locals)
    (hws : ∀ w ∈ ws, ∀ a' U, s.WarmedH U.vm → w.before a' U = true) (hcode : Cond.codeWith y bytes maxL ret hh ∈ ws) (hinit : ∀ a' U, s.WarmedH U.vm → (Cond.initialized y.cls).before a' U = true) :
    vx_Back l R p e below s sargs y len W9 (PreOf R mc ms Pc) (PostOf Qc mc ms free) (vx_Post XC mc ms free) := by
  intro m meth c A g ig mk a X hg hsize hdg hW hn hp
  have h1 : (headSpec ws rm).pre.before a A.U = true := atoms_intro fun w hw => hws w hw _ _ X.warmed
  have h2 : (Cond.codeWith y bytes maxL ret hh).before a A.U = true := hws _ hcode _ _ X.warmed
  have h3 : (Cond.initialized y.cls).before a A.U = true := hinit _ _ X.warmed
  have h4 : A.cells + (headSpec ws rm).room.cells ≤ R.cells := by rw [show (headSpec ws rm).room.cells = mc from hrc]; exact hp.1
  have h5 : A.slots + (headSpec ws rm).room.slots ≤ R.slots := by rw [show (headSpec ws rm).room.slots = ms from hrs]; exact hp.2.1
  have hPc : Pc a (A.U.calling g mk a) := hblind _ _ _ _ hp.2.2
  obtain ⟨U, Ls, c0, s0⟩ := A
  dsimp only [Pt.U, Pt.locs, Pt.cells, Pt.slots] at h1 h2 h3 h4 h5 X hn hPc ⊢
  obtain ⟨m9, methY, cY, hn9, hmY, hcY, -, hlY, -⟩ := Cond.codeWith_spec h2
  cases Option.some.inj (hn9.symm.trans hn)
  obtain ⟨kY, hkY, -⟩ := className_of_methodNamed hn
  have hinitY : kY.init = .initialized := Cond.initialized_spec (findClass_of_methodNamed hn) hkY h3
  have h : At U g.method c below := by rw [hg]; exact X.here
  have hlocals9 : W9 + (maxL + 11) + (headSpec ws rm).room.locals ≤ R.locals := hlocals
  have happ : (headSpec ws rm).appliesLoose y e.platform (U.calling g mk a) = true :=
    Spec.appliesLoose_calling (g := g) h hdg hn hkY hinitY
      (X.room_calling (g := g) (R' := (headSpec ws rm).room) hsize hmY hcY hframes (by rw [hlY]; omega) h4 h5) h1
  obtain ⟨mid, hmid⟩ := h.above
  have hfr : (U.setTop g).frames = (.java g :: mid) ++ below := by rw [State.frames_setTop' g h.top, hmid]; rfl
  obtain ⟨o, s₂, hsteps, -, hend, hq⟩ := Steps.callFree hM p X.admits X.cas X.clock (acts := []) hfr happ hPc trivial
  have hq' : vx_Q Qc XC mc ms free a (U.calling g mk a) o s₂ := hq
  rw [State.frames_setTop' g h.top] at hend
  obtain ⟨g₀, hg0⟩ := Option.isSome_iff_exists.mp h.top
  obtain ⟨r, hr⟩ := State.topJava?_eq_some.mp hg0
  have hr' : (({ U with heap := s₂.heap, slotsUsed := s₂.slotsUsed } : State).setVm s₂.vm).frames = .java g₀ :: r := hr
  rcases hq' with ⟨hqc, L, hfe, hL⟩ | ⟨q, rfl, E, ce, L, hx, hce, hcv, hcl, hW₂, hsm, hL⟩
  · obtain ⟨⟨v, rfl⟩, hW₂, e2, q2, q3, q4, q5, q6⟩ := id hfe
    have e3 : s₂ = ({ (U.calling g mk a).setFrames s₂.frames with heap := s₂.heap, slotsUsed := s₂.slotsUsed } : State).setVm s₂.vm := by
      have : s₂ = ({ s₂ with vm := (U.calling g mk a).vm } : State).setVm s₂.vm := rfl
      rw [e2] at this
      exact this
    obtain ⟨c₂, i₂, len₂, hc₂, hd₂, hf₂⟩ := hend
    have hW' : U.WarmedH s₂.vm := hW₂
    have hcc : c₂ = c := by
      have h1 : s₂.code? g.method = U.code? g.method := by
        rw [State.code?_eq, State.code?_eq, hW'.alike.method?]
      exact Option.some.inj (hc₂.symm.trans (h1.trans h.code))
    subst hcc
    have hlen : len₂ = len := by rw [hdg] at hd₂; cases hd₂; rfl
    subst hlen
    have hs₂ : s₂ = (({ U with heap := s₂.heap, slotsUsed := s₂.slotsUsed } : State).setVm s₂.vm).setTop { g with pc := g.pc + len₂, stack := v.toList ++ g.stack } := by
      refine e3.trans ?_
      rw [hf₂, State.calling_eq h.top, State.setFrames_setFrames, State.setTop_of_frames _ hr', hr]
      rfl
    have hsame : U.sameButNew ({ U with heap := s₂.heap, slotsUsed := s₂.slotsUsed } : State) L mc ms := by
      refine ⟨?_, q2, q3, q4, q5, q6⟩
      obtain ⟨t, ht, -⟩ := State.frames_cons hr
      show ({ U with heap := s₂.heap, slotsUsed := s₂.slotsUsed } : State) = { U.setFrames U.frames with heap := s₂.heap, slotsUsed := s₂.slotsUsed }
      rw [State.setFrames_self ht]
    subst hg
    refine Or.inl ⟨v, ⟨(({ U with heap := s₂.heap, slotsUsed := s₂.slotsUsed } : State).setVm s₂.vm), Ls ++ L, c0 + mc, s0 + ms⟩,
      ⟨X.admits, X.cas, X.clock, X.frames, X.room, X.hears, X.method, X.code, (X.here.setHeapUsed s₂.heap s₂.slotsUsed).setVm hW'.alike, X.tail, State.WarmedH.trans X.warmed hW', X.limits, X.bytes, X.same.trans (hsame.setVm s.vm)⟩,
      ⟨g, mk, s₂, L, rfl, rfl, hqc, rfl, hL, rfl, rfl⟩, ?_⟩
    show Steps p.tables e below _ ((({ U with heap := s₂.heap, slotsUsed := s₂.slotsUsed } : State).setVm s₂.vm).setTop { g with pc := g.pc + len₂, stack := v.toList ++ g.stack })
    rw [← hs₂]
    exact hsteps
  · obtain ⟨e2, q2, q3, q4, q5, q6⟩ := id hsm
    have e3 : s₂ = ({ (U.calling g mk a).setFrames s₂.frames with heap := s₂.heap, slotsUsed := s₂.slotsUsed } : State).setVm s₂.vm := by
      have : s₂ = ({ s₂ with vm := (U.calling g mk a).vm } : State).setVm s₂.vm := rfl
      rw [e2] at this
      exact this
    have hf₂ : s₂.frames = .throwing q :: .java g :: U.frames.tail := hend
    have hW' : U.WarmedH s₂.vm := hW₂
    have hs₂ : s₂ = ((({ U with heap := s₂.heap, slotsUsed := s₂.slotsUsed } : State).setVm s₂.vm).setTop g).pushFrame (.throwing q) := by
      refine e3.trans ?_
      rw [hf₂, State.calling_eq h.top, State.setFrames_setFrames, State.pushFrame, State.frames_setTop _ hr', State.setTop_of_frames _ hr', State.setFrames_setFrames, hr]
      rfl
    have hsame : U.sameButNew ({ U with heap := s₂.heap, slotsUsed := s₂.slotsUsed } : State) L mc ms := by
      refine ⟨?_, q2, q3, q4, q5, q6⟩
      obtain ⟨t, ht, -⟩ := State.frames_cons hr
      show ({ U with heap := s₂.heap, slotsUsed := s₂.slotsUsed } : State) = { U.setFrames U.frames with heap := s₂.heap, slotsUsed := s₂.slotsUsed }
      rw [State.setFrames_self ht]
    subst hg
    refine Or.inr ⟨q, ⟨(({ U with heap := s₂.heap, slotsUsed := s₂.slotsUsed } : State).setVm s₂.vm), Ls ++ L, c0 + mc, s0 + ms⟩,
      ⟨X.admits, X.cas, X.clock, X.frames, X.room, X.hears, X.method, X.code, (X.here.setHeapUsed s₂.heap s₂.slotsUsed).setVm hW'.alike, X.tail, State.WarmedH.trans X.warmed hW', X.limits, X.bytes, X.same.trans (hsame.setVm s.vm)⟩,
      ⟨g, mk, s₂, L, E, ce, rfl, rfl, hx, hce, hcv, hcl, rfl, hL, rfl, rfl⟩, ?_⟩
    show Steps p.tables e below _ (((({ U with heap := s₂.heap, slotsUsed := s₂.slotsUsed } : State).setVm s₂.vm).setTop g).pushFrame (.throwing q))
    rw [← hs₂]
    exact hsteps
end
variable {p : Program} {l : Launch} {e : Env} {R : Room} {s : State} {m : MethodId} {args : Array Value} {below : List Frame} {meth : Method} {c : Code} {T : State} {H : Heap} {locs : List Loc} {cells slots : Nat}
theorem vx_callVX (X : Stand p l e R s m args below meth c T locs cells slots) (hexec : p.tables.exec = Jvm.exec) {own C : String} {index : Nat} {y : MethodName} {bytes : ByteArray} {maxL : Nat} {ret : Option FieldType} {hh : List (Nat × Nat × Nat × Nat)}
    (hown : s.vm.findClass own = some m.cls) (hlink : (Cond.methodLink own index y).before args s = true) (hinst : (Cond.instanceMethod y).before args s = true) (hsel : (Cond.selects C y y).before args s = true)
    (hcode : (Cond.codeWith y bytes maxL ret hh).before args s = true) (hy : y.cls ≠ "java/lang/invoke/MethodHandle" ∧ y.cls ≠ "java/lang/invoke/VarHandle")
    {W9 : Nat} {Pre : Pt → Array Value → Prop} {Post : Pt → Array Value → Option Value → Pt → Prop} {PostX : Pt → Array Value → Addr → Pt → Prop} (hK : vx_Back l R p e below s args y 3 W9 Pre Post PostX)
    {b : Addr} {cellB : Cell} (hcell : T.heap[b]? = some cellB) (hobj : cellB.vm.isStatics = false) (hcls : s.vm.findClass C = some cellB.cls)
    {g : JFrame} (hg : g.method = m) (hsize : g.locals.size = c.maxLocals) {argsL rest : List Value} (hlen : ∀ sig, parseMethodDescriptor y.desc = some sig → argsL.length = sig.parameters.length)
    (hstack : g.stack = argsL.reverse ++ .ref b :: rest) (hW : 2 * g.monitorRoom + (rest.map fun v => v.category).sum ≤ W9) (hdg : decode c.code g.pc = .ok (.invokevirtual index, 3))
    (hpre : ∀ vm₁, s.WarmedH vm₁ → Pre ⟨T.setVm vm₁, locs, cells, slots⟩ (Value.ref b :: argsL).toArray) :
    (∃ (v : Option Value) (vm₁ : Vm) (B : Pt), s.WarmedH vm₁ ∧ Stand p l e R s m args below meth c B.U B.locs B.cells B.slots ∧ Post ⟨T.setVm vm₁, locs, cells, slots⟩ (Value.ref b :: argsL).toArray v B ∧
      ∀ target, Steps p.tables e below (B.U.setTop { g with pc := g.pc + 3, stack := v.toList ++ rest }) target → Steps p.tables e below (T.setTop g) target) ∨
    (∃ (q : Addr) (vm₁ : Vm) (B : Pt), s.WarmedH vm₁ ∧ Stand p l e R s m args below meth c B.U B.locs B.cells B.slots ∧ PostX ⟨T.setVm vm₁, locs, cells, slots⟩ (Value.ref b :: argsL).toArray q B ∧
      Steps p.tables e below (T.setTop g) ((B.U.setTop { g with stack := rest }).pushFrame (.throwing q))) := by
  obtain ⟨mk, methM, hnamed, hmethM, hstM, habM⟩ := Cond.instanceMethod_spec hinst
  obtain ⟨m8, methM', cM, hn8, hmethM', -, -, -, -, -, -, hsigM⟩ := Cond.codeWith_spec hcode
  cases Option.some.inj (hn8.symm.trans hnamed)
  cases hmethM.symm.trans hmethM'
  obtain ⟨c2, r2, m2, q1, q2, q3, q4, kP, hkP, hkPi⟩ := Cond.selects_spec hsel
  cases hcls.symm.trans q1
  cases (State.methodFound?_of_named hnamed hy).symm.trans q2
  cases hnamed.symm.trans q3
  have hselP : selectMethod e.platform s.vm cellB.cls mk = .method mk := by rw [Launch.admits_selectMethod X.admits]; exact q4
  obtain ⟨vm₁, X₁, hstep₁⟩ := X.invokevirtual hexec hown hlink hnamed hmethM hstM hkP hkPi hy (a := b) (cell := cellB) hcell
    (fun z h => by rw [h] at hobj; cases hobj) hselP hmethM habM hkP hkPi (g := g) hg (argsL := argsL) (rest := rest) (hlen _ hsigM) hstack hdg
  rcases hK m meth c ⟨T.setVm vm₁, locs, cells, slots⟩ { g with stack := rest } (.invokevirtual index) mk (Value.ref b :: argsL).toArray X₁ hg hsize hdg hW (X₁.named hnamed) (hpre vm₁ X₁.warmed) with ⟨v, B, X', hpost, hsteps⟩ | ⟨q, B, X', hpost, hsteps⟩
  · exact Or.inl ⟨v, vm₁, B, X₁.warmed, X', hpost, fun target h => hstep₁ _ fun acts => by rw [doInvoke_state]; exact hsteps.trans h⟩
  · exact Or.inr ⟨q, vm₁, B, X₁.warmed, X', hpost, hstep₁ _ fun acts => by rw [doInvoke_state]; exact hsteps⟩
theorem vx_callSX (X : Stand p l e R s m args below meth c T locs cells slots) (hexec : p.tables.exec = Jvm.exec) {own : String} {index : Nat} {y : MethodName} {bytes : ByteArray} {maxL : Nat} {ret : Option FieldType} {hh : List (Nat × Nat × Nat × Nat)}
    (hown : s.vm.findClass own = some m.cls) (hlink : (Cond.methodLink own index y).before args s = true) (hstat : (Cond.static y).before args s = true) (hinit : (Cond.initialized y.cls).before args s = true)
    (hcode : (Cond.codeWith y bytes maxL ret hh).before args s = true) (hy : y.cls ≠ "java/lang/invoke/MethodHandle" ∧ y.cls ≠ "java/lang/invoke/VarHandle")
    {W9 : Nat} {Pre : Pt → Array Value → Prop} {Post : Pt → Array Value → Option Value → Pt → Prop} {PostX : Pt → Array Value → Addr → Pt → Prop} (hK : vx_Back l R p e below s args y 3 W9 Pre Post PostX)
    {g : JFrame} (hg : g.method = m) (hsize : g.locals.size = c.maxLocals) {argsL rest : List Value} (hlen : ∀ sig, parseMethodDescriptor y.desc = some sig → argsL.length = sig.parameters.length)
    (hstack : g.stack = argsL.reverse ++ rest) (hW : 2 * g.monitorRoom + (rest.map fun v => v.category).sum ≤ W9) (hdg : decode c.code g.pc = .ok (.invokestatic index, 3))
    (hpre : ∀ vm₁, s.WarmedH vm₁ → Pre ⟨T.setVm vm₁, locs, cells, slots⟩ argsL.toArray) :
    (∃ (v : Option Value) (vm₁ : Vm) (B : Pt), s.WarmedH vm₁ ∧ Stand p l e R s m args below meth c B.U B.locs B.cells B.slots ∧ Post ⟨T.setVm vm₁, locs, cells, slots⟩ argsL.toArray v B ∧
      ∀ target, Steps p.tables e below (B.U.setTop { g with pc := g.pc + 3, stack := v.toList ++ rest }) target → Steps p.tables e below (T.setTop g) target) ∨
    (∃ (q : Addr) (vm₁ : Vm) (B : Pt), s.WarmedH vm₁ ∧ Stand p l e R s m args below meth c B.U B.locs B.cells B.slots ∧ PostX ⟨T.setVm vm₁, locs, cells, slots⟩ argsL.toArray q B ∧
      Steps p.tables e below (T.setTop g) ((B.U.setTop { g with stack := rest }).pushFrame (.throwing q))) := by
  obtain ⟨mk, methM, cM, hnamed, hmethM, -, -, -, -, -, -, hsigM⟩ := Cond.codeWith_spec hcode
  have hstatic : methM.isStatic = true := Cond.static_spec hnamed hmethM hstat
  obtain ⟨kP, hkP, -⟩ := className_of_methodNamed hnamed
  have hinitP : kP.init = .initialized := Cond.initialized_spec (findClass_of_methodNamed hnamed) hkP hinit
  obtain ⟨vm₁, X₁, hstep₁⟩ := X.invokestatic hexec hown hlink hnamed hmethM hstatic hkP hinitP hy (g := g) hg (argsL := argsL) (rest := rest) (hlen _ hsigM) hstack hdg
  rcases hK m meth c ⟨T.setVm vm₁, locs, cells, slots⟩ { g with stack := rest } (.invokestatic index) mk argsL.toArray X₁ hg hsize hdg hW (X₁.named hnamed) (hpre vm₁ X₁.warmed) with ⟨v, B, X', hpost, hsteps⟩ | ⟨q, B, X', hpost, hsteps⟩
  · exact Or.inl ⟨v, vm₁, B, X₁.warmed, X', hpost, fun target h => hstep₁ _ fun acts => by rw [doInvoke_state]; exact hsteps.trans h⟩
  · exact Or.inr ⟨q, vm₁, B, X₁.warmed, X', hpost, hstep₁ _ fun acts => by rw [doInvoke_state]; exact hsteps⟩
theorem vx_callVW (X : Stand p l e R s m args below meth c T locs cells slots) (hexec : p.tables.exec = Jvm.exec) {own C : String} {index : Nat} {y : MethodName} {bytes : ByteArray} {maxL : Nat} {ret : Option FieldType} {hh : List (Nat × Nat × Nat × Nat)}
    (hown : s.vm.findClass own = some m.cls) (hlink : (Cond.methodLink own index y).before args s = true) (hinst : (Cond.instanceMethod y).before args s = true) (hsel : (Cond.selects C y y).before args s = true)
    (hcode : (Cond.codeWith y bytes maxL ret hh).before args s = true) (hy : y.cls ≠ "java/lang/invoke/MethodHandle" ∧ y.cls ≠ "java/lang/invoke/VarHandle")
    {W9 : Nat} {Pre : Pt → Array Value → Prop} {Post : Pt → Array Value → Option Value → Pt → Prop} (hK : Back l R p e below s args y 3 W9 Pre Post)
    {b : Addr} {cellB : Cell} (hcell : T.heap[b]? = some cellB) (hobj : cellB.vm.isStatics = false) (hcls : s.vm.findClass C = some cellB.cls)
    {g : JFrame} (hg : g.method = m) (hsize : g.locals.size = c.maxLocals) {argsL rest : List Value} (hlen : ∀ sig, parseMethodDescriptor y.desc = some sig → argsL.length = sig.parameters.length)
    (hstack : g.stack = argsL.reverse ++ .ref b :: rest) (hW : 2 * g.monitorRoom + (rest.map fun v => v.category).sum ≤ W9) (hdg : decode c.code g.pc = .ok (.invokevirtual index, 3))
    (hpre : ∀ vm₁, s.WarmedH vm₁ → Pre ⟨T.setVm vm₁, locs, cells, slots⟩ (Value.ref b :: argsL).toArray) :
    ∃ (v : Option Value) (vm₁ : Vm) (B : Pt), s.WarmedH vm₁ ∧ Stand p l e R s m args below meth c B.U B.locs B.cells B.slots ∧ Post ⟨T.setVm vm₁, locs, cells, slots⟩ (Value.ref b :: argsL).toArray v B ∧
      ∀ target, Steps p.tables e below (B.U.setTop { g with pc := g.pc + 3, stack := v.toList ++ rest }) target → Steps p.tables e below (T.setTop g) target := by
  obtain ⟨mk, methM, hnamed, hmethM, hstM, habM⟩ := Cond.instanceMethod_spec hinst
  obtain ⟨m8, methM', cM, hn8, hmethM', -, -, -, -, -, -, hsigM⟩ := Cond.codeWith_spec hcode
  cases Option.some.inj (hn8.symm.trans hnamed)
  cases hmethM.symm.trans hmethM'
  obtain ⟨c2, r2, m2, q1, q2, q3, q4, kP, hkP, hkPi⟩ := Cond.selects_spec hsel
  cases hcls.symm.trans q1
  cases (State.methodFound?_of_named hnamed hy).symm.trans q2
  cases hnamed.symm.trans q3
  have hselP : selectMethod e.platform s.vm cellB.cls mk = .method mk := by rw [Launch.admits_selectMethod X.admits]; exact q4
  obtain ⟨vm₁, X₁, hstep₁⟩ := X.invokevirtual hexec hown hlink hnamed hmethM hstM hkP hkPi hy (a := b) (cell := cellB) hcell
    (fun z h => by rw [h] at hobj; cases hobj) hselP hmethM habM hkP hkPi (g := g) hg (argsL := argsL) (rest := rest) (hlen _ hsigM) hstack hdg
  obtain ⟨v, B, X', hpost, hsteps⟩ := hK m meth c ⟨T.setVm vm₁, locs, cells, slots⟩ { g with stack := rest } (.invokevirtual index) mk (Value.ref b :: argsL).toArray X₁ hg hsize hdg hW (X₁.named hnamed) (hpre vm₁ X₁.warmed)
  exact ⟨v, vm₁, B, X₁.warmed, X', hpost, fun target h => hstep₁ _ fun acts => by rw [doInvoke_state]; exact hsteps.trans h⟩
abbrev vx_CVW (R : Room) (s : State) (args : Array Value) (own C : String) (index : Nat) (y : MethodName) (bytes : ByteArray) (maxL : Nat) (ret : Option FieldType) (hh : List (Nat × Nat × Nat × Nat)) (ws : List Cond) (rm : Room) (mc ms n : Nat) : Prop :=
  (rm.cells = mc ∧ rm.slots = ms ∧ rm.frames + 1 ≤ R.frames ∧ 8 + (maxL + 11) + rm.locals ≤ R.locals ∧ (∀ w ∈ ws, ∀ (a' : Array Value) (U : State), s.WarmedH U.vm → w.before a' U = true) ∧ Cond.codeWith y bytes maxL ret hh ∈ ws) ∧
  (Cond.codeWith y bytes maxL ret hh).before args s = true ∧ (Cond.initialized y.cls).before args s = true ∧ (y.cls ≠ "java/lang/invoke/MethodHandle" ∧ y.cls ≠ "java/lang/invoke/VarHandle") ∧
  (∀ sig, parseMethodDescriptor y.desc = some sig → n = sig.parameters.length) ∧ (Cond.methodLink own index y).before args s = true ∧ (Cond.instanceMethod y).before args s = true ∧ (Cond.selects C y y).before args s = true
theorem vx_cwVW {own C : String} {index maxL mc ms : Nat} {y : MethodName} {bytes : ByteArray} {ret : Option FieldType} {hh : List (Nat × Nat × Nat × Nat)} {Ts ws ws' : List Cond} {rm : Room} (n : Nat) (ht : ∀ w ∈ Ts, w.before args s = true) (hT : GoodIn Ts (wsV own index C y ws)) (hw : ws = Cond.codeWith y bytes maxL ret hh :: ws') (hrc : rm.cells = mc) (hrs : rm.slots = ms)
    (hd : y.cls = C ∧ y.cls ≠ "java/lang/invoke/MethodHandle" ∧ y.cls ≠ "java/lang/invoke/VarHandle" ∧ (parseMethodDescriptor y.desc).map (fun d => d.parameters.length) = some n) (hR : rm.frames + 1 ≤ R.frames ∧ 8 + (maxL + 11) + rm.locals ≤ R.locals) :
    vx_CVW R s args own C index y bytes maxL ret hh ws rm mc ms n := by
  obtain ⟨hC, hd⟩ := hd
  subst hC
  have ok : ∀ w ∈ wsV own index y.cls y ws, w.before args s = true := fun w h => ht w (hT w h).1
  have hG : GoodIn Ts ws := fun w h => hT w (by unfold wsV; exact List.mem_append_right _ h)
  have hc : Cond.codeWith y bytes maxL ret hh ∈ ws := by rw [hw]; exact List.mem_cons_self
  refine ⟨⟨hrc, hrs, hR.1, hR.2, pay_in ht hG, hc⟩, ht _ (hG _ hc).1, ok _ (by simp [wsV]), ⟨hd.1, hd.2.1⟩, fun sig h => ?_, ok _ (by simp [wsV]), ok _ (by simp [wsV]), ok _ (by simp [wsV])⟩
  have h2 := hd.2.2
  rw [h] at h2
  exact (Option.some.inj h2).symm
theorem vx_runVW {y : MethodName} {bytes cc : ByteArray} {maxL nL mc ms n index : Nat} {ret : Option FieldType} {hh : List (Nat × Nat × Nat × Nat)} {ws : List Cond} {rm : Room} {Pc : Array Value → State → Prop} {Qc : Array Value → State → Outcome → State → Prop} {free : Addr → Prop} {Ts : List Cond} {own C : String} {b : Addr} {As rest : List Value} {g : JFrame}
    (S : CallFix p m c cc nL s args Ts own) (hM : Met l y ws rm Pc Qc mc ms free) (cw : vx_CVW R s args own C index y bytes maxL ret hh ws rm mc ms n) (hp : PreV s H C b Pc As)
    (hg : g.method = m) (hn : As.length = n) (hsize : g.locals.size = nL) (hstack : g.stack = As.reverse ++ .ref b :: rest) (hW : 2 * g.monitorRoom + (rest.map fun v => v.category).sum ≤ 8) (hdg : decode cc g.pc = .ok (.invokevirtual index, 3)) (hf : cells + mc ≤ R.cells ∧ slots + ms ≤ R.slots) :
    va_Run p l e R s m args below meth c H locs cells slots mc ms g rest (Qc (Value.ref b :: As).toArray) free := by
  obtain ⟨⟨hrc, hrs, hfr, hlo, hws, hcw⟩, hcode, hini, hy, hlen, hl, hin, hse⟩ := cw
  have hK : Back l R p e below s args y 3 8 (PreOf R mc ms Pc) (PostOf Qc mc ms free) := va_backW (hh := hh) (bytes := bytes) (maxL := maxL) (ret := ret) hM hp.1 hrc hrs hfr hlo hws hcw (fun a' U hW => word_at hW (Or.inl (by first | rfl | simp [Cond.onTables, Cond.keeps, Cond.steady])) hini)
  obtain ⟨hx, hb, hml, ho, -⟩ := S
  obtain ⟨-, ⟨cellB, hcB, hoB, hclB⟩, hPc⟩ := hp
  intro T hT X
  obtain ⟨v, vm₁, ⟨U', l2, c2, s2⟩, hW₁, X', ⟨g', mk, t, L, e1, e2, hq, h1, hL, h2, h3⟩, st⟩ := vx_callVW X hx (C := C) (hh := hh) (bytes := bytes) (maxL := maxL) (ret := ret) ho hl hin hse hcode hy hK (by rw [hT]; exact hcB) hoB hclB hg (hsize.trans hml.symm) (argsL := As) (rest := rest) (fun sig h => hn.trans (hlen sig h)) hstack hW (by rw [hb]; exact hdg)
    (fun vm₁ hW₁ => ⟨hf.1, hf.2, hPc (T.setVm vm₁) hT hW₁⟩)
  dsimp only [Pt.U, Pt.locs, Pt.cells, Pt.slots] at X' e1 e2 h1 h2 h3 st
  subst h1; subst h2; subst h3
  exact ⟨v, (T.setVm vm₁).calling g' mk (Value.ref b :: As).toArray, t, U', L, hT, X', hL, e1, e2, hq, st⟩
section
variable {y : MethodName} {bytes cc : ByteArray} {maxL nL mc ms n index : Nat} {ret : Option FieldType} {ws : List Cond} {rm : Room} {Pc : Array Value → State → Prop} {Qc : Array Value → State → Outcome → State → Prop} {XC : String → State → State → Prop} {free : Addr → Prop} {Ts : List Cond} {own C : String} {b : Addr} {As rest : List Value} {g : JFrame}
theorem vx_runVX {hh : List (Nat × Nat × Nat × Nat)} (S : CallFix p m c cc nL s args Ts own) (hM : vx_Met l y ws rm Pc Qc XC mc ms free) (cw : vx_CVW R s args own C index y bytes maxL ret hh ws rm mc ms n) (hp : PreV s H C b Pc As)
    (hg : g.method = m) (hn : As.length = n) (hsize : g.locals.size = nL) (hstack : g.stack = As.reverse ++ .ref b :: rest) (hW : 2 * g.monitorRoom + (rest.map fun v => v.category).sum ≤ 8) (hdg : decode cc g.pc = .ok (.invokevirtual index, 3)) (hf : cells + mc ≤ R.cells ∧ slots + ms ≤ R.slots) :
    vx_Run p l e R s m args below meth c H locs cells slots mc ms g rest (Qc (Value.ref b :: As).toArray) XC free := by
  obtain ⟨⟨hrc, hrs, hfr, hlo, hws, hcw⟩, hcode, hini, hy, hlen, hl, hin, hse⟩ := cw
  have hK : vx_Back l R p e below s args y 3 8 (PreOf R mc ms Pc) (PostOf Qc mc ms free) (vx_Post XC mc ms free) := vx_backW (hh := hh) (bytes := bytes) (maxL := maxL) (ret := ret) hM hp.1 hrc hrs hfr hlo hws hcw (fun a' U hW => word_at hW (Or.inl (by first | rfl | simp [Cond.onTables, Cond.keeps, Cond.steady])) hini)
  obtain ⟨hx, hb, hml, ho, -⟩ := S
  obtain ⟨-, ⟨cellB, hcB, hoB, hclB⟩, hPc⟩ := hp
  intro T hT X
  rcases vx_callVX X hx (C := C) (hh := hh) (bytes := bytes) (maxL := maxL) (ret := ret) ho hl hin hse hcode hy hK (by rw [hT]; exact hcB) hoB hclB hg (hsize.trans hml.symm) (argsL := As) (rest := rest) (fun sig h => hn.trans (hlen sig h)) hstack hW (by rw [hb]; exact hdg)
    (fun vm₁ hW₁ => ⟨hf.1, hf.2, hPc (T.setVm vm₁) hT hW₁⟩) with ⟨v, vm₁, ⟨U', l2, c2, s2⟩, hW₁, X', ⟨g', mk, t, L, e1, e2, hq, h1, hL, h2, h3⟩, st⟩ | ⟨q, vm₁, ⟨U', l2, c2, s2⟩, hW₁, X', ⟨g', mk, t, L, E, ce, e1, e2, hq, hce, hcv, hcl, h1, hL, h2, h3⟩, st⟩
  · dsimp only [Pt.U, Pt.locs, Pt.cells, Pt.slots] at X' e1 e2 h1 h2 h3 st
    subst h1; subst h2; subst h3
    exact Or.inl ⟨v, (T.setVm vm₁).calling g' mk (Value.ref b :: As).toArray, t, U', L, hT, X', hL, e1, e2, hq, st⟩
  · dsimp only [Pt.U, Pt.locs, Pt.cells, Pt.slots] at X' e1 e2 h1 h2 h3 st hcl
    subst h1; subst h2; subst h3
    exact Or.inr ⟨q, (T.setVm vm₁).calling g' mk (Value.ref b :: As).toArray, t, U', L, E, ce, hT, X', hL, e1, e2, hq, hce, hcv, vx_cls hW₁ hcl, st⟩
theorem vx_runSX {hh : List (Nat × Nat × Nat × Nat)} (S : CallFix p m c cc nL s args Ts own) (hM : vx_Met l y ws rm Pc Qc XC mc ms free) (cw : vx_CSW R s args own index y bytes maxL ret hh ws rm mc ms n) (hp : PreS s H Pc As)
    (hg : g.method = m) (hn : As.length = n) (hsize : g.locals.size = nL) (hstack : g.stack = As.reverse ++ rest) (hW : 2 * g.monitorRoom + (rest.map fun v => v.category).sum ≤ 8) (hdg : decode cc g.pc = .ok (.invokestatic index, 3)) (hf : cells + mc ≤ R.cells ∧ slots + ms ≤ R.slots) :
    vx_Run p l e R s m args below meth c H locs cells slots mc ms g rest (Qc As.toArray) XC free := by
  obtain ⟨⟨hrc, hrs, hfr, hlo, hws, hcw⟩, hcode, hini, hy, hlen, hl, hstt⟩ := cw
  have hK : vx_Back l R p e below s args y 3 8 (PreOf R mc ms Pc) (PostOf Qc mc ms free) (vx_Post XC mc ms free) := vx_backW (hh := hh) (bytes := bytes) (maxL := maxL) (ret := ret) hM hp.1 hrc hrs hfr hlo hws hcw (fun a' U hW => word_at hW (Or.inl (by first | rfl | simp [Cond.onTables, Cond.keeps, Cond.steady])) hini)
  obtain ⟨hx, hb, hml, ho, -⟩ := S
  intro T hT X
  rcases vx_callSX X hx (hh := hh) (bytes := bytes) (maxL := maxL) (ret := ret) ho hl hstt hini hcode hy hK hg (hsize.trans hml.symm) (argsL := As) (rest := rest) (fun sig h => hn.trans (hlen sig h)) hstack hW (by rw [hb]; exact hdg)
    (fun vm₁ hW₁ => ⟨hf.1, hf.2, hp.2 (T.setVm vm₁) hT hW₁⟩) with ⟨v, vm₁, ⟨U', l2, c2, s2⟩, hW₁, X', ⟨g', mk, t, L, e1, e2, hq, h1, hL, h2, h3⟩, st⟩ | ⟨q, vm₁, ⟨U', l2, c2, s2⟩, hW₁, X', ⟨g', mk, t, L, E, ce, e1, e2, hq, hce, hcv, hcl, h1, hL, h2, h3⟩, st⟩
  · dsimp only [Pt.U, Pt.locs, Pt.cells, Pt.slots] at X' e1 e2 h1 h2 h3 st
    subst h1; subst h2; subst h3
    exact Or.inl ⟨v, (T.setVm vm₁).calling g' mk As.toArray, t, U', L, hT, X', hL, e1, e2, hq, st⟩
  · dsimp only [Pt.U, Pt.locs, Pt.cells, Pt.slots] at X' e1 e2 h1 h2 h3 st hcl
    subst h1; subst h2; subst h3
    exact Or.inr ⟨q, (T.setVm vm₁).calling g' mk As.toArray, t, U', L, E, ce, hT, X', hL, e1, e2, hq, hce, hcv, vx_cls hW₁ hcl, st⟩
end
end VXH
theorem vx_ofWH {l : Launch} {y : MethodName} {ws ws' : List Cond} {rm : Room} {Pc : Array Value → State → Prop} {Qc : Array Value → State → Outcome → State → Prop} {XC : String → State → State → Prop} {mc ms : Nat} {free : Addr → Prop} {cc : ByteArray} {maxL : Nat} {ret : Option FieldType} {hh : List (Nat × Nat × Nat × Nat)}
    (hy : plainName y.cls = true) (hw : ws = Cond.codeWith y cc maxL ret hh :: ws')
    (body : ∀ p e s m args below meth c s₁, BodyLoose p l y (headSpec ws rm) cc maxL ret e s m args below meth c s₁ → c.maxLocals = maxL → Pc args s →
      W p l e (headSpec ws rm).room s m args below meth c s.heap [] 0 0 (vx_MQ below Qc XC args s mc ms free) (entryFrame m args maxL)) : vx_Met l y ws rm Pc Qc XC mc ms free := by
  refine MetFree.of_bodyS (code := cc) (maxLocals := maxL) (ret := ret) hy ?_ ?_
  · intro args s m h hn
    obtain ⟨m9, meth, c, hn9, h1, h2, h3, h4, -, h5, h6, -⟩ := Cond.codeWith_spec (atoms_spec (ws := ws) h _ (by rw [hw]; exact List.mem_cons_self))
    cases hn.symm.trans hn9
    exact ⟨meth, c, h1, h2, h3, h4, h5, h6⟩
  · intro p e s m args below meth c s₁ B hml hP _
    have hh0 : s₁.heap = s.heap := by rw [B.state]; rfl
    obtain ⟨t, a1, o, b1, b2, b3⟩ := body p e s m args below meth c s₁ B hml hP s₁ hh0 (Stand.of_body B)
    exact ⟨t, o, a1, b1, b2, b3⟩
/-! ===== END ===== -/
end
section
/-! ===== BEGIN printed: names, fields, word lists, decode rows ===== -/
def RX0 : String := "ProgressBilling"
def TX0 : u_T := fun k => match k with
  | 0 => ("ProgressBilling", "lineValue", "[I", true)
  | 1 => ("ProgressBilling", "lineEarned", "[I", true)
  | 2 => ("ProgressBilling", "lineWork", "[I", true)
  | 3 => ("ProgressBilling", "lineBilled", "[I", true)
  | 4 => ("ProgressBilling", "lineHeld", "[I", true)
  | 5 => ("ProgressBilling", "lineCount", "I", false)
  | 6 => ("ProgressBilling", "stepThreshold", "[I", true)
  | 7 => ("ProgressBilling", "stepRate", "[I", true)
  | 8 => ("ProgressBilling", "stepCount", "I", false)
  | 9 => ("ProgressBilling", "holdsByIncrease", "Z", false)
  | 10 => ("ProgressBilling", "applicationState", "[I", true)
  | 11 => ("ProgressBilling", "applicationAmount", "[I", true)
  | 12 => ("ProgressBilling", "applicationBilled", "[I", true)
  | 13 => ("ProgressBilling", "applicationHeld", "[I", true)
  | _ => ("ProgressBilling", "applicationCount", "I", false)
def tyX0 : Nat → FieldType := fun k => match k with
  | 0 => .array .int
  | 1 => .array .int
  | 2 => .array .int
  | 3 => .array .int
  | 4 => .array .int
  | 5 => .int
  | 6 => .array .int
  | 7 => .array .int
  | 8 => .int
  | 9 => .boolean
  | 10 => .array .int
  | 11 => .array .int
  | 12 => .array .int
  | 13 => .array .int
  | _ => .int
abbrev wsX00 : List Cond := u_ws RX0 TX0 15
theorem nmX0 : ∀ a, a < 15 → ∀ b, b < 15 → a ≠ b → (TX0 a).2.1 ≠ (TX0 b).2.1 := by decide +kernel
theorem tyX0_ok : ∀ k, k < 15 → parseFieldDescriptor (TX0 k).2.2.1 = some (tyX0 k) := by decide +kernel
abbrev cX0_init : ByteArray := prog_1_method_1_code
def yX0_init : MethodName := ⟨RX0, "<init>", "()V"⟩
abbrev cX0_addLine : ByteArray := prog_1_method_2_code
def yX0_addLine : MethodName := ⟨RX0, "addLine", "(I)I"⟩
abbrev cX0_changeValue : ByteArray := prog_1_method_3_code
def yX0_changeValue : MethodName := ⟨RX0, "changeValue", "(II)I"⟩
abbrev cX0_split : ByteArray := prog_1_method_4_code
def yX0_split : MethodName := ⟨RX0, "split", "(II)I"⟩
abbrev cX0_setWork : ByteArray := prog_1_method_5_code
def yX0_setWork : MethodName := ⟨RX0, "setWork", "(II)I"⟩
abbrev cX0_store : ByteArray := prog_1_method_6_code
def yX0_store : MethodName := ⟨RX0, "store", "(II)I"⟩
abbrev cX0_place : ByteArray := prog_1_method_7_code
def yX0_place : MethodName := ⟨RX0, "place", "(II)I"⟩
abbrev cX0_setStep : ByteArray := prog_1_method_8_code
def yX0_setStep : MethodName := ⟨RX0, "setStep", "(II)I"⟩
abbrev cX0_dropStep : ByteArray := prog_1_method_9_code
def yX0_dropStep : MethodName := ⟨RX0, "dropStep", "(I)I"⟩
abbrev cX0_hold : ByteArray := prog_1_method_10_code
def yX0_hold : MethodName := ⟨RX0, "hold", "(Z)Z"⟩
abbrev cX0_steps : ByteArray := prog_1_method_11_code
def yX0_steps : MethodName := ⟨RX0, "steps", "()I"⟩
abbrev cX0_progress : ByteArray := prog_1_method_12_code
def yX0_progress : MethodName := ⟨RX0, "progress", "()I"⟩
abbrev cX0_rate : ByteArray := prog_1_method_13_code
def yX0_rate : MethodName := ⟨RX0, "rate", "()I"⟩
abbrev cX0_close : ByteArray := prog_1_method_14_code
def yX0_close : MethodName := ⟨RX0, "close", "()I"⟩
abbrev cX0_nextAmount : ByteArray := prog_1_method_15_code
def yX0_nextAmount : MethodName := ⟨RX0, "nextAmount", "()I"⟩
abbrev cX0_pay : ByteArray := prog_1_method_16_code
def yX0_pay : MethodName := ⟨RX0, "pay", "(I)I"⟩
abbrev cX0_waive : ByteArray := prog_1_method_17_code
def yX0_waive : MethodName := ⟨RX0, "waive", "(I)I"⟩
abbrev cX0_applications : ByteArray := prog_1_method_18_code
def yX0_applications : MethodName := ⟨RX0, "applications", "()I"⟩
abbrev cX0_state : ByteArray := prog_1_method_19_code
def yX0_state : MethodName := ⟨RX0, "state", "(I)I"⟩
abbrev cX0_amount : ByteArray := prog_1_method_20_code
def yX0_amount : MethodName := ⟨RX0, "amount", "(I)I"⟩
abbrev cX0_billedBehind : ByteArray := prog_1_method_21_code
def yX0_billedBehind : MethodName := ⟨RX0, "billedBehind", "(I)I"⟩
abbrev cX0_heldBehind : ByteArray := prog_1_method_22_code
def yX0_heldBehind : MethodName := ⟨RX0, "heldBehind", "(I)I"⟩
abbrev cX0_lines : ByteArray := prog_1_method_23_code
def yX0_lines : MethodName := ⟨RX0, "lines", "()I"⟩
abbrev cX0_value : ByteArray := prog_1_method_24_code
def yX0_value : MethodName := ⟨RX0, "value", "(I)I"⟩
abbrev cX0_work : ByteArray := prog_1_method_25_code
def yX0_work : MethodName := ⟨RX0, "work", "(I)I"⟩
abbrev cX0_goods : ByteArray := prog_1_method_26_code
def yX0_goods : MethodName := ⟨RX0, "goods", "(I)I"⟩
abbrev cX0_billed : ByteArray := prog_1_method_27_code
def yX0_billed : MethodName := ⟨RX0, "billed", "(I)I"⟩
abbrev cX0_held : ByteArray := prog_1_method_28_code
def yX0_held : MethodName := ⟨RX0, "held", "(I)I"⟩
abbrev cX0_lineByShare : ByteArray := prog_1_method_29_code
def yX0_lineByShare : MethodName := ⟨RX0, "lineByShare", "(I)I"⟩
abbrev cX0_contractSum : ByteArray := prog_1_method_30_code
def yX0_contractSum : MethodName := ⟨RX0, "contractSum", "()I"⟩
abbrev cX0_paid : ByteArray := prog_1_method_31_code
def yX0_paid : MethodName := ⟨RX0, "paid", "()I"⟩
abbrev cX0_toCome : ByteArray := prog_1_method_32_code
def yX0_toCome : MethodName := ⟨RX0, "toCome", "()I"⟩
abbrev cX0_requireLine : ByteArray := prog_1_method_33_code
def yX0_requireLine : MethodName := ⟨RX0, "requireLine", "(I)V"⟩
abbrev cX0_requireApplication : ByteArray := prog_1_method_34_code
def yX0_requireApplication : MethodName := ⟨RX0, "requireApplication", "(I)V"⟩
abbrev cX0_requireBetween : ByteArray := prog_1_method_35_code
def yX0_requireBetween : MethodName := ⟨RX0, "requireBetween", "(III)V"⟩
abbrev cX0_requireRoomForLine : ByteArray := prog_1_method_36_code
def yX0_requireRoomForLine : MethodName := ⟨RX0, "requireRoomForLine", "()V"⟩
abbrev cX0_requireValueFor : ByteArray := prog_1_method_37_code
def yX0_requireValueFor : MethodName := ⟨RX0, "requireValueFor", "(II)V"⟩
abbrev cX0_moveShare : ByteArray := prog_1_method_38_code
def yX0_moveShare : MethodName := ⟨RX0, "moveShare", "([IIIII)V"⟩
abbrev cX0_stepWith : ByteArray := prog_1_method_39_code
def yX0_stepWith : MethodName := ⟨RX0, "stepWith", "(I)I"⟩
abbrev cX0_addStep : ByteArray := prog_1_method_40_code
def yX0_addStep : MethodName := ⟨RX0, "addStep", "(II)V"⟩
abbrev cX0_heldIfClosed : ByteArray := prog_1_method_41_code
def yX0_heldIfClosed : MethodName := ⟨RX0, "heldIfClosed", "(II)I"⟩
abbrev cX0_billLines : ByteArray := prog_1_method_42_code
def yX0_billLines : MethodName := ⟨RX0, "billLines", "()V"⟩
abbrev cX0_waiversGiven : ByteArray := prog_1_method_43_code
def yX0_waiversGiven : MethodName := ⟨RX0, "waiversGiven", "()I"⟩
abbrev cX0_placeByShare : ByteArray := prog_1_method_44_code
def yX0_placeByShare : MethodName := ⟨RX0, "placeByShare", "(I)I"⟩
abbrev cX0_isAhead : ByteArray := prog_1_method_45_code
def yX0_isAhead : MethodName := ⟨RX0, "isAhead", "(II)Z"⟩
abbrev cX0_shareDivisor : ByteArray := prog_1_method_46_code
def yX0_shareDivisor : MethodName := ⟨RX0, "shareDivisor", "(I)I"⟩
abbrev cX0_sum : ByteArray := prog_1_method_47_code
def yX0_sum : MethodName := ⟨RX0, "sum", "([II)I"⟩
abbrev cX0_thousandths : ByteArray := prog_1_method_48_code
def yX0_thousandths : MethodName := ⟨RX0, "thousandths", "(II)I"⟩
abbrev cX0_scaledDown : ByteArray := prog_1_method_49_code
def yX0_scaledDown : MethodName := ⟨RX0, "scaledDown", "(III)I"⟩
def RX1 : String := "ProgressBillingModel"
def TX1 : u_T := fun k => match k with
  | 0 => ("ProgressBillingModel", "refusal", "I", false)
  | 1 => ("ProgressBillingModel", "lines", "I", false)
  | 2 => ("ProgressBillingModel", "values", "[I", true)
  | 3 => ("ProgressBillingModel", "earned", "[I", true)
  | 4 => ("ProgressBillingModel", "works", "[I", true)
  | 5 => ("ProgressBillingModel", "billed", "[I", true)
  | 6 => ("ProgressBillingModel", "held", "[I", true)
  | 7 => ("ProgressBillingModel", "rates", "[I", true)
  | 8 => ("ProgressBillingModel", "isByIncrease", "Z", false)
  | 9 => ("ProgressBillingModel", "applications", "I", false)
  | 10 => ("ProgressBillingModel", "states", "[I", true)
  | 11 => ("ProgressBillingModel", "amounts", "[I", true)
  | 12 => ("ProgressBillingModel", "billedThen", "[I", true)
  | _ => ("ProgressBillingModel", "heldThen", "[I", true)
def tyX1 : Nat → FieldType := fun k => match k with
  | 0 => .int
  | 1 => .int
  | 2 => .array .int
  | 3 => .array .int
  | 4 => .array .int
  | 5 => .array .int
  | 6 => .array .int
  | 7 => .array .int
  | 8 => .boolean
  | 9 => .int
  | 10 => .array .int
  | 11 => .array .int
  | 12 => .array .int
  | _ => .array .int
abbrev wsX10 : List Cond := u_ws RX1 TX1 14
theorem nmX1 : ∀ a, a < 14 → ∀ b, b < 14 → a ≠ b → (TX1 a).2.1 ≠ (TX1 b).2.1 := by decide +kernel
theorem tyX1_ok : ∀ k, k < 14 → parseFieldDescriptor (TX1 k).2.2.1 = some (tyX1 k) := by decide +kernel
abbrev cX1_init : ByteArray := prog_3_method_1_code
def yX1_init : MethodName := ⟨RX1, "<init>", "()V"⟩
abbrev cX1_thrown : ByteArray := prog_3_method_2_code
def yX1_thrown : MethodName := ⟨RX1, "thrown", "()I"⟩
abbrev cX1_refused : ByteArray := prog_3_method_3_code
def yX1_refused : MethodName := ⟨RX1, "refused", "(I)Z"⟩
abbrev cX1_fine : ByteArray := prog_3_method_4_code
def yX1_fine : MethodName := ⟨RX1, "fine", "(I)I"⟩
abbrev cX1_in : ByteArray := prog_3_method_5_code
def yX1_in : MethodName := ⟨RX1, "in", "(III)Z"⟩
abbrev cX1_isLine : ByteArray := prog_3_method_6_code
def yX1_isLine : MethodName := ⟨RX1, "isLine", "(I)Z"⟩
abbrev cX1_thousandths : ByteArray := prog_3_method_7_code
def yX1_thousandths : MethodName := ⟨RX1, "thousandths", "(II)I"⟩
abbrev cX1_addLine : ByteArray := prog_3_method_8_code
def yX1_addLine : MethodName := ⟨RX1, "addLine", "(I)I"⟩
abbrev cX1_put : ByteArray := prog_3_method_9_code
def yX1_put : MethodName := ⟨RX1, "put", "(IIIIII)V"⟩
abbrev cX1_changeValue : ByteArray := prog_3_method_10_code
def yX1_changeValue : MethodName := ⟨RX1, "changeValue", "(II)I"⟩
abbrev cX1_share : ByteArray := prog_3_method_11_code
def yX1_share : MethodName := ⟨RX1, "share", "(III)I"⟩
abbrev cX1_split : ByteArray := prog_3_method_12_code
def yX1_split : MethodName := ⟨RX1, "split", "(II)I"⟩
abbrev cX1_setWork : ByteArray := prog_3_method_13_code
def yX1_setWork : MethodName := ⟨RX1, "setWork", "(II)I"⟩
abbrev cX1_store : ByteArray := prog_3_method_14_code
def yX1_store : MethodName := ⟨RX1, "store", "(II)I"⟩
abbrev cX1_place : ByteArray := prog_3_method_15_code
def yX1_place : MethodName := ⟨RX1, "place", "(II)I"⟩
abbrev cX1_countSteps : ByteArray := prog_3_method_16_code
def yX1_countSteps : MethodName := ⟨RX1, "countSteps", "()I"⟩
abbrev cX1_setStep : ByteArray := prog_3_method_17_code
def yX1_setStep : MethodName := ⟨RX1, "setStep", "(II)I"⟩
abbrev cX1_dropStep : ByteArray := prog_3_method_18_code
def yX1_dropStep : MethodName := ⟨RX1, "dropStep", "(I)I"⟩
abbrev cX1_hold : ByteArray := prog_3_method_19_code
def yX1_hold : MethodName := ⟨RX1, "hold", "(Z)Z"⟩
abbrev cX1_steps : ByteArray := prog_3_method_20_code
def yX1_steps : MethodName := ⟨RX1, "steps", "()I"⟩
abbrev cX1_sum : ByteArray := prog_3_method_21_code
def yX1_sum : MethodName := ⟨RX1, "sum", "([I)I"⟩
abbrev cX1_reached : ByteArray := prog_3_method_22_code
def yX1_reached : MethodName := ⟨RX1, "reached", "()I"⟩
abbrev cX1_progress : ByteArray := prog_3_method_23_code
def yX1_progress : MethodName := ⟨RX1, "progress", "()I"⟩
abbrev cX1_rateNow : ByteArray := prog_3_method_24_code
def yX1_rateNow : MethodName := ⟨RX1, "rateNow", "()I"⟩
abbrev cX1_rate : ByteArray := prog_3_method_25_code
def yX1_rate : MethodName := ⟨RX1, "rate", "()I"⟩
abbrev cX1_holdsThen : ByteArray := prog_3_method_26_code
def yX1_holdsThen : MethodName := ⟨RX1, "holdsThen", "(I)I"⟩
abbrev cX1_amountNow : ByteArray := prog_3_method_27_code
def yX1_amountNow : MethodName := ⟨RX1, "amountNow", "()I"⟩
abbrev cX1_close : ByteArray := prog_3_method_28_code
def yX1_close : MethodName := ⟨RX1, "close", "()I"⟩
abbrev cX1_nextAmount : ByteArray := prog_3_method_29_code
def yX1_nextAmount : MethodName := ⟨RX1, "nextAmount", "()I"⟩
abbrev cX1_isApplication : ByteArray := prog_3_method_30_code
def yX1_isApplication : MethodName := ⟨RX1, "isApplication", "(I)Z"⟩
abbrev cX1_waived : ByteArray := prog_3_method_31_code
def yX1_waived : MethodName := ⟨RX1, "waived", "()I"⟩
abbrev cX1_pay : ByteArray := prog_3_method_32_code
def yX1_pay : MethodName := ⟨RX1, "pay", "(I)I"⟩
abbrev cX1_waive : ByteArray := prog_3_method_33_code
def yX1_waive : MethodName := ⟨RX1, "waive", "(I)I"⟩
abbrev cX1_applications : ByteArray := prog_3_method_34_code
def yX1_applications : MethodName := ⟨RX1, "applications", "()I"⟩
abbrev cX1_told : ByteArray := prog_3_method_35_code
def yX1_told : MethodName := ⟨RX1, "told", "(I[I)I"⟩
abbrev cX1_state : ByteArray := prog_3_method_36_code
def yX1_state : MethodName := ⟨RX1, "state", "(I)I"⟩
abbrev cX1_amount : ByteArray := prog_3_method_37_code
def yX1_amount : MethodName := ⟨RX1, "amount", "(I)I"⟩
abbrev cX1_billedBehind : ByteArray := prog_3_method_38_code
def yX1_billedBehind : MethodName := ⟨RX1, "billedBehind", "(I)I"⟩
abbrev cX1_heldBehind : ByteArray := prog_3_method_39_code
def yX1_heldBehind : MethodName := ⟨RX1, "heldBehind", "(I)I"⟩
abbrev cX1_lines : ByteArray := prog_3_method_40_code
def yX1_lines : MethodName := ⟨RX1, "lines", "()I"⟩
abbrev cX1_noLine : ByteArray := prog_3_method_41_code
def yX1_noLine : MethodName := ⟨RX1, "noLine", "(I)Z"⟩
abbrev cX1_value : ByteArray := prog_3_method_42_code
def yX1_value : MethodName := ⟨RX1, "value", "(I)I"⟩
abbrev cX1_work : ByteArray := prog_3_method_43_code
def yX1_work : MethodName := ⟨RX1, "work", "(I)I"⟩
abbrev cX1_goods : ByteArray := prog_3_method_44_code
def yX1_goods : MethodName := ⟨RX1, "goods", "(I)I"⟩
abbrev cX1_billed : ByteArray := prog_3_method_45_code
def yX1_billed : MethodName := ⟨RX1, "billed", "(I)I"⟩
abbrev cX1_held : ByteArray := prog_3_method_46_code
def yX1_held : MethodName := ⟨RX1, "held", "(I)I"⟩
abbrev cX1_isAhead : ByteArray := prog_3_method_47_code
def yX1_isAhead : MethodName := ⟨RX1, "isAhead", "(II)Z"⟩
abbrev cX1_lineByShare : ByteArray := prog_3_method_48_code
def yX1_lineByShare : MethodName := ⟨RX1, "lineByShare", "(I)I"⟩
abbrev cX1_contractSum : ByteArray := prog_3_method_49_code
def yX1_contractSum : MethodName := ⟨RX1, "contractSum", "()I"⟩
abbrev cX1_sumPaid : ByteArray := prog_3_method_50_code
def yX1_sumPaid : MethodName := ⟨RX1, "sumPaid", "()I"⟩
abbrev cX1_paid : ByteArray := prog_3_method_51_code
def yX1_paid : MethodName := ⟨RX1, "paid", "()I"⟩
abbrev cX1_toCome : ByteArray := prog_3_method_52_code
def yX1_toCome : MethodName := ⟨RX1, "toCome", "()I"⟩
def RJ9 : String := "java/lang/Math"
def TJ9 : u_T := fun k => match k with
  | _ => ("", "", "", false)
def tyJ9 : Nat → FieldType := fun k => match k with
  | _ => .int
abbrev wsJ90 : List Cond := u_ws RJ9 TJ9 0
theorem nmJ9 : ∀ a, a < 0 → ∀ b, b < 0 → a ≠ b → (TJ9 a).2.1 ≠ (TJ9 b).2.1 := by decide +kernel
theorem tyJ9_ok : ∀ k, k < 0 → parseFieldDescriptor (TJ9 k).2.2.1 = some (tyJ9 k) := by decide +kernel
abbrev cJ9_floorDiv_f86c9 : ByteArray := prog_8_method_49_code
def yJ9_floorDiv_f86c9 : MethodName := ⟨RJ9, "floorDiv", "(JJ)J"⟩
abbrev cJ9_max_7cf53 : ByteArray := prog_8_method_65_code
def yJ9_max_7cf53 : MethodName := ⟨RJ9, "max", "(II)I"⟩
def RJ0 : String := "java/lang/String"
def TJ0 : u_T := fun k => match k with
  | _ => ("", "", "", false)
def tyJ0 : Nat → FieldType := fun k => match k with
  | _ => .int
abbrev wsJ00 : List Cond := u_ws RJ0 TJ0 0
theorem nmJ0 : ∀ a, a < 0 → ∀ b, b < 0 → a ≠ b → (TJ0 a).2.1 ≠ (TJ0 b).2.1 := by decide +kernel
theorem tyJ0_ok : ∀ k, k < 0 → parseFieldDescriptor (TJ0 k).2.2.1 = some (tyJ0 k) := by decide +kernel
def RL : String := "ProgressBillingLaw"
abbrev cL_addLine : ByteArray := method_3_code
def yL_addLine : MethodName := ⟨RL, "addLine", "(LProgressBilling;I[J)I"⟩
abbrev cL_changeValue : ByteArray := method_4_code
def yL_changeValue : MethodName := ⟨RL, "changeValue", "(LProgressBilling;II[J)I"⟩
abbrev cL_split : ByteArray := method_5_code
def yL_split : MethodName := ⟨RL, "split", "(LProgressBilling;II[J)I"⟩
abbrev cL_setWork : ByteArray := method_6_code
def yL_setWork : MethodName := ⟨RL, "setWork", "(LProgressBilling;II[J)I"⟩
abbrev cL_store : ByteArray := method_7_code
def yL_store : MethodName := ⟨RL, "store", "(LProgressBilling;II[J)I"⟩
abbrev cL_place : ByteArray := method_8_code
def yL_place : MethodName := ⟨RL, "place", "(LProgressBilling;II[J)I"⟩
abbrev cL_setStep : ByteArray := method_9_code
def yL_setStep : MethodName := ⟨RL, "setStep", "(LProgressBilling;II[J)I"⟩
abbrev cL_dropStep : ByteArray := method_10_code
def yL_dropStep : MethodName := ⟨RL, "dropStep", "(LProgressBilling;I[J)I"⟩
abbrev cL_close : ByteArray := method_11_code
def yL_close : MethodName := ⟨RL, "close", "(LProgressBilling;[J)I"⟩
abbrev cL_pay : ByteArray := method_12_code
def yL_pay : MethodName := ⟨RL, "pay", "(LProgressBilling;I[J)I"⟩
abbrev cL_waive : ByteArray := method_13_code
def yL_waive : MethodName := ⟨RL, "waive", "(LProgressBilling;I[J)I"⟩
abbrev cL_state : ByteArray := method_14_code
def yL_state : MethodName := ⟨RL, "state", "(LProgressBilling;I[J)I"⟩
abbrev cL_amount : ByteArray := method_15_code
def yL_amount : MethodName := ⟨RL, "amount", "(LProgressBilling;I[J)I"⟩
abbrev cL_billedBehind : ByteArray := method_16_code
def yL_billedBehind : MethodName := ⟨RL, "billedBehind", "(LProgressBilling;I[J)I"⟩
abbrev cL_heldBehind : ByteArray := method_17_code
def yL_heldBehind : MethodName := ⟨RL, "heldBehind", "(LProgressBilling;I[J)I"⟩
abbrev cL_value : ByteArray := method_18_code
def yL_value : MethodName := ⟨RL, "value", "(LProgressBilling;I[J)I"⟩
abbrev cL_work : ByteArray := method_19_code
def yL_work : MethodName := ⟨RL, "work", "(LProgressBilling;I[J)I"⟩
abbrev cL_goods : ByteArray := method_20_code
def yL_goods : MethodName := ⟨RL, "goods", "(LProgressBilling;I[J)I"⟩
abbrev cL_billed : ByteArray := method_21_code
def yL_billed : MethodName := ⟨RL, "billed", "(LProgressBilling;I[J)I"⟩
abbrev cL_held : ByteArray := method_22_code
def yL_held : MethodName := ⟨RL, "held", "(LProgressBilling;I[J)I"⟩
abbrev cL_lineByShare : ByteArray := method_23_code
def yL_lineByShare : MethodName := ⟨RL, "lineByShare", "(LProgressBilling;I[J)I"⟩
abbrev cL_law : ByteArray := code
def yL_law : MethodName := ⟨RL, "law", "([I)Z"⟩
def wsX0_init : List Cond := .code yX0_init cX0_init 1 none :: ([.methodLink RX0 1 objectInit, .instanceMethod objectInit, .code objectInit ⟨#[0xb1]⟩ 1 none, .arrayClass .int, .fieldLink RX0 9 "ProgressBilling" "lineValue" "[I", .fieldLink RX0 13 "ProgressBilling" "lineEarned" "[I", .fieldLink RX0 16 "ProgressBilling" "lineWork" "[I", .fieldLink RX0 19 "ProgressBilling" "lineBilled" "[I", .fieldLink RX0 22 "ProgressBilling" "lineHeld" "[I", .fieldLink RX0 25 "ProgressBilling" "stepThreshold" "[I", .fieldLink RX0 28 "ProgressBilling" "stepRate" "[I", .fieldLink RX0 31 "ProgressBilling" "applicationState" "[I", .fieldLink RX0 34 "ProgressBilling" "applicationAmount" "[I", .fieldLink RX0 37 "ProgressBilling" "applicationBilled" "[I", .fieldLink RX0 40 "ProgressBilling" "applicationHeld" "[I", .fieldLink RX0 43 "ProgressBilling" "stepCount" "I"] ++ wsX00)
def wsX0_requireBetween : List Cond := .code yX0_requireBetween cX0_requireBetween 3 none :: ([.classLink RX0 157 "java/lang/IllegalArgumentException", .initialized "java/lang/IllegalArgumentException"] ++ (vx_atS RX0 161 "java/lang/IllegalArgumentException" ["java/lang/RuntimeException", "java/lang/Exception"]).filter goodWord)
def wsX0_requireRoomForLine : List Cond := .code yX0_requireRoomForLine cX0_requireRoomForLine 1 none :: ([.classLink RX0 62 "java/lang/IllegalStateException", .initialized "java/lang/IllegalStateException", .fieldLink RX0 55 "ProgressBilling" "lineCount" "I"] ++ wsX00 ++ (vx_atS RX0 66 "java/lang/IllegalStateException" ["java/lang/RuntimeException", "java/lang/Exception"]).filter goodWord)
def wsX0_addLine : List Cond := .code yX0_addLine cX0_addLine 3 (some .int) :: ([.constant RX0 47 (10000000), .fieldLink RX0 55 "ProgressBilling" "lineCount" "I", .fieldLink RX0 9 "ProgressBilling" "lineValue" "[I", .methodLink RX0 48 yX0_requireBetween, .static yX0_requireBetween, .initialized RX0, .code yX0_requireBetween cX0_requireBetween 3 none, .classLink RX0 157 "java/lang/IllegalArgumentException", .initialized "java/lang/IllegalArgumentException", .methodLink RX0 52 yX0_requireRoomForLine, .instanceMethod yX0_requireRoomForLine, .selects RX0 yX0_requireRoomForLine yX0_requireRoomForLine, .code yX0_requireRoomForLine cX0_requireRoomForLine 1 none, .classLink RX0 62 "java/lang/IllegalStateException", .initialized "java/lang/IllegalStateException"] ++ wsX00 ++ (vx_atS RX0 161 "java/lang/IllegalArgumentException" ["java/lang/RuntimeException", "java/lang/Exception"]).filter goodWord ++ (vx_atS RX0 66 "java/lang/IllegalStateException" ["java/lang/RuntimeException", "java/lang/Exception"]).filter goodWord)
def wsX0_requireLine : List Cond := .code yX0_requireLine cX0_requireLine 2 none :: ([.classLink RX0 150 "java/lang/IndexOutOfBoundsException", .initialized "java/lang/IndexOutOfBoundsException", .fieldLink RX0 55 "ProgressBilling" "lineCount" "I"] ++ wsX00 ++ (vx_atS RX0 154 "java/lang/IndexOutOfBoundsException" ["java/lang/RuntimeException", "java/lang/Exception"]).filter goodWord)
def wsX0_changeValue : List Cond := .code yX0_changeValue cX0_changeValue 4 (some .int) :: ([.classLink RX0 62 "java/lang/IllegalStateException", .initialized "java/lang/IllegalStateException", .constant RX0 47 (10000000), .fieldLink RX0 13 "ProgressBilling" "lineEarned" "[I", .fieldLink RX0 9 "ProgressBilling" "lineValue" "[I", .methodLink RX0 58 yX0_requireLine, .instanceMethod yX0_requireLine, .selects RX0 yX0_requireLine yX0_requireLine, .initialized RX0, .code yX0_requireLine cX0_requireLine 2 none, .classLink RX0 150 "java/lang/IndexOutOfBoundsException", .initialized "java/lang/IndexOutOfBoundsException", .fieldLink RX0 55 "ProgressBilling" "lineCount" "I", .methodLink RX0 48 yX0_requireBetween, .static yX0_requireBetween, .code yX0_requireBetween cX0_requireBetween 3 none, .classLink RX0 157 "java/lang/IllegalArgumentException", .initialized "java/lang/IllegalArgumentException"] ++ wsX00 ++ (vx_atS RX0 66 "java/lang/IllegalStateException" ["java/lang/RuntimeException", "java/lang/Exception"]).filter goodWord ++ (vx_atS RX0 154 "java/lang/IndexOutOfBoundsException" ["java/lang/RuntimeException", "java/lang/Exception"]).filter goodWord ++ (vx_atS RX0 161 "java/lang/IllegalArgumentException" ["java/lang/RuntimeException", "java/lang/Exception"]).filter goodWord)
def wsJ9_floorDiv_f86c9 : List Cond := .code yJ9_floorDiv_f86c9 cJ9_floorDiv_f86c9 6 (some .long) :: ([])
def wsX0_scaledDown : List Cond := .code yX0_scaledDown cX0_scaledDown 3 (some .int) :: ([.methodLink RX0 184 yJ9_floorDiv_f86c9, .static yJ9_floorDiv_f86c9, .initialized RJ9, .code yJ9_floorDiv_f86c9 cJ9_floorDiv_f86c9 6 (some .long)])
def wsX0_moveShare : List Cond := .code yX0_moveShare cX0_moveShare 6 none :: ([.methodLink RX0 106 yX0_scaledDown, .static yX0_scaledDown, .initialized RX0, .code yX0_scaledDown cX0_scaledDown 3 (some .int), .methodLink RX0 184 yJ9_floorDiv_f86c9, .static yJ9_floorDiv_f86c9, .initialized RJ9, .code yJ9_floorDiv_f86c9 cJ9_floorDiv_f86c9 6 (some .long)])
def wsX0_split_r1 : List Cond := [Cond.fieldLink RX0 9 "ProgressBilling" "lineValue" "[I", Cond.fieldLink RX0 55 "ProgressBilling" "lineCount" "I", Cond.fieldLink RX0 13 "ProgressBilling" "lineEarned" "[I", Cond.fieldLink RX0 16 "ProgressBilling" "lineWork" "[I", Cond.fieldLink RX0 19 "ProgressBilling" "lineBilled" "[I", Cond.fieldLink RX0 22 "ProgressBilling" "lineHeld" "[I", Cond.methodLink RX0 58 yX0_requireLine, Cond.instanceMethod yX0_requireLine, Cond.selects RX0 yX0_requireLine yX0_requireLine, Cond.initialized RX0, Cond.code yX0_requireLine cX0_requireLine 2 none, Cond.classLink RX0 150 "java/lang/IndexOutOfBoundsException", Cond.initialized "java/lang/IndexOutOfBoundsException", Cond.methodLink RX0 48 yX0_requireBetween, Cond.static yX0_requireBetween, Cond.code yX0_requireBetween cX0_requireBetween 3 none, Cond.classLink RX0 157 "java/lang/IllegalArgumentException", Cond.initialized "java/lang/IllegalArgumentException", Cond.methodLink RX0 52 yX0_requireRoomForLine, Cond.instanceMethod yX0_requireRoomForLine, Cond.selects RX0 yX0_requireRoomForLine yX0_requireRoomForLine, Cond.code yX0_requireRoomForLine cX0_requireRoomForLine 1 none, Cond.classLink RX0 62 "java/lang/IllegalStateException", Cond.initialized "java/lang/IllegalStateException"]
def wsX0_split_r2 : List Cond := [Cond.methodLink RX0 69 yX0_moveShare, Cond.static yX0_moveShare, Cond.code yX0_moveShare cX0_moveShare 6 none, Cond.methodLink RX0 106 yX0_scaledDown, Cond.static yX0_scaledDown, Cond.code yX0_scaledDown cX0_scaledDown 3 (some .int), Cond.methodLink RX0 184 yJ9_floorDiv_f86c9, Cond.static yJ9_floorDiv_f86c9, Cond.initialized RJ9, Cond.code yJ9_floorDiv_f86c9 cJ9_floorDiv_f86c9 6 (some .long)]
def wsX0_split : List Cond := .code yX0_split cX0_split 5 (some .int) :: ((wsX0_split_r1 ++ wsX0_split_r2) ++ wsX00 ++ (vx_atS RX0 154 "java/lang/IndexOutOfBoundsException" ["java/lang/RuntimeException", "java/lang/Exception"]).filter goodWord ++ (vx_atS RX0 161 "java/lang/IllegalArgumentException" ["java/lang/RuntimeException", "java/lang/Exception"]).filter goodWord ++ (vx_atS RX0 66 "java/lang/IllegalStateException" ["java/lang/RuntimeException", "java/lang/Exception"]).filter goodWord)
def wsX0_thousandths : List Cond := .code yX0_thousandths cX0_thousandths 2 (some .int) :: ([.constantLong RX0 180 (500), .constantLong RX0 182 (1000), .methodLink RX0 184 yJ9_floorDiv_f86c9, .static yJ9_floorDiv_f86c9, .initialized RJ9, .code yJ9_floorDiv_f86c9 cJ9_floorDiv_f86c9 6 (some .long)])
def wsX0_requireValueFor : List Cond := .code yX0_requireValueFor cX0_requireValueFor 3 none :: ([.classLink RX0 62 "java/lang/IllegalStateException", .initialized "java/lang/IllegalStateException", .fieldLink RX0 13 "ProgressBilling" "lineEarned" "[I", .fieldLink RX0 9 "ProgressBilling" "lineValue" "[I"] ++ wsX00 ++ (vx_atS RX0 66 "java/lang/IllegalStateException" ["java/lang/RuntimeException", "java/lang/Exception"]).filter goodWord)
def wsX0_setWork_r1 : List Cond := [Cond.classLink RX0 62 "java/lang/IllegalStateException", Cond.initialized "java/lang/IllegalStateException", Cond.fieldLink RX0 9 "ProgressBilling" "lineValue" "[I", Cond.fieldLink RX0 16 "ProgressBilling" "lineWork" "[I", Cond.fieldLink RX0 13 "ProgressBilling" "lineEarned" "[I", Cond.methodLink RX0 58 yX0_requireLine, Cond.instanceMethod yX0_requireLine, Cond.selects RX0 yX0_requireLine yX0_requireLine, Cond.initialized RX0, Cond.code yX0_requireLine cX0_requireLine 2 none, Cond.classLink RX0 150 "java/lang/IndexOutOfBoundsException", Cond.initialized "java/lang/IndexOutOfBoundsException", Cond.fieldLink RX0 55 "ProgressBilling" "lineCount" "I", Cond.methodLink RX0 48 yX0_requireBetween, Cond.static yX0_requireBetween, Cond.code yX0_requireBetween cX0_requireBetween 3 none, Cond.classLink RX0 157 "java/lang/IllegalArgumentException", Cond.initialized "java/lang/IllegalArgumentException", Cond.methodLink RX0 73 yX0_thousandths, Cond.static yX0_thousandths, Cond.code yX0_thousandths cX0_thousandths 2 (some .int), Cond.constantLong RX0 180 (500), Cond.constantLong RX0 182 (1000), Cond.methodLink RX0 184 yJ9_floorDiv_f86c9]
def wsX0_setWork_r2 : List Cond := [Cond.static yJ9_floorDiv_f86c9, Cond.initialized RJ9, Cond.code yJ9_floorDiv_f86c9 cJ9_floorDiv_f86c9 6 (some .long), Cond.methodLink RX0 79 yX0_requireValueFor, Cond.instanceMethod yX0_requireValueFor, Cond.selects RX0 yX0_requireValueFor yX0_requireValueFor, Cond.code yX0_requireValueFor cX0_requireValueFor 3 none]
def wsX0_setWork : List Cond := .code yX0_setWork cX0_setWork 4 (some .int) :: ((wsX0_setWork_r1 ++ wsX0_setWork_r2) ++ wsX00 ++ (vx_atS RX0 66 "java/lang/IllegalStateException" ["java/lang/RuntimeException", "java/lang/Exception"]).filter goodWord ++ (vx_atS RX0 154 "java/lang/IndexOutOfBoundsException" ["java/lang/RuntimeException", "java/lang/Exception"]).filter goodWord ++ (vx_atS RX0 161 "java/lang/IllegalArgumentException" ["java/lang/RuntimeException", "java/lang/Exception"]).filter goodWord)
def wsX0_store : List Cond := .code yX0_store cX0_store 3 (some .int) :: ([.constant RX0 47 (10000000), .fieldLink RX0 13 "ProgressBilling" "lineEarned" "[I", .fieldLink RX0 16 "ProgressBilling" "lineWork" "[I", .methodLink RX0 58 yX0_requireLine, .instanceMethod yX0_requireLine, .selects RX0 yX0_requireLine yX0_requireLine, .initialized RX0, .code yX0_requireLine cX0_requireLine 2 none, .classLink RX0 150 "java/lang/IndexOutOfBoundsException", .initialized "java/lang/IndexOutOfBoundsException", .fieldLink RX0 55 "ProgressBilling" "lineCount" "I", .methodLink RX0 48 yX0_requireBetween, .static yX0_requireBetween, .code yX0_requireBetween cX0_requireBetween 3 none, .classLink RX0 157 "java/lang/IllegalArgumentException", .initialized "java/lang/IllegalArgumentException", .methodLink RX0 79 yX0_requireValueFor, .instanceMethod yX0_requireValueFor, .selects RX0 yX0_requireValueFor yX0_requireValueFor, .code yX0_requireValueFor cX0_requireValueFor 3 none, .classLink RX0 62 "java/lang/IllegalStateException", .initialized "java/lang/IllegalStateException", .fieldLink RX0 9 "ProgressBilling" "lineValue" "[I"] ++ wsX00 ++ (vx_atS RX0 154 "java/lang/IndexOutOfBoundsException" ["java/lang/RuntimeException", "java/lang/Exception"]).filter goodWord ++ (vx_atS RX0 161 "java/lang/IllegalArgumentException" ["java/lang/RuntimeException", "java/lang/Exception"]).filter goodWord ++ (vx_atS RX0 66 "java/lang/IllegalStateException" ["java/lang/RuntimeException", "java/lang/Exception"]).filter goodWord)
def wsX0_place : List Cond := .code yX0_place cX0_place 3 (some .int) :: ([.classLink RX0 62 "java/lang/IllegalStateException", .initialized "java/lang/IllegalStateException", .constant RX0 47 (10000000), .fieldLink RX0 13 "ProgressBilling" "lineEarned" "[I", .fieldLink RX0 16 "ProgressBilling" "lineWork" "[I", .methodLink RX0 58 yX0_requireLine, .instanceMethod yX0_requireLine, .selects RX0 yX0_requireLine yX0_requireLine, .initialized RX0, .code yX0_requireLine cX0_requireLine 2 none, .classLink RX0 150 "java/lang/IndexOutOfBoundsException", .initialized "java/lang/IndexOutOfBoundsException", .fieldLink RX0 55 "ProgressBilling" "lineCount" "I", .methodLink RX0 48 yX0_requireBetween, .static yX0_requireBetween, .code yX0_requireBetween cX0_requireBetween 3 none, .classLink RX0 157 "java/lang/IllegalArgumentException", .initialized "java/lang/IllegalArgumentException"] ++ wsX00 ++ (vx_atS RX0 66 "java/lang/IllegalStateException" ["java/lang/RuntimeException", "java/lang/Exception"]).filter goodWord ++ (vx_atS RX0 154 "java/lang/IndexOutOfBoundsException" ["java/lang/RuntimeException", "java/lang/Exception"]).filter goodWord ++ (vx_atS RX0 161 "java/lang/IllegalArgumentException" ["java/lang/RuntimeException", "java/lang/Exception"]).filter goodWord)
def wsX0_stepWith : List Cond := .code yX0_stepWith cX0_stepWith 3 (some .int) :: ([.fieldLink RX0 43 "ProgressBilling" "stepCount" "I", .fieldLink RX0 25 "ProgressBilling" "stepThreshold" "[I"] ++ wsX00)
def wsX0_addStep : List Cond := .code yX0_addStep cX0_addStep 3 none :: ([.classLink RX0 62 "java/lang/IllegalStateException", .initialized "java/lang/IllegalStateException", .fieldLink RX0 43 "ProgressBilling" "stepCount" "I", .fieldLink RX0 25 "ProgressBilling" "stepThreshold" "[I", .fieldLink RX0 28 "ProgressBilling" "stepRate" "[I"] ++ wsX00 ++ (vx_atS RX0 66 "java/lang/IllegalStateException" ["java/lang/RuntimeException", "java/lang/Exception"]).filter goodWord)
def wsX0_setStep : List Cond := .code yX0_setStep cX0_setStep 5 (some .int) :: ([.fieldLink RX0 28 "ProgressBilling" "stepRate" "[I", .methodLink RX0 48 yX0_requireBetween, .static yX0_requireBetween, .initialized RX0, .code yX0_requireBetween cX0_requireBetween 3 none, .classLink RX0 157 "java/lang/IllegalArgumentException", .initialized "java/lang/IllegalArgumentException", .methodLink RX0 85 yX0_stepWith, .instanceMethod yX0_stepWith, .selects RX0 yX0_stepWith yX0_stepWith, .code yX0_stepWith cX0_stepWith 3 (some .int), .fieldLink RX0 43 "ProgressBilling" "stepCount" "I", .fieldLink RX0 25 "ProgressBilling" "stepThreshold" "[I", .methodLink RX0 89 yX0_addStep, .instanceMethod yX0_addStep, .selects RX0 yX0_addStep yX0_addStep, .code yX0_addStep cX0_addStep 3 none, .classLink RX0 62 "java/lang/IllegalStateException", .initialized "java/lang/IllegalStateException"] ++ wsX00 ++ (vx_atS RX0 161 "java/lang/IllegalArgumentException" ["java/lang/RuntimeException", "java/lang/Exception"]).filter goodWord ++ (vx_atS RX0 66 "java/lang/IllegalStateException" ["java/lang/RuntimeException", "java/lang/Exception"]).filter goodWord)
def wsX0_dropStep : List Cond := .code yX0_dropStep cX0_dropStep 5 (some .int) :: ([.classLink RX0 62 "java/lang/IllegalStateException", .initialized "java/lang/IllegalStateException", .fieldLink RX0 28 "ProgressBilling" "stepRate" "[I", .fieldLink RX0 43 "ProgressBilling" "stepCount" "I", .fieldLink RX0 25 "ProgressBilling" "stepThreshold" "[I", .methodLink RX0 48 yX0_requireBetween, .static yX0_requireBetween, .initialized RX0, .code yX0_requireBetween cX0_requireBetween 3 none, .classLink RX0 157 "java/lang/IllegalArgumentException", .initialized "java/lang/IllegalArgumentException", .methodLink RX0 85 yX0_stepWith, .instanceMethod yX0_stepWith, .selects RX0 yX0_stepWith yX0_stepWith, .code yX0_stepWith cX0_stepWith 3 (some .int)] ++ wsX00 ++ (vx_atS RX0 66 "java/lang/IllegalStateException" ["java/lang/RuntimeException", "java/lang/Exception"]).filter goodWord ++ (vx_atS RX0 161 "java/lang/IllegalArgumentException" ["java/lang/RuntimeException", "java/lang/Exception"]).filter goodWord)
def wsX0_hold : List Cond := .code yX0_hold cX0_hold 3 (some .boolean) :: ([.fieldLink RX0 94 "ProgressBilling" "holdsByIncrease" "Z"] ++ wsX00)
def wsX0_steps : List Cond := .code yX0_steps cX0_steps 1 (some .int) :: ([.fieldLink RX0 43 "ProgressBilling" "stepCount" "I"] ++ wsX00)
def wsX0_sum : List Cond := .code yX0_sum cX0_sum 4 (some .int) :: ([])
def wsX0_contractSum : List Cond := .code yX0_contractSum cX0_contractSum 1 (some .int) :: ([.fieldLink RX0 9 "ProgressBilling" "lineValue" "[I", .fieldLink RX0 55 "ProgressBilling" "lineCount" "I", .methodLink RX0 98 yX0_sum, .static yX0_sum, .initialized RX0, .code yX0_sum cX0_sum 4 (some .int)] ++ wsX00)
def wsX0_progress : List Cond := .code yX0_progress cX0_progress 1 (some .int) :: ([.fieldLink RX0 16 "ProgressBilling" "lineWork" "[I", .fieldLink RX0 55 "ProgressBilling" "lineCount" "I", .methodLink RX0 98 yX0_sum, .static yX0_sum, .initialized RX0, .code yX0_sum cX0_sum 4 (some .int), .methodLink RX0 102 yX0_contractSum, .instanceMethod yX0_contractSum, .selects RX0 yX0_contractSum yX0_contractSum, .code yX0_contractSum cX0_contractSum 1 (some .int), .fieldLink RX0 9 "ProgressBilling" "lineValue" "[I", .methodLink RX0 106 yX0_scaledDown, .static yX0_scaledDown, .code yX0_scaledDown cX0_scaledDown 3 (some .int), .methodLink RX0 184 yJ9_floorDiv_f86c9, .static yJ9_floorDiv_f86c9, .initialized RJ9, .code yJ9_floorDiv_f86c9 cJ9_floorDiv_f86c9 6 (some .long)] ++ wsX00)
def wsX0_rate_r1 : List Cond := [Cond.fieldLink RX0 43 "ProgressBilling" "stepCount" "I", Cond.fieldLink RX0 25 "ProgressBilling" "stepThreshold" "[I", Cond.fieldLink RX0 28 "ProgressBilling" "stepRate" "[I", Cond.methodLink RX0 110 yX0_progress, Cond.instanceMethod yX0_progress, Cond.selects RX0 yX0_progress yX0_progress, Cond.initialized RX0, Cond.code yX0_progress cX0_progress 1 (some .int), Cond.fieldLink RX0 16 "ProgressBilling" "lineWork" "[I", Cond.fieldLink RX0 55 "ProgressBilling" "lineCount" "I", Cond.methodLink RX0 98 yX0_sum, Cond.static yX0_sum, Cond.code yX0_sum cX0_sum 4 (some .int), Cond.methodLink RX0 102 yX0_contractSum, Cond.instanceMethod yX0_contractSum, Cond.selects RX0 yX0_contractSum yX0_contractSum, Cond.code yX0_contractSum cX0_contractSum 1 (some .int), Cond.fieldLink RX0 9 "ProgressBilling" "lineValue" "[I", Cond.methodLink RX0 106 yX0_scaledDown, Cond.static yX0_scaledDown, Cond.code yX0_scaledDown cX0_scaledDown 3 (some .int), Cond.methodLink RX0 184 yJ9_floorDiv_f86c9, Cond.static yJ9_floorDiv_f86c9, Cond.initialized RJ9]
def wsX0_rate_r2 : List Cond := [Cond.code yJ9_floorDiv_f86c9 cJ9_floorDiv_f86c9 6 (some .long)]
def wsX0_rate : List Cond := .code yX0_rate cX0_rate 4 (some .int) :: ((wsX0_rate_r1 ++ wsX0_rate_r2) ++ wsX00)
def wsX0_heldIfClosed : List Cond := .code yX0_heldIfClosed cX0_heldIfClosed 3 (some .int) :: ([.fieldLink RX0 94 "ProgressBilling" "holdsByIncrease" "Z", .fieldLink RX0 22 "ProgressBilling" "lineHeld" "[I", .fieldLink RX0 13 "ProgressBilling" "lineEarned" "[I", .fieldLink RX0 19 "ProgressBilling" "lineBilled" "[I", .methodLink RX0 73 yX0_thousandths, .static yX0_thousandths, .initialized RX0, .code yX0_thousandths cX0_thousandths 2 (some .int), .constantLong RX0 180 (500), .constantLong RX0 182 (1000), .methodLink RX0 184 yJ9_floorDiv_f86c9, .static yJ9_floorDiv_f86c9, .initialized RJ9, .code yJ9_floorDiv_f86c9 cJ9_floorDiv_f86c9 6 (some .long)] ++ wsX00)
def wsX0_nextAmount_r1 : List Cond := [Cond.fieldLink RX0 13 "ProgressBilling" "lineEarned" "[I", Cond.fieldLink RX0 55 "ProgressBilling" "lineCount" "I", Cond.fieldLink RX0 34 "ProgressBilling" "applicationAmount" "[I", Cond.fieldLink RX0 115 "ProgressBilling" "applicationCount" "I", Cond.methodLink RX0 126 yX0_rate, Cond.instanceMethod yX0_rate, Cond.selects RX0 yX0_rate yX0_rate, Cond.initialized RX0, Cond.code yX0_rate cX0_rate 4 (some .int), Cond.fieldLink RX0 43 "ProgressBilling" "stepCount" "I", Cond.fieldLink RX0 25 "ProgressBilling" "stepThreshold" "[I", Cond.fieldLink RX0 28 "ProgressBilling" "stepRate" "[I", Cond.methodLink RX0 110 yX0_progress, Cond.instanceMethod yX0_progress, Cond.selects RX0 yX0_progress yX0_progress, Cond.code yX0_progress cX0_progress 1 (some .int), Cond.fieldLink RX0 16 "ProgressBilling" "lineWork" "[I", Cond.methodLink RX0 98 yX0_sum, Cond.static yX0_sum, Cond.code yX0_sum cX0_sum 4 (some .int), Cond.methodLink RX0 102 yX0_contractSum, Cond.instanceMethod yX0_contractSum, Cond.selects RX0 yX0_contractSum yX0_contractSum, Cond.code yX0_contractSum cX0_contractSum 1 (some .int)]
def wsX0_nextAmount_r2 : List Cond := [Cond.fieldLink RX0 9 "ProgressBilling" "lineValue" "[I", Cond.methodLink RX0 106 yX0_scaledDown, Cond.static yX0_scaledDown, Cond.code yX0_scaledDown cX0_scaledDown 3 (some .int), Cond.methodLink RX0 184 yJ9_floorDiv_f86c9, Cond.static yJ9_floorDiv_f86c9, Cond.initialized RJ9, Cond.code yJ9_floorDiv_f86c9 cJ9_floorDiv_f86c9 6 (some .long), Cond.methodLink RX0 129 yX0_heldIfClosed, Cond.instanceMethod yX0_heldIfClosed, Cond.selects RX0 yX0_heldIfClosed yX0_heldIfClosed, Cond.code yX0_heldIfClosed cX0_heldIfClosed 3 (some .int), Cond.fieldLink RX0 94 "ProgressBilling" "holdsByIncrease" "Z", Cond.fieldLink RX0 22 "ProgressBilling" "lineHeld" "[I", Cond.fieldLink RX0 19 "ProgressBilling" "lineBilled" "[I", Cond.methodLink RX0 73 yX0_thousandths, Cond.static yX0_thousandths, Cond.code yX0_thousandths cX0_thousandths 2 (some .int), Cond.constantLong RX0 180 (500), Cond.constantLong RX0 182 (1000)]
def wsX0_nextAmount : List Cond := .code yX0_nextAmount cX0_nextAmount 4 (some .int) :: ((wsX0_nextAmount_r1 ++ wsX0_nextAmount_r2) ++ wsX00)
def wsX0_billLines_r1 : List Cond := [Cond.fieldLink RX0 55 "ProgressBilling" "lineCount" "I", Cond.fieldLink RX0 22 "ProgressBilling" "lineHeld" "[I", Cond.fieldLink RX0 19 "ProgressBilling" "lineBilled" "[I", Cond.fieldLink RX0 13 "ProgressBilling" "lineEarned" "[I", Cond.methodLink RX0 126 yX0_rate, Cond.instanceMethod yX0_rate, Cond.selects RX0 yX0_rate yX0_rate, Cond.initialized RX0, Cond.code yX0_rate cX0_rate 4 (some .int), Cond.fieldLink RX0 43 "ProgressBilling" "stepCount" "I", Cond.fieldLink RX0 25 "ProgressBilling" "stepThreshold" "[I", Cond.fieldLink RX0 28 "ProgressBilling" "stepRate" "[I", Cond.methodLink RX0 110 yX0_progress, Cond.instanceMethod yX0_progress, Cond.selects RX0 yX0_progress yX0_progress, Cond.code yX0_progress cX0_progress 1 (some .int), Cond.fieldLink RX0 16 "ProgressBilling" "lineWork" "[I", Cond.methodLink RX0 98 yX0_sum, Cond.static yX0_sum, Cond.code yX0_sum cX0_sum 4 (some .int), Cond.methodLink RX0 102 yX0_contractSum, Cond.instanceMethod yX0_contractSum, Cond.selects RX0 yX0_contractSum yX0_contractSum, Cond.code yX0_contractSum cX0_contractSum 1 (some .int)]
def wsX0_billLines_r2 : List Cond := [Cond.fieldLink RX0 9 "ProgressBilling" "lineValue" "[I", Cond.methodLink RX0 106 yX0_scaledDown, Cond.static yX0_scaledDown, Cond.code yX0_scaledDown cX0_scaledDown 3 (some .int), Cond.methodLink RX0 184 yJ9_floorDiv_f86c9, Cond.static yJ9_floorDiv_f86c9, Cond.initialized RJ9, Cond.code yJ9_floorDiv_f86c9 cJ9_floorDiv_f86c9 6 (some .long), Cond.methodLink RX0 129 yX0_heldIfClosed, Cond.instanceMethod yX0_heldIfClosed, Cond.selects RX0 yX0_heldIfClosed yX0_heldIfClosed, Cond.code yX0_heldIfClosed cX0_heldIfClosed 3 (some .int), Cond.fieldLink RX0 94 "ProgressBilling" "holdsByIncrease" "Z", Cond.methodLink RX0 73 yX0_thousandths, Cond.static yX0_thousandths, Cond.code yX0_thousandths cX0_thousandths 2 (some .int), Cond.constantLong RX0 180 (500), Cond.constantLong RX0 182 (1000)]
def wsX0_billLines : List Cond := .code yX0_billLines cX0_billLines 3 none :: ((wsX0_billLines_r1 ++ wsX0_billLines_r2) ++ wsX00)
def wsX0_close_r1 : List Cond := [Cond.classLink RX0 62 "java/lang/IllegalStateException", Cond.initialized "java/lang/IllegalStateException", Cond.fieldLink RX0 55 "ProgressBilling" "lineCount" "I", Cond.fieldLink RX0 115 "ProgressBilling" "applicationCount" "I", Cond.fieldLink RX0 34 "ProgressBilling" "applicationAmount" "[I", Cond.fieldLink RX0 31 "ProgressBilling" "applicationState" "[I", Cond.fieldLink RX0 37 "ProgressBilling" "applicationBilled" "[I", Cond.fieldLink RX0 19 "ProgressBilling" "lineBilled" "[I", Cond.fieldLink RX0 40 "ProgressBilling" "applicationHeld" "[I", Cond.fieldLink RX0 22 "ProgressBilling" "lineHeld" "[I", Cond.methodLink RX0 120 yX0_nextAmount, Cond.instanceMethod yX0_nextAmount, Cond.selects RX0 yX0_nextAmount yX0_nextAmount, Cond.initialized RX0, Cond.code yX0_nextAmount cX0_nextAmount 4 (some .int), Cond.fieldLink RX0 13 "ProgressBilling" "lineEarned" "[I", Cond.methodLink RX0 126 yX0_rate, Cond.instanceMethod yX0_rate, Cond.selects RX0 yX0_rate yX0_rate, Cond.code yX0_rate cX0_rate 4 (some .int), Cond.fieldLink RX0 43 "ProgressBilling" "stepCount" "I", Cond.fieldLink RX0 25 "ProgressBilling" "stepThreshold" "[I", Cond.fieldLink RX0 28 "ProgressBilling" "stepRate" "[I", Cond.methodLink RX0 110 yX0_progress]
def wsX0_close_r2 : List Cond := [Cond.instanceMethod yX0_progress, Cond.selects RX0 yX0_progress yX0_progress, Cond.code yX0_progress cX0_progress 1 (some .int), Cond.fieldLink RX0 16 "ProgressBilling" "lineWork" "[I", Cond.methodLink RX0 98 yX0_sum, Cond.static yX0_sum, Cond.code yX0_sum cX0_sum 4 (some .int), Cond.methodLink RX0 102 yX0_contractSum, Cond.instanceMethod yX0_contractSum, Cond.selects RX0 yX0_contractSum yX0_contractSum, Cond.code yX0_contractSum cX0_contractSum 1 (some .int), Cond.fieldLink RX0 9 "ProgressBilling" "lineValue" "[I", Cond.methodLink RX0 106 yX0_scaledDown, Cond.static yX0_scaledDown, Cond.code yX0_scaledDown cX0_scaledDown 3 (some .int), Cond.methodLink RX0 184 yJ9_floorDiv_f86c9, Cond.static yJ9_floorDiv_f86c9, Cond.initialized RJ9, Cond.code yJ9_floorDiv_f86c9 cJ9_floorDiv_f86c9 6 (some .long), Cond.methodLink RX0 129 yX0_heldIfClosed, Cond.instanceMethod yX0_heldIfClosed, Cond.selects RX0 yX0_heldIfClosed yX0_heldIfClosed, Cond.code yX0_heldIfClosed cX0_heldIfClosed 3 (some .int), Cond.fieldLink RX0 94 "ProgressBilling" "holdsByIncrease" "Z"]
def wsX0_close_r3 : List Cond := [Cond.methodLink RX0 73 yX0_thousandths, Cond.static yX0_thousandths, Cond.code yX0_thousandths cX0_thousandths 2 (some .int), Cond.constantLong RX0 180 (500), Cond.constantLong RX0 182 (1000), Cond.methodLink RX0 123 yX0_billLines, Cond.instanceMethod yX0_billLines, Cond.selects RX0 yX0_billLines yX0_billLines, Cond.code yX0_billLines cX0_billLines 3 none]
def wsX0_close : List Cond := .code yX0_close cX0_close 2 (some .int) :: ((wsX0_close_r1 ++ (wsX0_close_r2 ++ wsX0_close_r3)) ++ wsX00 ++ (vx_atS RX0 66 "java/lang/IllegalStateException" ["java/lang/RuntimeException", "java/lang/Exception"]).filter goodWord)
def wsX0_requireApplication : List Cond := .code yX0_requireApplication cX0_requireApplication 2 none :: ([.classLink RX0 150 "java/lang/IndexOutOfBoundsException", .initialized "java/lang/IndexOutOfBoundsException", .fieldLink RX0 115 "ProgressBilling" "applicationCount" "I"] ++ wsX00 ++ (vx_atS RX0 154 "java/lang/IndexOutOfBoundsException" ["java/lang/RuntimeException", "java/lang/Exception"]).filter goodWord)
def wsX0_waiversGiven : List Cond := .code yX0_waiversGiven cX0_waiversGiven 3 (some .int) :: ([.fieldLink RX0 115 "ProgressBilling" "applicationCount" "I", .fieldLink RX0 31 "ProgressBilling" "applicationState" "[I"] ++ wsX00)
def wsX0_pay : List Cond := .code yX0_pay cX0_pay 2 (some .int) :: ([.classLink RX0 62 "java/lang/IllegalStateException", .initialized "java/lang/IllegalStateException", .fieldLink RX0 31 "ProgressBilling" "applicationState" "[I", .fieldLink RX0 34 "ProgressBilling" "applicationAmount" "[I", .methodLink RX0 132 yX0_requireApplication, .instanceMethod yX0_requireApplication, .selects RX0 yX0_requireApplication yX0_requireApplication, .initialized RX0, .code yX0_requireApplication cX0_requireApplication 2 none, .classLink RX0 150 "java/lang/IndexOutOfBoundsException", .initialized "java/lang/IndexOutOfBoundsException", .fieldLink RX0 115 "ProgressBilling" "applicationCount" "I", .methodLink RX0 137 yX0_waiversGiven, .instanceMethod yX0_waiversGiven, .selects RX0 yX0_waiversGiven yX0_waiversGiven, .code yX0_waiversGiven cX0_waiversGiven 3 (some .int)] ++ wsX00 ++ (vx_atS RX0 66 "java/lang/IllegalStateException" ["java/lang/RuntimeException", "java/lang/Exception"]).filter goodWord ++ (vx_atS RX0 154 "java/lang/IndexOutOfBoundsException" ["java/lang/RuntimeException", "java/lang/Exception"]).filter goodWord)
def wsX0_waive : List Cond := .code yX0_waive cX0_waive 2 (some .int) :: ([.classLink RX0 62 "java/lang/IllegalStateException", .initialized "java/lang/IllegalStateException", .fieldLink RX0 31 "ProgressBilling" "applicationState" "[I", .methodLink RX0 132 yX0_requireApplication, .instanceMethod yX0_requireApplication, .selects RX0 yX0_requireApplication yX0_requireApplication, .initialized RX0, .code yX0_requireApplication cX0_requireApplication 2 none, .classLink RX0 150 "java/lang/IndexOutOfBoundsException", .initialized "java/lang/IndexOutOfBoundsException", .fieldLink RX0 115 "ProgressBilling" "applicationCount" "I", .methodLink RX0 137 yX0_waiversGiven, .instanceMethod yX0_waiversGiven, .selects RX0 yX0_waiversGiven yX0_waiversGiven, .code yX0_waiversGiven cX0_waiversGiven 3 (some .int)] ++ wsX00 ++ (vx_atS RX0 66 "java/lang/IllegalStateException" ["java/lang/RuntimeException", "java/lang/Exception"]).filter goodWord ++ (vx_atS RX0 154 "java/lang/IndexOutOfBoundsException" ["java/lang/RuntimeException", "java/lang/Exception"]).filter goodWord)
def wsX0_applications : List Cond := .code yX0_applications cX0_applications 1 (some .int) :: ([.fieldLink RX0 115 "ProgressBilling" "applicationCount" "I"] ++ wsX00)
def wsX0_state : List Cond := .code yX0_state cX0_state 2 (some .int) :: ([.fieldLink RX0 31 "ProgressBilling" "applicationState" "[I", .methodLink RX0 132 yX0_requireApplication, .instanceMethod yX0_requireApplication, .selects RX0 yX0_requireApplication yX0_requireApplication, .initialized RX0, .code yX0_requireApplication cX0_requireApplication 2 none, .classLink RX0 150 "java/lang/IndexOutOfBoundsException", .initialized "java/lang/IndexOutOfBoundsException", .fieldLink RX0 115 "ProgressBilling" "applicationCount" "I"] ++ wsX00 ++ (vx_atS RX0 154 "java/lang/IndexOutOfBoundsException" ["java/lang/RuntimeException", "java/lang/Exception"]).filter goodWord)
def wsX0_amount : List Cond := .code yX0_amount cX0_amount 2 (some .int) :: ([.fieldLink RX0 34 "ProgressBilling" "applicationAmount" "[I", .methodLink RX0 132 yX0_requireApplication, .instanceMethod yX0_requireApplication, .selects RX0 yX0_requireApplication yX0_requireApplication, .initialized RX0, .code yX0_requireApplication cX0_requireApplication 2 none, .classLink RX0 150 "java/lang/IndexOutOfBoundsException", .initialized "java/lang/IndexOutOfBoundsException", .fieldLink RX0 115 "ProgressBilling" "applicationCount" "I"] ++ wsX00 ++ (vx_atS RX0 154 "java/lang/IndexOutOfBoundsException" ["java/lang/RuntimeException", "java/lang/Exception"]).filter goodWord)
def wsX0_billedBehind : List Cond := .code yX0_billedBehind cX0_billedBehind 2 (some .int) :: ([.fieldLink RX0 37 "ProgressBilling" "applicationBilled" "[I", .methodLink RX0 132 yX0_requireApplication, .instanceMethod yX0_requireApplication, .selects RX0 yX0_requireApplication yX0_requireApplication, .initialized RX0, .code yX0_requireApplication cX0_requireApplication 2 none, .classLink RX0 150 "java/lang/IndexOutOfBoundsException", .initialized "java/lang/IndexOutOfBoundsException", .fieldLink RX0 115 "ProgressBilling" "applicationCount" "I"] ++ wsX00 ++ (vx_atS RX0 154 "java/lang/IndexOutOfBoundsException" ["java/lang/RuntimeException", "java/lang/Exception"]).filter goodWord)
def wsX0_heldBehind : List Cond := .code yX0_heldBehind cX0_heldBehind 2 (some .int) :: ([.fieldLink RX0 40 "ProgressBilling" "applicationHeld" "[I", .methodLink RX0 132 yX0_requireApplication, .instanceMethod yX0_requireApplication, .selects RX0 yX0_requireApplication yX0_requireApplication, .initialized RX0, .code yX0_requireApplication cX0_requireApplication 2 none, .classLink RX0 150 "java/lang/IndexOutOfBoundsException", .initialized "java/lang/IndexOutOfBoundsException", .fieldLink RX0 115 "ProgressBilling" "applicationCount" "I"] ++ wsX00 ++ (vx_atS RX0 154 "java/lang/IndexOutOfBoundsException" ["java/lang/RuntimeException", "java/lang/Exception"]).filter goodWord)
def wsX0_lines : List Cond := .code yX0_lines cX0_lines 1 (some .int) :: ([.fieldLink RX0 55 "ProgressBilling" "lineCount" "I"] ++ wsX00)
def wsX0_value : List Cond := .code yX0_value cX0_value 2 (some .int) :: ([.fieldLink RX0 9 "ProgressBilling" "lineValue" "[I", .methodLink RX0 58 yX0_requireLine, .instanceMethod yX0_requireLine, .selects RX0 yX0_requireLine yX0_requireLine, .initialized RX0, .code yX0_requireLine cX0_requireLine 2 none, .classLink RX0 150 "java/lang/IndexOutOfBoundsException", .initialized "java/lang/IndexOutOfBoundsException", .fieldLink RX0 55 "ProgressBilling" "lineCount" "I"] ++ wsX00 ++ (vx_atS RX0 154 "java/lang/IndexOutOfBoundsException" ["java/lang/RuntimeException", "java/lang/Exception"]).filter goodWord)
def wsX0_work : List Cond := .code yX0_work cX0_work 2 (some .int) :: ([.fieldLink RX0 16 "ProgressBilling" "lineWork" "[I", .methodLink RX0 58 yX0_requireLine, .instanceMethod yX0_requireLine, .selects RX0 yX0_requireLine yX0_requireLine, .initialized RX0, .code yX0_requireLine cX0_requireLine 2 none, .classLink RX0 150 "java/lang/IndexOutOfBoundsException", .initialized "java/lang/IndexOutOfBoundsException", .fieldLink RX0 55 "ProgressBilling" "lineCount" "I"] ++ wsX00 ++ (vx_atS RX0 154 "java/lang/IndexOutOfBoundsException" ["java/lang/RuntimeException", "java/lang/Exception"]).filter goodWord)
def wsX0_goods : List Cond := .code yX0_goods cX0_goods 2 (some .int) :: ([.fieldLink RX0 13 "ProgressBilling" "lineEarned" "[I", .fieldLink RX0 16 "ProgressBilling" "lineWork" "[I", .methodLink RX0 58 yX0_requireLine, .instanceMethod yX0_requireLine, .selects RX0 yX0_requireLine yX0_requireLine, .initialized RX0, .code yX0_requireLine cX0_requireLine 2 none, .classLink RX0 150 "java/lang/IndexOutOfBoundsException", .initialized "java/lang/IndexOutOfBoundsException", .fieldLink RX0 55 "ProgressBilling" "lineCount" "I"] ++ wsX00 ++ (vx_atS RX0 154 "java/lang/IndexOutOfBoundsException" ["java/lang/RuntimeException", "java/lang/Exception"]).filter goodWord)
def wsX0_billed : List Cond := .code yX0_billed cX0_billed 2 (some .int) :: ([.fieldLink RX0 19 "ProgressBilling" "lineBilled" "[I", .methodLink RX0 58 yX0_requireLine, .instanceMethod yX0_requireLine, .selects RX0 yX0_requireLine yX0_requireLine, .initialized RX0, .code yX0_requireLine cX0_requireLine 2 none, .classLink RX0 150 "java/lang/IndexOutOfBoundsException", .initialized "java/lang/IndexOutOfBoundsException", .fieldLink RX0 55 "ProgressBilling" "lineCount" "I"] ++ wsX00 ++ (vx_atS RX0 154 "java/lang/IndexOutOfBoundsException" ["java/lang/RuntimeException", "java/lang/Exception"]).filter goodWord)
def wsX0_held : List Cond := .code yX0_held cX0_held 2 (some .int) :: ([.fieldLink RX0 22 "ProgressBilling" "lineHeld" "[I", .methodLink RX0 58 yX0_requireLine, .instanceMethod yX0_requireLine, .selects RX0 yX0_requireLine yX0_requireLine, .initialized RX0, .code yX0_requireLine cX0_requireLine 2 none, .classLink RX0 150 "java/lang/IndexOutOfBoundsException", .initialized "java/lang/IndexOutOfBoundsException", .fieldLink RX0 55 "ProgressBilling" "lineCount" "I"] ++ wsX00 ++ (vx_atS RX0 154 "java/lang/IndexOutOfBoundsException" ["java/lang/RuntimeException", "java/lang/Exception"]).filter goodWord)
def wsX0_shareDivisor : List Cond := .code yX0_shareDivisor cX0_shareDivisor 2 (some .int) :: ([.fieldLink RX0 9 "ProgressBilling" "lineValue" "[I", .methodLink RX0 175 Lib.Math.max.name, .static Lib.Math.max.name, .initialized "java/lang/Math", .code Lib.Math.max.name Lib.Math.max.code 2 (some .int)] ++ wsX00)
def wsX0_isAhead : List Cond := .code yX0_isAhead cX0_isAhead 7 (some .boolean) :: ([.fieldLink RX0 16 "ProgressBilling" "lineWork" "[I", .methodLink RX0 172 yX0_shareDivisor, .instanceMethod yX0_shareDivisor, .selects RX0 yX0_shareDivisor yX0_shareDivisor, .initialized RX0, .code yX0_shareDivisor cX0_shareDivisor 2 (some .int), .fieldLink RX0 9 "ProgressBilling" "lineValue" "[I", .methodLink RX0 175 Lib.Math.max.name, .static Lib.Math.max.name, .initialized "java/lang/Math", .code Lib.Math.max.name Lib.Math.max.code 2 (some .int)] ++ wsX00)
def wsX0_placeByShare : List Cond := .code yX0_placeByShare cX0_placeByShare 4 (some .int) :: ([.fieldLink RX0 55 "ProgressBilling" "lineCount" "I", .methodLink RX0 168 yX0_isAhead, .instanceMethod yX0_isAhead, .selects RX0 yX0_isAhead yX0_isAhead, .initialized RX0, .code yX0_isAhead cX0_isAhead 7 (some .boolean), .fieldLink RX0 16 "ProgressBilling" "lineWork" "[I", .methodLink RX0 172 yX0_shareDivisor, .instanceMethod yX0_shareDivisor, .selects RX0 yX0_shareDivisor yX0_shareDivisor, .code yX0_shareDivisor cX0_shareDivisor 2 (some .int), .fieldLink RX0 9 "ProgressBilling" "lineValue" "[I", .methodLink RX0 175 Lib.Math.max.name, .static Lib.Math.max.name, .initialized "java/lang/Math", .code Lib.Math.max.name Lib.Math.max.code 2 (some .int)] ++ wsX00)
def wsX0_lineByShare_r1 : List Cond := [Cond.fieldLink RX0 55 "ProgressBilling" "lineCount" "I", Cond.methodLink RX0 58 yX0_requireLine, Cond.instanceMethod yX0_requireLine, Cond.selects RX0 yX0_requireLine yX0_requireLine, Cond.initialized RX0, Cond.code yX0_requireLine cX0_requireLine 2 none, Cond.classLink RX0 150 "java/lang/IndexOutOfBoundsException", Cond.initialized "java/lang/IndexOutOfBoundsException", Cond.methodLink RX0 144 yX0_placeByShare, Cond.instanceMethod yX0_placeByShare, Cond.selects RX0 yX0_placeByShare yX0_placeByShare, Cond.code yX0_placeByShare cX0_placeByShare 4 (some .int), Cond.methodLink RX0 168 yX0_isAhead, Cond.instanceMethod yX0_isAhead, Cond.selects RX0 yX0_isAhead yX0_isAhead, Cond.code yX0_isAhead cX0_isAhead 7 (some .boolean), Cond.fieldLink RX0 16 "ProgressBilling" "lineWork" "[I", Cond.methodLink RX0 172 yX0_shareDivisor, Cond.instanceMethod yX0_shareDivisor, Cond.selects RX0 yX0_shareDivisor yX0_shareDivisor, Cond.code yX0_shareDivisor cX0_shareDivisor 2 (some .int), Cond.fieldLink RX0 9 "ProgressBilling" "lineValue" "[I", Cond.methodLink RX0 175 Lib.Math.max.name, Cond.static Lib.Math.max.name]
def wsX0_lineByShare_r2 : List Cond := [Cond.initialized "java/lang/Math", Cond.code Lib.Math.max.name Lib.Math.max.code 2 (some .int)]
def wsX0_lineByShare : List Cond := .code yX0_lineByShare cX0_lineByShare 3 (some .int) :: ((wsX0_lineByShare_r1 ++ wsX0_lineByShare_r2) ++ wsX00 ++ (vx_atS RX0 154 "java/lang/IndexOutOfBoundsException" ["java/lang/RuntimeException", "java/lang/Exception"]).filter goodWord)
def wsX0_paid : List Cond := .code yX0_paid cX0_paid 3 (some .int) :: ([.fieldLink RX0 115 "ProgressBilling" "applicationCount" "I", .fieldLink RX0 31 "ProgressBilling" "applicationState" "[I", .fieldLink RX0 34 "ProgressBilling" "applicationAmount" "[I"] ++ wsX00)
def wsX0_toCome : List Cond := .code yX0_toCome cX0_toCome 1 (some .int) :: ([.methodLink RX0 102 yX0_contractSum, .instanceMethod yX0_contractSum, .selects RX0 yX0_contractSum yX0_contractSum, .initialized RX0, .code yX0_contractSum cX0_contractSum 1 (some .int), .fieldLink RX0 9 "ProgressBilling" "lineValue" "[I", .fieldLink RX0 55 "ProgressBilling" "lineCount" "I", .methodLink RX0 98 yX0_sum, .static yX0_sum, .code yX0_sum cX0_sum 4 (some .int), .methodLink RX0 147 yX0_paid, .instanceMethod yX0_paid, .selects RX0 yX0_paid yX0_paid, .code yX0_paid cX0_paid 3 (some .int), .fieldLink RX0 115 "ProgressBilling" "applicationCount" "I", .fieldLink RX0 31 "ProgressBilling" "applicationState" "[I", .fieldLink RX0 34 "ProgressBilling" "applicationAmount" "[I"] ++ wsX00)
def wsX1_init : List Cond := .code yX1_init cX1_init 2 none :: ([.methodLink RX1 1 objectInit, .instanceMethod objectInit, .code objectInit ⟨#[0xb1]⟩ 1 none, .arrayClass .int, .fieldLink RX1 7 "ProgressBillingModel" "values" "[I", .fieldLink RX1 13 "ProgressBillingModel" "earned" "[I", .fieldLink RX1 16 "ProgressBillingModel" "works" "[I", .fieldLink RX1 19 "ProgressBillingModel" "billed" "[I", .fieldLink RX1 22 "ProgressBillingModel" "held" "[I", .fieldLink RX1 25 "ProgressBillingModel" "rates" "[I", .fieldLink RX1 28 "ProgressBillingModel" "states" "[I", .fieldLink RX1 31 "ProgressBillingModel" "amounts" "[I", .fieldLink RX1 34 "ProgressBillingModel" "billedThen" "[I", .fieldLink RX1 37 "ProgressBillingModel" "heldThen" "[I"] ++ wsX10)
def wsX1_thrown : List Cond := .code yX1_thrown cX1_thrown 1 (some .int) :: ([.fieldLink RX1 40 "ProgressBillingModel" "refusal" "I"] ++ wsX10)
def wsX1_refused : List Cond := .code yX1_refused cX1_refused 2 (some .boolean) :: ([.fieldLink RX1 40 "ProgressBillingModel" "refusal" "I"] ++ wsX10)
def wsX1_fine : List Cond := .code yX1_fine cX1_fine 2 (some .int) :: ([.fieldLink RX1 40 "ProgressBillingModel" "refusal" "I"] ++ wsX10)
def wsX1_in : List Cond := .code yX1_in cX1_in 3 (some .boolean) :: ([])
def wsX1_isLine : List Cond := .code yX1_isLine cX1_isLine 2 (some .boolean) :: ([.fieldLink RX1 44 "ProgressBillingModel" "lines" "I", .methodLink RX1 47 yX1_in, .static yX1_in, .initialized RX1, .code yX1_in cX1_in 3 (some .boolean)] ++ wsX10)
def wsX1_thousandths : List Cond := .code yX1_thousandths cX1_thousandths 2 (some .int) :: ([.constantLong RX1 51 (500), .constantLong RX1 53 (1000)])
def wsX1_put : List Cond := .code yX1_put cX1_put 7 none :: ([.fieldLink RX1 7 "ProgressBillingModel" "values" "[I", .fieldLink RX1 13 "ProgressBillingModel" "earned" "[I", .fieldLink RX1 16 "ProgressBillingModel" "works" "[I", .fieldLink RX1 19 "ProgressBillingModel" "billed" "[I", .fieldLink RX1 22 "ProgressBillingModel" "held" "[I"] ++ wsX10)
def wsX1_addLine : List Cond := .code yX1_addLine cX1_addLine 2 (some .int) :: ([.constant RX1 55 (10000000), .fieldLink RX1 44 "ProgressBillingModel" "lines" "I", .methodLink RX1 47 yX1_in, .static yX1_in, .initialized RX1, .code yX1_in cX1_in 3 (some .boolean), .methodLink RX1 56 yX1_refused, .instanceMethod yX1_refused, .selects RX1 yX1_refused yX1_refused, .code yX1_refused cX1_refused 2 (some .boolean), .fieldLink RX1 40 "ProgressBillingModel" "refusal" "I", .methodLink RX1 60 yX1_put, .instanceMethod yX1_put, .selects RX1 yX1_put yX1_put, .code yX1_put cX1_put 7 none, .fieldLink RX1 7 "ProgressBillingModel" "values" "[I", .fieldLink RX1 13 "ProgressBillingModel" "earned" "[I", .fieldLink RX1 16 "ProgressBillingModel" "works" "[I", .fieldLink RX1 19 "ProgressBillingModel" "billed" "[I", .fieldLink RX1 22 "ProgressBillingModel" "held" "[I"] ++ wsX10)
def wsX1_changeValue : List Cond := .code yX1_changeValue cX1_changeValue 4 (some .int) :: ([.constant RX1 55 (10000000), .fieldLink RX1 13 "ProgressBillingModel" "earned" "[I", .fieldLink RX1 7 "ProgressBillingModel" "values" "[I", .methodLink RX1 64 yX1_isLine, .instanceMethod yX1_isLine, .selects RX1 yX1_isLine yX1_isLine, .initialized RX1, .code yX1_isLine cX1_isLine 2 (some .boolean), .fieldLink RX1 44 "ProgressBillingModel" "lines" "I", .methodLink RX1 47 yX1_in, .static yX1_in, .code yX1_in cX1_in 3 (some .boolean), .methodLink RX1 56 yX1_refused, .instanceMethod yX1_refused, .selects RX1 yX1_refused yX1_refused, .code yX1_refused cX1_refused 2 (some .boolean), .fieldLink RX1 40 "ProgressBillingModel" "refusal" "I"] ++ wsX10)
def wsX1_share : List Cond := .code yX1_share cX1_share 3 (some .int) :: ([])
def wsX1_split_r1 : List Cond := [Cond.fieldLink RX1 7 "ProgressBillingModel" "values" "[I", Cond.fieldLink RX1 44 "ProgressBillingModel" "lines" "I", Cond.fieldLink RX1 13 "ProgressBillingModel" "earned" "[I", Cond.fieldLink RX1 16 "ProgressBillingModel" "works" "[I", Cond.fieldLink RX1 19 "ProgressBillingModel" "billed" "[I", Cond.fieldLink RX1 22 "ProgressBillingModel" "held" "[I", Cond.methodLink RX1 64 yX1_isLine, Cond.instanceMethod yX1_isLine, Cond.selects RX1 yX1_isLine yX1_isLine, Cond.initialized RX1, Cond.code yX1_isLine cX1_isLine 2 (some .boolean), Cond.methodLink RX1 47 yX1_in, Cond.static yX1_in, Cond.code yX1_in cX1_in 3 (some .boolean), Cond.methodLink RX1 56 yX1_refused, Cond.instanceMethod yX1_refused, Cond.selects RX1 yX1_refused yX1_refused, Cond.code yX1_refused cX1_refused 2 (some .boolean), Cond.fieldLink RX1 40 "ProgressBillingModel" "refusal" "I", Cond.methodLink RX1 67 yX1_share, Cond.static yX1_share, Cond.code yX1_share cX1_share 3 (some .int), Cond.methodLink RX1 60 yX1_put, Cond.instanceMethod yX1_put]
def wsX1_split_r2 : List Cond := [Cond.selects RX1 yX1_put yX1_put, Cond.code yX1_put cX1_put 7 none]
def wsX1_split : List Cond := .code yX1_split cX1_split 4 (some .int) :: ((wsX1_split_r1 ++ wsX1_split_r2) ++ wsX10)
def wsX1_setWork : List Cond := .code yX1_setWork cX1_setWork 7 (some .int) :: ([.fieldLink RX1 7 "ProgressBillingModel" "values" "[I", .fieldLink RX1 16 "ProgressBillingModel" "works" "[I", .fieldLink RX1 13 "ProgressBillingModel" "earned" "[I", .methodLink RX1 64 yX1_isLine, .instanceMethod yX1_isLine, .selects RX1 yX1_isLine yX1_isLine, .initialized RX1, .code yX1_isLine cX1_isLine 2 (some .boolean), .fieldLink RX1 44 "ProgressBillingModel" "lines" "I", .methodLink RX1 47 yX1_in, .static yX1_in, .code yX1_in cX1_in 3 (some .boolean), .methodLink RX1 71 yX1_thousandths, .static yX1_thousandths, .code yX1_thousandths cX1_thousandths 2 (some .int), .constantLong RX1 51 (500), .constantLong RX1 53 (1000), .methodLink RX1 56 yX1_refused, .instanceMethod yX1_refused, .selects RX1 yX1_refused yX1_refused, .code yX1_refused cX1_refused 2 (some .boolean), .fieldLink RX1 40 "ProgressBillingModel" "refusal" "I"] ++ wsX10)
def wsX1_store : List Cond := .code yX1_store cX1_store 3 (some .int) :: ([.constant RX1 55 (10000000), .fieldLink RX1 7 "ProgressBillingModel" "values" "[I", .fieldLink RX1 13 "ProgressBillingModel" "earned" "[I", .fieldLink RX1 16 "ProgressBillingModel" "works" "[I", .methodLink RX1 64 yX1_isLine, .instanceMethod yX1_isLine, .selects RX1 yX1_isLine yX1_isLine, .initialized RX1, .code yX1_isLine cX1_isLine 2 (some .boolean), .fieldLink RX1 44 "ProgressBillingModel" "lines" "I", .methodLink RX1 47 yX1_in, .static yX1_in, .code yX1_in cX1_in 3 (some .boolean), .methodLink RX1 56 yX1_refused, .instanceMethod yX1_refused, .selects RX1 yX1_refused yX1_refused, .code yX1_refused cX1_refused 2 (some .boolean), .fieldLink RX1 40 "ProgressBillingModel" "refusal" "I"] ++ wsX10)
def wsX1_place : List Cond := .code yX1_place cX1_place 3 (some .int) :: ([.constant RX1 55 (10000000), .fieldLink RX1 13 "ProgressBillingModel" "earned" "[I", .fieldLink RX1 16 "ProgressBillingModel" "works" "[I", .methodLink RX1 64 yX1_isLine, .instanceMethod yX1_isLine, .selects RX1 yX1_isLine yX1_isLine, .initialized RX1, .code yX1_isLine cX1_isLine 2 (some .boolean), .fieldLink RX1 44 "ProgressBillingModel" "lines" "I", .methodLink RX1 47 yX1_in, .static yX1_in, .code yX1_in cX1_in 3 (some .boolean), .methodLink RX1 56 yX1_refused, .instanceMethod yX1_refused, .selects RX1 yX1_refused yX1_refused, .code yX1_refused cX1_refused 2 (some .boolean), .fieldLink RX1 40 "ProgressBillingModel" "refusal" "I"] ++ wsX10)
def wsX1_countSteps : List Cond := .code yX1_countSteps cX1_countSteps 3 (some .int) :: ([.fieldLink RX1 25 "ProgressBillingModel" "rates" "[I"] ++ wsX10)
def wsX1_setStep : List Cond := .code yX1_setStep cX1_setStep 5 (some .int) :: ([.fieldLink RX1 25 "ProgressBillingModel" "rates" "[I", .methodLink RX1 47 yX1_in, .static yX1_in, .initialized RX1, .code yX1_in cX1_in 3 (some .boolean), .methodLink RX1 75 yX1_countSteps, .instanceMethod yX1_countSteps, .selects RX1 yX1_countSteps yX1_countSteps, .code yX1_countSteps cX1_countSteps 3 (some .int), .methodLink RX1 56 yX1_refused, .instanceMethod yX1_refused, .selects RX1 yX1_refused yX1_refused, .code yX1_refused cX1_refused 2 (some .boolean), .fieldLink RX1 40 "ProgressBillingModel" "refusal" "I"] ++ wsX10)
def wsX1_dropStep : List Cond := .code yX1_dropStep cX1_dropStep 4 (some .int) :: ([.fieldLink RX1 25 "ProgressBillingModel" "rates" "[I", .methodLink RX1 47 yX1_in, .static yX1_in, .initialized RX1, .code yX1_in cX1_in 3 (some .boolean), .methodLink RX1 56 yX1_refused, .instanceMethod yX1_refused, .selects RX1 yX1_refused yX1_refused, .code yX1_refused cX1_refused 2 (some .boolean), .fieldLink RX1 40 "ProgressBillingModel" "refusal" "I"] ++ wsX10)
def wsX1_hold : List Cond := .code yX1_hold cX1_hold 3 (some .boolean) :: ([.fieldLink RX1 40 "ProgressBillingModel" "refusal" "I", .fieldLink RX1 79 "ProgressBillingModel" "isByIncrease" "Z"] ++ wsX10)
def wsX1_steps : List Cond := .code yX1_steps cX1_steps 1 (some .int) :: ([.methodLink RX1 75 yX1_countSteps, .instanceMethod yX1_countSteps, .selects RX1 yX1_countSteps yX1_countSteps, .initialized RX1, .code yX1_countSteps cX1_countSteps 3 (some .int), .fieldLink RX1 25 "ProgressBillingModel" "rates" "[I", .methodLink RX1 83 yX1_fine, .instanceMethod yX1_fine, .selects RX1 yX1_fine yX1_fine, .code yX1_fine cX1_fine 2 (some .int), .fieldLink RX1 40 "ProgressBillingModel" "refusal" "I"] ++ wsX10)
def wsX1_sum : List Cond := .code yX1_sum cX1_sum 4 (some .int) :: ([.fieldLink RX1 44 "ProgressBillingModel" "lines" "I"] ++ wsX10)
def wsX1_reached : List Cond := .code yX1_reached cX1_reached 1 (some .int) :: ([.fieldLink RX1 7 "ProgressBillingModel" "values" "[I", .fieldLink RX1 16 "ProgressBillingModel" "works" "[I", .constantLong RX1 53 (1000), .methodLink RX1 87 yX1_sum, .instanceMethod yX1_sum, .selects RX1 yX1_sum yX1_sum, .initialized RX1, .code yX1_sum cX1_sum 4 (some .int), .fieldLink RX1 44 "ProgressBillingModel" "lines" "I"] ++ wsX10)
def wsX1_progress : List Cond := .code yX1_progress cX1_progress 1 (some .int) :: ([.methodLink RX1 91 yX1_reached, .instanceMethod yX1_reached, .selects RX1 yX1_reached yX1_reached, .initialized RX1, .code yX1_reached cX1_reached 1 (some .int), .fieldLink RX1 7 "ProgressBillingModel" "values" "[I", .fieldLink RX1 16 "ProgressBillingModel" "works" "[I", .constantLong RX1 53 (1000), .methodLink RX1 87 yX1_sum, .instanceMethod yX1_sum, .selects RX1 yX1_sum yX1_sum, .code yX1_sum cX1_sum 4 (some .int), .fieldLink RX1 44 "ProgressBillingModel" "lines" "I", .methodLink RX1 83 yX1_fine, .instanceMethod yX1_fine, .selects RX1 yX1_fine yX1_fine, .code yX1_fine cX1_fine 2 (some .int), .fieldLink RX1 40 "ProgressBillingModel" "refusal" "I"] ++ wsX10)
def wsX1_rateNow : List Cond := .code yX1_rateNow cX1_rateNow 2 (some .int) :: ([.fieldLink RX1 25 "ProgressBillingModel" "rates" "[I", .methodLink RX1 91 yX1_reached, .instanceMethod yX1_reached, .selects RX1 yX1_reached yX1_reached, .initialized RX1, .code yX1_reached cX1_reached 1 (some .int), .fieldLink RX1 7 "ProgressBillingModel" "values" "[I", .fieldLink RX1 16 "ProgressBillingModel" "works" "[I", .constantLong RX1 53 (1000), .methodLink RX1 87 yX1_sum, .instanceMethod yX1_sum, .selects RX1 yX1_sum yX1_sum, .code yX1_sum cX1_sum 4 (some .int), .fieldLink RX1 44 "ProgressBillingModel" "lines" "I"] ++ wsX10)
def wsX1_rate : List Cond := .code yX1_rate cX1_rate 1 (some .int) :: ([.methodLink RX1 94 yX1_rateNow, .instanceMethod yX1_rateNow, .selects RX1 yX1_rateNow yX1_rateNow, .initialized RX1, .code yX1_rateNow cX1_rateNow 2 (some .int), .fieldLink RX1 25 "ProgressBillingModel" "rates" "[I", .methodLink RX1 91 yX1_reached, .instanceMethod yX1_reached, .selects RX1 yX1_reached yX1_reached, .code yX1_reached cX1_reached 1 (some .int), .fieldLink RX1 7 "ProgressBillingModel" "values" "[I", .fieldLink RX1 16 "ProgressBillingModel" "works" "[I", .constantLong RX1 53 (1000), .methodLink RX1 87 yX1_sum, .instanceMethod yX1_sum, .selects RX1 yX1_sum yX1_sum, .code yX1_sum cX1_sum 4 (some .int), .fieldLink RX1 44 "ProgressBillingModel" "lines" "I", .methodLink RX1 83 yX1_fine, .instanceMethod yX1_fine, .selects RX1 yX1_fine yX1_fine, .code yX1_fine cX1_fine 2 (some .int), .fieldLink RX1 40 "ProgressBillingModel" "refusal" "I"] ++ wsX10)
def wsX1_holdsThen_r1 : List Cond := [Cond.fieldLink RX1 79 "ProgressBillingModel" "isByIncrease" "Z", Cond.fieldLink RX1 22 "ProgressBillingModel" "held" "[I", Cond.fieldLink RX1 13 "ProgressBillingModel" "earned" "[I", Cond.fieldLink RX1 19 "ProgressBillingModel" "billed" "[I", Cond.methodLink RX1 94 yX1_rateNow, Cond.instanceMethod yX1_rateNow, Cond.selects RX1 yX1_rateNow yX1_rateNow, Cond.initialized RX1, Cond.code yX1_rateNow cX1_rateNow 2 (some .int), Cond.fieldLink RX1 25 "ProgressBillingModel" "rates" "[I", Cond.methodLink RX1 91 yX1_reached, Cond.instanceMethod yX1_reached, Cond.selects RX1 yX1_reached yX1_reached, Cond.code yX1_reached cX1_reached 1 (some .int), Cond.fieldLink RX1 7 "ProgressBillingModel" "values" "[I", Cond.fieldLink RX1 16 "ProgressBillingModel" "works" "[I", Cond.constantLong RX1 53 (1000), Cond.methodLink RX1 87 yX1_sum, Cond.instanceMethod yX1_sum, Cond.selects RX1 yX1_sum yX1_sum, Cond.code yX1_sum cX1_sum 4 (some .int), Cond.fieldLink RX1 44 "ProgressBillingModel" "lines" "I", Cond.methodLink RX1 71 yX1_thousandths, Cond.static yX1_thousandths]
def wsX1_holdsThen_r2 : List Cond := [Cond.code yX1_thousandths cX1_thousandths 2 (some .int), Cond.constantLong RX1 51 (500)]
def wsX1_holdsThen : List Cond := .code yX1_holdsThen cX1_holdsThen 3 (some .int) :: ((wsX1_holdsThen_r1 ++ wsX1_holdsThen_r2) ++ wsX10)
def wsX1_amountNow_r1 : List Cond := [Cond.fieldLink RX1 13 "ProgressBillingModel" "earned" "[I", Cond.fieldLink RX1 44 "ProgressBillingModel" "lines" "I", Cond.fieldLink RX1 100 "ProgressBillingModel" "applications" "I", Cond.fieldLink RX1 31 "ProgressBillingModel" "amounts" "[I", Cond.methodLink RX1 87 yX1_sum, Cond.instanceMethod yX1_sum, Cond.selects RX1 yX1_sum yX1_sum, Cond.initialized RX1, Cond.code yX1_sum cX1_sum 4 (some .int), Cond.methodLink RX1 97 yX1_holdsThen, Cond.instanceMethod yX1_holdsThen, Cond.selects RX1 yX1_holdsThen yX1_holdsThen, Cond.code yX1_holdsThen cX1_holdsThen 3 (some .int), Cond.fieldLink RX1 79 "ProgressBillingModel" "isByIncrease" "Z", Cond.fieldLink RX1 22 "ProgressBillingModel" "held" "[I", Cond.fieldLink RX1 19 "ProgressBillingModel" "billed" "[I", Cond.methodLink RX1 94 yX1_rateNow, Cond.instanceMethod yX1_rateNow, Cond.selects RX1 yX1_rateNow yX1_rateNow, Cond.code yX1_rateNow cX1_rateNow 2 (some .int), Cond.fieldLink RX1 25 "ProgressBillingModel" "rates" "[I", Cond.methodLink RX1 91 yX1_reached, Cond.instanceMethod yX1_reached, Cond.selects RX1 yX1_reached yX1_reached]
def wsX1_amountNow_r2 : List Cond := [Cond.code yX1_reached cX1_reached 1 (some .int), Cond.fieldLink RX1 7 "ProgressBillingModel" "values" "[I", Cond.fieldLink RX1 16 "ProgressBillingModel" "works" "[I", Cond.constantLong RX1 53 (1000), Cond.methodLink RX1 71 yX1_thousandths, Cond.static yX1_thousandths, Cond.code yX1_thousandths cX1_thousandths 2 (some .int), Cond.constantLong RX1 51 (500)]
def wsX1_amountNow : List Cond := .code yX1_amountNow cX1_amountNow 3 (some .int) :: ((wsX1_amountNow_r1 ++ wsX1_amountNow_r2) ++ wsX10)
def wsX1_close_r1 : List Cond := [Cond.fieldLink RX1 44 "ProgressBillingModel" "lines" "I", Cond.fieldLink RX1 100 "ProgressBillingModel" "applications" "I", Cond.fieldLink RX1 31 "ProgressBillingModel" "amounts" "[I", Cond.fieldLink RX1 22 "ProgressBillingModel" "held" "[I", Cond.fieldLink RX1 19 "ProgressBillingModel" "billed" "[I", Cond.fieldLink RX1 13 "ProgressBillingModel" "earned" "[I", Cond.fieldLink RX1 28 "ProgressBillingModel" "states" "[I", Cond.fieldLink RX1 34 "ProgressBillingModel" "billedThen" "[I", Cond.fieldLink RX1 37 "ProgressBillingModel" "heldThen" "[I", Cond.methodLink RX1 56 yX1_refused, Cond.instanceMethod yX1_refused, Cond.selects RX1 yX1_refused yX1_refused, Cond.initialized RX1, Cond.code yX1_refused cX1_refused 2 (some .boolean), Cond.fieldLink RX1 40 "ProgressBillingModel" "refusal" "I", Cond.methodLink RX1 103 yX1_amountNow, Cond.instanceMethod yX1_amountNow, Cond.selects RX1 yX1_amountNow yX1_amountNow, Cond.code yX1_amountNow cX1_amountNow 3 (some .int), Cond.methodLink RX1 87 yX1_sum, Cond.instanceMethod yX1_sum, Cond.selects RX1 yX1_sum yX1_sum, Cond.code yX1_sum cX1_sum 4 (some .int), Cond.methodLink RX1 97 yX1_holdsThen]
def wsX1_close_r2 : List Cond := [Cond.instanceMethod yX1_holdsThen, Cond.selects RX1 yX1_holdsThen yX1_holdsThen, Cond.code yX1_holdsThen cX1_holdsThen 3 (some .int), Cond.fieldLink RX1 79 "ProgressBillingModel" "isByIncrease" "Z", Cond.methodLink RX1 94 yX1_rateNow, Cond.instanceMethod yX1_rateNow, Cond.selects RX1 yX1_rateNow yX1_rateNow, Cond.code yX1_rateNow cX1_rateNow 2 (some .int), Cond.fieldLink RX1 25 "ProgressBillingModel" "rates" "[I", Cond.methodLink RX1 91 yX1_reached, Cond.instanceMethod yX1_reached, Cond.selects RX1 yX1_reached yX1_reached, Cond.code yX1_reached cX1_reached 1 (some .int), Cond.fieldLink RX1 7 "ProgressBillingModel" "values" "[I", Cond.fieldLink RX1 16 "ProgressBillingModel" "works" "[I", Cond.constantLong RX1 53 (1000), Cond.methodLink RX1 71 yX1_thousandths, Cond.static yX1_thousandths, Cond.code yX1_thousandths cX1_thousandths 2 (some .int), Cond.constantLong RX1 51 (500)]
def wsX1_close : List Cond := .code yX1_close cX1_close 2 (some .int) :: ((wsX1_close_r1 ++ wsX1_close_r2) ++ wsX10)
def wsX1_nextAmount_r1 : List Cond := [Cond.methodLink RX1 103 yX1_amountNow, Cond.instanceMethod yX1_amountNow, Cond.selects RX1 yX1_amountNow yX1_amountNow, Cond.initialized RX1, Cond.code yX1_amountNow cX1_amountNow 3 (some .int), Cond.fieldLink RX1 13 "ProgressBillingModel" "earned" "[I", Cond.fieldLink RX1 44 "ProgressBillingModel" "lines" "I", Cond.fieldLink RX1 100 "ProgressBillingModel" "applications" "I", Cond.fieldLink RX1 31 "ProgressBillingModel" "amounts" "[I", Cond.methodLink RX1 87 yX1_sum, Cond.instanceMethod yX1_sum, Cond.selects RX1 yX1_sum yX1_sum, Cond.code yX1_sum cX1_sum 4 (some .int), Cond.methodLink RX1 97 yX1_holdsThen, Cond.instanceMethod yX1_holdsThen, Cond.selects RX1 yX1_holdsThen yX1_holdsThen, Cond.code yX1_holdsThen cX1_holdsThen 3 (some .int), Cond.fieldLink RX1 79 "ProgressBillingModel" "isByIncrease" "Z", Cond.fieldLink RX1 22 "ProgressBillingModel" "held" "[I", Cond.fieldLink RX1 19 "ProgressBillingModel" "billed" "[I", Cond.methodLink RX1 94 yX1_rateNow, Cond.instanceMethod yX1_rateNow, Cond.selects RX1 yX1_rateNow yX1_rateNow, Cond.code yX1_rateNow cX1_rateNow 2 (some .int)]
def wsX1_nextAmount_r2 : List Cond := [Cond.fieldLink RX1 25 "ProgressBillingModel" "rates" "[I", Cond.methodLink RX1 91 yX1_reached, Cond.instanceMethod yX1_reached, Cond.selects RX1 yX1_reached yX1_reached, Cond.code yX1_reached cX1_reached 1 (some .int), Cond.fieldLink RX1 7 "ProgressBillingModel" "values" "[I", Cond.fieldLink RX1 16 "ProgressBillingModel" "works" "[I", Cond.constantLong RX1 53 (1000), Cond.methodLink RX1 71 yX1_thousandths, Cond.static yX1_thousandths, Cond.code yX1_thousandths cX1_thousandths 2 (some .int), Cond.constantLong RX1 51 (500), Cond.methodLink RX1 83 yX1_fine, Cond.instanceMethod yX1_fine, Cond.selects RX1 yX1_fine yX1_fine, Cond.code yX1_fine cX1_fine 2 (some .int), Cond.fieldLink RX1 40 "ProgressBillingModel" "refusal" "I"]
def wsX1_nextAmount : List Cond := .code yX1_nextAmount cX1_nextAmount 1 (some .int) :: ((wsX1_nextAmount_r1 ++ wsX1_nextAmount_r2) ++ wsX10)
def wsX1_isApplication : List Cond := .code yX1_isApplication cX1_isApplication 2 (some .boolean) :: ([.fieldLink RX1 100 "ProgressBillingModel" "applications" "I", .methodLink RX1 47 yX1_in, .static yX1_in, .initialized RX1, .code yX1_in cX1_in 3 (some .boolean)] ++ wsX10)
def wsX1_waived : List Cond := .code yX1_waived cX1_waived 2 (some .int) :: ([.fieldLink RX1 100 "ProgressBillingModel" "applications" "I", .fieldLink RX1 28 "ProgressBillingModel" "states" "[I"] ++ wsX10)
def wsX1_pay : List Cond := .code yX1_pay cX1_pay 2 (some .int) :: ([.fieldLink RX1 28 "ProgressBillingModel" "states" "[I", .fieldLink RX1 31 "ProgressBillingModel" "amounts" "[I", .methodLink RX1 106 yX1_isApplication, .instanceMethod yX1_isApplication, .selects RX1 yX1_isApplication yX1_isApplication, .initialized RX1, .code yX1_isApplication cX1_isApplication 2 (some .boolean), .fieldLink RX1 100 "ProgressBillingModel" "applications" "I", .methodLink RX1 47 yX1_in, .static yX1_in, .code yX1_in cX1_in 3 (some .boolean), .methodLink RX1 109 yX1_waived, .instanceMethod yX1_waived, .selects RX1 yX1_waived yX1_waived, .code yX1_waived cX1_waived 2 (some .int), .methodLink RX1 56 yX1_refused, .instanceMethod yX1_refused, .selects RX1 yX1_refused yX1_refused, .code yX1_refused cX1_refused 2 (some .boolean), .fieldLink RX1 40 "ProgressBillingModel" "refusal" "I"] ++ wsX10)
def wsX1_waive : List Cond := .code yX1_waive cX1_waive 2 (some .int) :: ([.fieldLink RX1 28 "ProgressBillingModel" "states" "[I", .methodLink RX1 106 yX1_isApplication, .instanceMethod yX1_isApplication, .selects RX1 yX1_isApplication yX1_isApplication, .initialized RX1, .code yX1_isApplication cX1_isApplication 2 (some .boolean), .fieldLink RX1 100 "ProgressBillingModel" "applications" "I", .methodLink RX1 47 yX1_in, .static yX1_in, .code yX1_in cX1_in 3 (some .boolean), .methodLink RX1 56 yX1_refused, .instanceMethod yX1_refused, .selects RX1 yX1_refused yX1_refused, .code yX1_refused cX1_refused 2 (some .boolean), .fieldLink RX1 40 "ProgressBillingModel" "refusal" "I", .methodLink RX1 109 yX1_waived, .instanceMethod yX1_waived, .selects RX1 yX1_waived yX1_waived, .code yX1_waived cX1_waived 2 (some .int)] ++ wsX10)
def wsX1_applications : List Cond := .code yX1_applications cX1_applications 1 (some .int) :: ([.fieldLink RX1 100 "ProgressBillingModel" "applications" "I", .methodLink RX1 83 yX1_fine, .instanceMethod yX1_fine, .selects RX1 yX1_fine yX1_fine, .initialized RX1, .code yX1_fine cX1_fine 2 (some .int), .fieldLink RX1 40 "ProgressBillingModel" "refusal" "I"] ++ wsX10)
def wsX1_told : List Cond := .code yX1_told cX1_told 3 (some .int) :: ([.methodLink RX1 106 yX1_isApplication, .instanceMethod yX1_isApplication, .selects RX1 yX1_isApplication yX1_isApplication, .initialized RX1, .code yX1_isApplication cX1_isApplication 2 (some .boolean), .fieldLink RX1 100 "ProgressBillingModel" "applications" "I", .methodLink RX1 47 yX1_in, .static yX1_in, .code yX1_in cX1_in 3 (some .boolean), .methodLink RX1 56 yX1_refused, .instanceMethod yX1_refused, .selects RX1 yX1_refused yX1_refused, .code yX1_refused cX1_refused 2 (some .boolean), .fieldLink RX1 40 "ProgressBillingModel" "refusal" "I"] ++ wsX10)
def wsX1_state : List Cond := .code yX1_state cX1_state 2 (some .int) :: ([.fieldLink RX1 28 "ProgressBillingModel" "states" "[I", .methodLink RX1 112 yX1_told, .instanceMethod yX1_told, .selects RX1 yX1_told yX1_told, .initialized RX1, .code yX1_told cX1_told 3 (some .int), .methodLink RX1 106 yX1_isApplication, .instanceMethod yX1_isApplication, .selects RX1 yX1_isApplication yX1_isApplication, .code yX1_isApplication cX1_isApplication 2 (some .boolean), .fieldLink RX1 100 "ProgressBillingModel" "applications" "I", .methodLink RX1 47 yX1_in, .static yX1_in, .code yX1_in cX1_in 3 (some .boolean), .methodLink RX1 56 yX1_refused, .instanceMethod yX1_refused, .selects RX1 yX1_refused yX1_refused, .code yX1_refused cX1_refused 2 (some .boolean), .fieldLink RX1 40 "ProgressBillingModel" "refusal" "I"] ++ wsX10)
def wsX1_amount : List Cond := .code yX1_amount cX1_amount 2 (some .int) :: ([.fieldLink RX1 31 "ProgressBillingModel" "amounts" "[I", .methodLink RX1 112 yX1_told, .instanceMethod yX1_told, .selects RX1 yX1_told yX1_told, .initialized RX1, .code yX1_told cX1_told 3 (some .int), .methodLink RX1 106 yX1_isApplication, .instanceMethod yX1_isApplication, .selects RX1 yX1_isApplication yX1_isApplication, .code yX1_isApplication cX1_isApplication 2 (some .boolean), .fieldLink RX1 100 "ProgressBillingModel" "applications" "I", .methodLink RX1 47 yX1_in, .static yX1_in, .code yX1_in cX1_in 3 (some .boolean), .methodLink RX1 56 yX1_refused, .instanceMethod yX1_refused, .selects RX1 yX1_refused yX1_refused, .code yX1_refused cX1_refused 2 (some .boolean), .fieldLink RX1 40 "ProgressBillingModel" "refusal" "I"] ++ wsX10)
def wsX1_billedBehind : List Cond := .code yX1_billedBehind cX1_billedBehind 2 (some .int) :: ([.fieldLink RX1 34 "ProgressBillingModel" "billedThen" "[I", .methodLink RX1 112 yX1_told, .instanceMethod yX1_told, .selects RX1 yX1_told yX1_told, .initialized RX1, .code yX1_told cX1_told 3 (some .int), .methodLink RX1 106 yX1_isApplication, .instanceMethod yX1_isApplication, .selects RX1 yX1_isApplication yX1_isApplication, .code yX1_isApplication cX1_isApplication 2 (some .boolean), .fieldLink RX1 100 "ProgressBillingModel" "applications" "I", .methodLink RX1 47 yX1_in, .static yX1_in, .code yX1_in cX1_in 3 (some .boolean), .methodLink RX1 56 yX1_refused, .instanceMethod yX1_refused, .selects RX1 yX1_refused yX1_refused, .code yX1_refused cX1_refused 2 (some .boolean), .fieldLink RX1 40 "ProgressBillingModel" "refusal" "I"] ++ wsX10)
def wsX1_heldBehind : List Cond := .code yX1_heldBehind cX1_heldBehind 2 (some .int) :: ([.fieldLink RX1 37 "ProgressBillingModel" "heldThen" "[I", .methodLink RX1 112 yX1_told, .instanceMethod yX1_told, .selects RX1 yX1_told yX1_told, .initialized RX1, .code yX1_told cX1_told 3 (some .int), .methodLink RX1 106 yX1_isApplication, .instanceMethod yX1_isApplication, .selects RX1 yX1_isApplication yX1_isApplication, .code yX1_isApplication cX1_isApplication 2 (some .boolean), .fieldLink RX1 100 "ProgressBillingModel" "applications" "I", .methodLink RX1 47 yX1_in, .static yX1_in, .code yX1_in cX1_in 3 (some .boolean), .methodLink RX1 56 yX1_refused, .instanceMethod yX1_refused, .selects RX1 yX1_refused yX1_refused, .code yX1_refused cX1_refused 2 (some .boolean), .fieldLink RX1 40 "ProgressBillingModel" "refusal" "I"] ++ wsX10)
def wsX1_lines : List Cond := .code yX1_lines cX1_lines 1 (some .int) :: ([.fieldLink RX1 44 "ProgressBillingModel" "lines" "I", .methodLink RX1 83 yX1_fine, .instanceMethod yX1_fine, .selects RX1 yX1_fine yX1_fine, .initialized RX1, .code yX1_fine cX1_fine 2 (some .int), .fieldLink RX1 40 "ProgressBillingModel" "refusal" "I"] ++ wsX10)
def wsX1_noLine : List Cond := .code yX1_noLine cX1_noLine 2 (some .boolean) :: ([.methodLink RX1 64 yX1_isLine, .instanceMethod yX1_isLine, .selects RX1 yX1_isLine yX1_isLine, .initialized RX1, .code yX1_isLine cX1_isLine 2 (some .boolean), .fieldLink RX1 44 "ProgressBillingModel" "lines" "I", .methodLink RX1 47 yX1_in, .static yX1_in, .code yX1_in cX1_in 3 (some .boolean), .methodLink RX1 56 yX1_refused, .instanceMethod yX1_refused, .selects RX1 yX1_refused yX1_refused, .code yX1_refused cX1_refused 2 (some .boolean), .fieldLink RX1 40 "ProgressBillingModel" "refusal" "I"] ++ wsX10)
def wsX1_value : List Cond := .code yX1_value cX1_value 2 (some .int) :: ([.fieldLink RX1 7 "ProgressBillingModel" "values" "[I", .methodLink RX1 116 yX1_noLine, .instanceMethod yX1_noLine, .selects RX1 yX1_noLine yX1_noLine, .initialized RX1, .code yX1_noLine cX1_noLine 2 (some .boolean), .methodLink RX1 64 yX1_isLine, .instanceMethod yX1_isLine, .selects RX1 yX1_isLine yX1_isLine, .code yX1_isLine cX1_isLine 2 (some .boolean), .fieldLink RX1 44 "ProgressBillingModel" "lines" "I", .methodLink RX1 47 yX1_in, .static yX1_in, .code yX1_in cX1_in 3 (some .boolean), .methodLink RX1 56 yX1_refused, .instanceMethod yX1_refused, .selects RX1 yX1_refused yX1_refused, .code yX1_refused cX1_refused 2 (some .boolean), .fieldLink RX1 40 "ProgressBillingModel" "refusal" "I"] ++ wsX10)
def wsX1_work : List Cond := .code yX1_work cX1_work 2 (some .int) :: ([.fieldLink RX1 16 "ProgressBillingModel" "works" "[I", .methodLink RX1 116 yX1_noLine, .instanceMethod yX1_noLine, .selects RX1 yX1_noLine yX1_noLine, .initialized RX1, .code yX1_noLine cX1_noLine 2 (some .boolean), .methodLink RX1 64 yX1_isLine, .instanceMethod yX1_isLine, .selects RX1 yX1_isLine yX1_isLine, .code yX1_isLine cX1_isLine 2 (some .boolean), .fieldLink RX1 44 "ProgressBillingModel" "lines" "I", .methodLink RX1 47 yX1_in, .static yX1_in, .code yX1_in cX1_in 3 (some .boolean), .methodLink RX1 56 yX1_refused, .instanceMethod yX1_refused, .selects RX1 yX1_refused yX1_refused, .code yX1_refused cX1_refused 2 (some .boolean), .fieldLink RX1 40 "ProgressBillingModel" "refusal" "I"] ++ wsX10)
def wsX1_goods : List Cond := .code yX1_goods cX1_goods 2 (some .int) :: ([.fieldLink RX1 13 "ProgressBillingModel" "earned" "[I", .fieldLink RX1 16 "ProgressBillingModel" "works" "[I", .methodLink RX1 116 yX1_noLine, .instanceMethod yX1_noLine, .selects RX1 yX1_noLine yX1_noLine, .initialized RX1, .code yX1_noLine cX1_noLine 2 (some .boolean), .methodLink RX1 64 yX1_isLine, .instanceMethod yX1_isLine, .selects RX1 yX1_isLine yX1_isLine, .code yX1_isLine cX1_isLine 2 (some .boolean), .fieldLink RX1 44 "ProgressBillingModel" "lines" "I", .methodLink RX1 47 yX1_in, .static yX1_in, .code yX1_in cX1_in 3 (some .boolean), .methodLink RX1 56 yX1_refused, .instanceMethod yX1_refused, .selects RX1 yX1_refused yX1_refused, .code yX1_refused cX1_refused 2 (some .boolean), .fieldLink RX1 40 "ProgressBillingModel" "refusal" "I"] ++ wsX10)
def wsX1_billed : List Cond := .code yX1_billed cX1_billed 2 (some .int) :: ([.fieldLink RX1 19 "ProgressBillingModel" "billed" "[I", .methodLink RX1 116 yX1_noLine, .instanceMethod yX1_noLine, .selects RX1 yX1_noLine yX1_noLine, .initialized RX1, .code yX1_noLine cX1_noLine 2 (some .boolean), .methodLink RX1 64 yX1_isLine, .instanceMethod yX1_isLine, .selects RX1 yX1_isLine yX1_isLine, .code yX1_isLine cX1_isLine 2 (some .boolean), .fieldLink RX1 44 "ProgressBillingModel" "lines" "I", .methodLink RX1 47 yX1_in, .static yX1_in, .code yX1_in cX1_in 3 (some .boolean), .methodLink RX1 56 yX1_refused, .instanceMethod yX1_refused, .selects RX1 yX1_refused yX1_refused, .code yX1_refused cX1_refused 2 (some .boolean), .fieldLink RX1 40 "ProgressBillingModel" "refusal" "I"] ++ wsX10)
def wsX1_held : List Cond := .code yX1_held cX1_held 2 (some .int) :: ([.fieldLink RX1 22 "ProgressBillingModel" "held" "[I", .methodLink RX1 116 yX1_noLine, .instanceMethod yX1_noLine, .selects RX1 yX1_noLine yX1_noLine, .initialized RX1, .code yX1_noLine cX1_noLine 2 (some .boolean), .methodLink RX1 64 yX1_isLine, .instanceMethod yX1_isLine, .selects RX1 yX1_isLine yX1_isLine, .code yX1_isLine cX1_isLine 2 (some .boolean), .fieldLink RX1 44 "ProgressBillingModel" "lines" "I", .methodLink RX1 47 yX1_in, .static yX1_in, .code yX1_in cX1_in 3 (some .boolean), .methodLink RX1 56 yX1_refused, .instanceMethod yX1_refused, .selects RX1 yX1_refused yX1_refused, .code yX1_refused cX1_refused 2 (some .boolean), .fieldLink RX1 40 "ProgressBillingModel" "refusal" "I"] ++ wsX10)
def wsX1_isAhead : List Cond := .code yX1_isAhead cX1_isAhead 7 (some .boolean) :: ([.fieldLink RX1 16 "ProgressBillingModel" "works" "[I", .fieldLink RX1 7 "ProgressBillingModel" "values" "[I"] ++ wsX10)
def wsX1_lineByShare : List Cond := .code yX1_lineByShare cX1_lineByShare 6 (some .int) :: ([.fieldLink RX1 44 "ProgressBillingModel" "lines" "I", .methodLink RX1 119 yX1_isAhead, .instanceMethod yX1_isAhead, .selects RX1 yX1_isAhead yX1_isAhead, .initialized RX1, .code yX1_isAhead cX1_isAhead 7 (some .boolean), .fieldLink RX1 16 "ProgressBillingModel" "works" "[I", .fieldLink RX1 7 "ProgressBillingModel" "values" "[I", .methodLink RX1 56 yX1_refused, .instanceMethod yX1_refused, .selects RX1 yX1_refused yX1_refused, .code yX1_refused cX1_refused 2 (some .boolean), .fieldLink RX1 40 "ProgressBillingModel" "refusal" "I"] ++ wsX10)
def wsX1_contractSum : List Cond := .code yX1_contractSum cX1_contractSum 1 (some .int) :: ([.fieldLink RX1 7 "ProgressBillingModel" "values" "[I", .methodLink RX1 87 yX1_sum, .instanceMethod yX1_sum, .selects RX1 yX1_sum yX1_sum, .initialized RX1, .code yX1_sum cX1_sum 4 (some .int), .fieldLink RX1 44 "ProgressBillingModel" "lines" "I", .methodLink RX1 83 yX1_fine, .instanceMethod yX1_fine, .selects RX1 yX1_fine yX1_fine, .code yX1_fine cX1_fine 2 (some .int), .fieldLink RX1 40 "ProgressBillingModel" "refusal" "I"] ++ wsX10)
def wsX1_sumPaid : List Cond := .code yX1_sumPaid cX1_sumPaid 3 (some .int) :: ([.fieldLink RX1 100 "ProgressBillingModel" "applications" "I", .fieldLink RX1 28 "ProgressBillingModel" "states" "[I", .fieldLink RX1 31 "ProgressBillingModel" "amounts" "[I"] ++ wsX10)
def wsX1_paid : List Cond := .code yX1_paid cX1_paid 1 (some .int) :: ([.methodLink RX1 123 yX1_sumPaid, .instanceMethod yX1_sumPaid, .selects RX1 yX1_sumPaid yX1_sumPaid, .initialized RX1, .code yX1_sumPaid cX1_sumPaid 3 (some .int), .fieldLink RX1 100 "ProgressBillingModel" "applications" "I", .fieldLink RX1 28 "ProgressBillingModel" "states" "[I", .fieldLink RX1 31 "ProgressBillingModel" "amounts" "[I", .methodLink RX1 83 yX1_fine, .instanceMethod yX1_fine, .selects RX1 yX1_fine yX1_fine, .code yX1_fine cX1_fine 2 (some .int), .fieldLink RX1 40 "ProgressBillingModel" "refusal" "I"] ++ wsX10)
def wsX1_toCome : List Cond := .code yX1_toCome cX1_toCome 1 (some .int) :: ([.fieldLink RX1 7 "ProgressBillingModel" "values" "[I", .methodLink RX1 87 yX1_sum, .instanceMethod yX1_sum, .selects RX1 yX1_sum yX1_sum, .initialized RX1, .code yX1_sum cX1_sum 4 (some .int), .fieldLink RX1 44 "ProgressBillingModel" "lines" "I", .methodLink RX1 123 yX1_sumPaid, .instanceMethod yX1_sumPaid, .selects RX1 yX1_sumPaid yX1_sumPaid, .code yX1_sumPaid cX1_sumPaid 3 (some .int), .fieldLink RX1 100 "ProgressBillingModel" "applications" "I", .fieldLink RX1 28 "ProgressBillingModel" "states" "[I", .fieldLink RX1 31 "ProgressBillingModel" "amounts" "[I", .methodLink RX1 83 yX1_fine, .instanceMethod yX1_fine, .selects RX1 yX1_fine yX1_fine, .code yX1_fine cX1_fine 2 (some .int), .fieldLink RX1 40 "ProgressBillingModel" "refusal" "I"] ++ wsX10)
def wsJ9_max_7cf53 : List Cond := .code yJ9_max_7cf53 cJ9_max_7cf53 2 (some .int) :: ([])
def wsL_addLine : List Cond := .codeWith yL_addLine cL_addLine 4 (some .int) [(0, 9, 12, 13), (0, 9, 15, 15)] :: ([.classLink RL 13 "java/lang/IllegalArgumentException", .classLink RL 15 "java/lang/IllegalStateException", .methodLink RL 7 yX0_addLine, .instanceMethod yX0_addLine, .selects RX0 yX0_addLine yX0_addLine, .initialized RX0, .code yX0_addLine cX0_addLine 3 (some .int), .constant RX0 47 (10000000), .fieldLink RX0 55 "ProgressBilling" "lineCount" "I", .fieldLink RX0 9 "ProgressBilling" "lineValue" "[I", .methodLink RX0 48 yX0_requireBetween, .static yX0_requireBetween, .code yX0_requireBetween cX0_requireBetween 3 none, .classLink RX0 157 "java/lang/IllegalArgumentException", .initialized "java/lang/IllegalArgumentException", .methodLink RX0 52 yX0_requireRoomForLine, .instanceMethod yX0_requireRoomForLine, .selects RX0 yX0_requireRoomForLine yX0_requireRoomForLine, .code yX0_requireRoomForLine cX0_requireRoomForLine 1 none, .classLink RX0 62 "java/lang/IllegalStateException", .initialized "java/lang/IllegalStateException"] ++ wsX00 ++ (vx_atS RX0 161 "java/lang/IllegalArgumentException" ["java/lang/RuntimeException", "java/lang/Exception"]).filter goodWord ++ (vx_atS RX0 66 "java/lang/IllegalStateException" ["java/lang/RuntimeException", "java/lang/Exception"]).filter goodWord)
def wsL_changeValue_r1 : List Cond := [Cond.classLink RL 21 "java/lang/IndexOutOfBoundsException", Cond.classLink RL 13 "java/lang/IllegalArgumentException", Cond.classLink RL 15 "java/lang/IllegalStateException", Cond.methodLink RL 17 yX0_changeValue, Cond.instanceMethod yX0_changeValue, Cond.selects RX0 yX0_changeValue yX0_changeValue, Cond.initialized RX0, Cond.code yX0_changeValue cX0_changeValue 4 (some .int), Cond.classLink RX0 62 "java/lang/IllegalStateException", Cond.initialized "java/lang/IllegalStateException", Cond.constant RX0 47 (10000000), Cond.fieldLink RX0 13 "ProgressBilling" "lineEarned" "[I", Cond.fieldLink RX0 9 "ProgressBilling" "lineValue" "[I", Cond.methodLink RX0 58 yX0_requireLine, Cond.instanceMethod yX0_requireLine, Cond.selects RX0 yX0_requireLine yX0_requireLine, Cond.code yX0_requireLine cX0_requireLine 2 none, Cond.classLink RX0 150 "java/lang/IndexOutOfBoundsException", Cond.initialized "java/lang/IndexOutOfBoundsException", Cond.fieldLink RX0 55 "ProgressBilling" "lineCount" "I", Cond.methodLink RX0 48 yX0_requireBetween, Cond.static yX0_requireBetween, Cond.code yX0_requireBetween cX0_requireBetween 3 none, Cond.classLink RX0 157 "java/lang/IllegalArgumentException"]
def wsL_changeValue_r2 : List Cond := [Cond.initialized "java/lang/IllegalArgumentException"]
def wsL_changeValue : List Cond := .codeWith yL_changeValue cL_changeValue 5 (some .int) [(0, 10, 13, 21), (0, 10, 17, 13), (0, 10, 21, 15)] :: ((wsL_changeValue_r1 ++ wsL_changeValue_r2) ++ wsX00 ++ (vx_atS RX0 66 "java/lang/IllegalStateException" ["java/lang/RuntimeException", "java/lang/Exception"]).filter goodWord ++ (vx_atS RX0 154 "java/lang/IndexOutOfBoundsException" ["java/lang/RuntimeException", "java/lang/Exception"]).filter goodWord ++ (vx_atS RX0 161 "java/lang/IllegalArgumentException" ["java/lang/RuntimeException", "java/lang/Exception"]).filter goodWord)
def wsL_split_r1 : List Cond := [Cond.classLink RL 21 "java/lang/IndexOutOfBoundsException", Cond.classLink RL 13 "java/lang/IllegalArgumentException", Cond.classLink RL 15 "java/lang/IllegalStateException", Cond.methodLink RL 23 yX0_split, Cond.instanceMethod yX0_split, Cond.selects RX0 yX0_split yX0_split, Cond.initialized RX0, Cond.code yX0_split cX0_split 5 (some .int), Cond.fieldLink RX0 9 "ProgressBilling" "lineValue" "[I", Cond.fieldLink RX0 55 "ProgressBilling" "lineCount" "I", Cond.fieldLink RX0 13 "ProgressBilling" "lineEarned" "[I", Cond.fieldLink RX0 16 "ProgressBilling" "lineWork" "[I", Cond.fieldLink RX0 19 "ProgressBilling" "lineBilled" "[I", Cond.fieldLink RX0 22 "ProgressBilling" "lineHeld" "[I", Cond.methodLink RX0 58 yX0_requireLine, Cond.instanceMethod yX0_requireLine, Cond.selects RX0 yX0_requireLine yX0_requireLine, Cond.code yX0_requireLine cX0_requireLine 2 none, Cond.classLink RX0 150 "java/lang/IndexOutOfBoundsException", Cond.initialized "java/lang/IndexOutOfBoundsException", Cond.methodLink RX0 48 yX0_requireBetween, Cond.static yX0_requireBetween, Cond.code yX0_requireBetween cX0_requireBetween 3 none, Cond.classLink RX0 157 "java/lang/IllegalArgumentException"]
def wsL_split_r2 : List Cond := [Cond.initialized "java/lang/IllegalArgumentException", Cond.methodLink RX0 52 yX0_requireRoomForLine, Cond.instanceMethod yX0_requireRoomForLine, Cond.selects RX0 yX0_requireRoomForLine yX0_requireRoomForLine, Cond.code yX0_requireRoomForLine cX0_requireRoomForLine 1 none, Cond.classLink RX0 62 "java/lang/IllegalStateException", Cond.initialized "java/lang/IllegalStateException", Cond.methodLink RX0 69 yX0_moveShare, Cond.static yX0_moveShare, Cond.code yX0_moveShare cX0_moveShare 6 none, Cond.methodLink RX0 106 yX0_scaledDown, Cond.static yX0_scaledDown, Cond.code yX0_scaledDown cX0_scaledDown 3 (some .int), Cond.methodLink RX0 184 yJ9_floorDiv_f86c9, Cond.static yJ9_floorDiv_f86c9, Cond.initialized RJ9, Cond.code yJ9_floorDiv_f86c9 cJ9_floorDiv_f86c9 6 (some .long)]
def wsL_split : List Cond := .codeWith yL_split cL_split 5 (some .int) [(0, 10, 13, 21), (0, 10, 17, 13), (0, 10, 21, 15)] :: ((wsL_split_r1 ++ wsL_split_r2) ++ wsX00 ++ (vx_atS RX0 154 "java/lang/IndexOutOfBoundsException" ["java/lang/RuntimeException", "java/lang/Exception"]).filter goodWord ++ (vx_atS RX0 161 "java/lang/IllegalArgumentException" ["java/lang/RuntimeException", "java/lang/Exception"]).filter goodWord ++ (vx_atS RX0 66 "java/lang/IllegalStateException" ["java/lang/RuntimeException", "java/lang/Exception"]).filter goodWord)
def wsL_setWork_r1 : List Cond := [Cond.classLink RL 21 "java/lang/IndexOutOfBoundsException", Cond.classLink RL 13 "java/lang/IllegalArgumentException", Cond.classLink RL 15 "java/lang/IllegalStateException", Cond.methodLink RL 26 yX0_setWork, Cond.instanceMethod yX0_setWork, Cond.selects RX0 yX0_setWork yX0_setWork, Cond.initialized RX0, Cond.code yX0_setWork cX0_setWork 4 (some .int), Cond.classLink RX0 62 "java/lang/IllegalStateException", Cond.initialized "java/lang/IllegalStateException", Cond.fieldLink RX0 9 "ProgressBilling" "lineValue" "[I", Cond.fieldLink RX0 16 "ProgressBilling" "lineWork" "[I", Cond.fieldLink RX0 13 "ProgressBilling" "lineEarned" "[I", Cond.methodLink RX0 58 yX0_requireLine, Cond.instanceMethod yX0_requireLine, Cond.selects RX0 yX0_requireLine yX0_requireLine, Cond.code yX0_requireLine cX0_requireLine 2 none, Cond.classLink RX0 150 "java/lang/IndexOutOfBoundsException", Cond.initialized "java/lang/IndexOutOfBoundsException", Cond.fieldLink RX0 55 "ProgressBilling" "lineCount" "I", Cond.methodLink RX0 48 yX0_requireBetween, Cond.static yX0_requireBetween, Cond.code yX0_requireBetween cX0_requireBetween 3 none, Cond.classLink RX0 157 "java/lang/IllegalArgumentException"]
def wsL_setWork_r2 : List Cond := [Cond.initialized "java/lang/IllegalArgumentException", Cond.methodLink RX0 73 yX0_thousandths, Cond.static yX0_thousandths, Cond.code yX0_thousandths cX0_thousandths 2 (some .int), Cond.constantLong RX0 180 (500), Cond.constantLong RX0 182 (1000), Cond.methodLink RX0 184 yJ9_floorDiv_f86c9, Cond.static yJ9_floorDiv_f86c9, Cond.initialized RJ9, Cond.code yJ9_floorDiv_f86c9 cJ9_floorDiv_f86c9 6 (some .long), Cond.methodLink RX0 79 yX0_requireValueFor, Cond.instanceMethod yX0_requireValueFor, Cond.selects RX0 yX0_requireValueFor yX0_requireValueFor, Cond.code yX0_requireValueFor cX0_requireValueFor 3 none]
def wsL_setWork : List Cond := .codeWith yL_setWork cL_setWork 5 (some .int) [(0, 10, 13, 21), (0, 10, 17, 13), (0, 10, 21, 15)] :: ((wsL_setWork_r1 ++ wsL_setWork_r2) ++ wsX00 ++ (vx_atS RX0 66 "java/lang/IllegalStateException" ["java/lang/RuntimeException", "java/lang/Exception"]).filter goodWord ++ (vx_atS RX0 154 "java/lang/IndexOutOfBoundsException" ["java/lang/RuntimeException", "java/lang/Exception"]).filter goodWord ++ (vx_atS RX0 161 "java/lang/IllegalArgumentException" ["java/lang/RuntimeException", "java/lang/Exception"]).filter goodWord)
def wsL_store_r1 : List Cond := [Cond.classLink RL 21 "java/lang/IndexOutOfBoundsException", Cond.classLink RL 13 "java/lang/IllegalArgumentException", Cond.classLink RL 15 "java/lang/IllegalStateException", Cond.methodLink RL 29 yX0_store, Cond.instanceMethod yX0_store, Cond.selects RX0 yX0_store yX0_store, Cond.initialized RX0, Cond.code yX0_store cX0_store 3 (some .int), Cond.constant RX0 47 (10000000), Cond.fieldLink RX0 13 "ProgressBilling" "lineEarned" "[I", Cond.fieldLink RX0 16 "ProgressBilling" "lineWork" "[I", Cond.methodLink RX0 58 yX0_requireLine, Cond.instanceMethod yX0_requireLine, Cond.selects RX0 yX0_requireLine yX0_requireLine, Cond.code yX0_requireLine cX0_requireLine 2 none, Cond.classLink RX0 150 "java/lang/IndexOutOfBoundsException", Cond.initialized "java/lang/IndexOutOfBoundsException", Cond.fieldLink RX0 55 "ProgressBilling" "lineCount" "I", Cond.methodLink RX0 48 yX0_requireBetween, Cond.static yX0_requireBetween, Cond.code yX0_requireBetween cX0_requireBetween 3 none, Cond.classLink RX0 157 "java/lang/IllegalArgumentException", Cond.initialized "java/lang/IllegalArgumentException", Cond.methodLink RX0 79 yX0_requireValueFor]
def wsL_store_r2 : List Cond := [Cond.instanceMethod yX0_requireValueFor, Cond.selects RX0 yX0_requireValueFor yX0_requireValueFor, Cond.code yX0_requireValueFor cX0_requireValueFor 3 none, Cond.classLink RX0 62 "java/lang/IllegalStateException", Cond.initialized "java/lang/IllegalStateException", Cond.fieldLink RX0 9 "ProgressBilling" "lineValue" "[I"]
def wsL_store : List Cond := .codeWith yL_store cL_store 5 (some .int) [(0, 10, 13, 21), (0, 10, 17, 13), (0, 10, 21, 15)] :: ((wsL_store_r1 ++ wsL_store_r2) ++ wsX00 ++ (vx_atS RX0 154 "java/lang/IndexOutOfBoundsException" ["java/lang/RuntimeException", "java/lang/Exception"]).filter goodWord ++ (vx_atS RX0 161 "java/lang/IllegalArgumentException" ["java/lang/RuntimeException", "java/lang/Exception"]).filter goodWord ++ (vx_atS RX0 66 "java/lang/IllegalStateException" ["java/lang/RuntimeException", "java/lang/Exception"]).filter goodWord)
def wsL_place_r1 : List Cond := [Cond.classLink RL 21 "java/lang/IndexOutOfBoundsException", Cond.classLink RL 13 "java/lang/IllegalArgumentException", Cond.classLink RL 15 "java/lang/IllegalStateException", Cond.methodLink RL 32 yX0_place, Cond.instanceMethod yX0_place, Cond.selects RX0 yX0_place yX0_place, Cond.initialized RX0, Cond.code yX0_place cX0_place 3 (some .int), Cond.classLink RX0 62 "java/lang/IllegalStateException", Cond.initialized "java/lang/IllegalStateException", Cond.constant RX0 47 (10000000), Cond.fieldLink RX0 13 "ProgressBilling" "lineEarned" "[I", Cond.fieldLink RX0 16 "ProgressBilling" "lineWork" "[I", Cond.methodLink RX0 58 yX0_requireLine, Cond.instanceMethod yX0_requireLine, Cond.selects RX0 yX0_requireLine yX0_requireLine, Cond.code yX0_requireLine cX0_requireLine 2 none, Cond.classLink RX0 150 "java/lang/IndexOutOfBoundsException", Cond.initialized "java/lang/IndexOutOfBoundsException", Cond.fieldLink RX0 55 "ProgressBilling" "lineCount" "I", Cond.methodLink RX0 48 yX0_requireBetween, Cond.static yX0_requireBetween, Cond.code yX0_requireBetween cX0_requireBetween 3 none, Cond.classLink RX0 157 "java/lang/IllegalArgumentException"]
def wsL_place_r2 : List Cond := [Cond.initialized "java/lang/IllegalArgumentException"]
def wsL_place : List Cond := .codeWith yL_place cL_place 5 (some .int) [(0, 10, 13, 21), (0, 10, 17, 13), (0, 10, 21, 15)] :: ((wsL_place_r1 ++ wsL_place_r2) ++ wsX00 ++ (vx_atS RX0 66 "java/lang/IllegalStateException" ["java/lang/RuntimeException", "java/lang/Exception"]).filter goodWord ++ (vx_atS RX0 154 "java/lang/IndexOutOfBoundsException" ["java/lang/RuntimeException", "java/lang/Exception"]).filter goodWord ++ (vx_atS RX0 161 "java/lang/IllegalArgumentException" ["java/lang/RuntimeException", "java/lang/Exception"]).filter goodWord)
def wsL_setStep_r1 : List Cond := [Cond.classLink RL 13 "java/lang/IllegalArgumentException", Cond.classLink RL 15 "java/lang/IllegalStateException", Cond.methodLink RL 35 yX0_setStep, Cond.instanceMethod yX0_setStep, Cond.selects RX0 yX0_setStep yX0_setStep, Cond.initialized RX0, Cond.code yX0_setStep cX0_setStep 5 (some .int), Cond.fieldLink RX0 28 "ProgressBilling" "stepRate" "[I", Cond.methodLink RX0 48 yX0_requireBetween, Cond.static yX0_requireBetween, Cond.code yX0_requireBetween cX0_requireBetween 3 none, Cond.classLink RX0 157 "java/lang/IllegalArgumentException", Cond.initialized "java/lang/IllegalArgumentException", Cond.methodLink RX0 85 yX0_stepWith, Cond.instanceMethod yX0_stepWith, Cond.selects RX0 yX0_stepWith yX0_stepWith, Cond.code yX0_stepWith cX0_stepWith 3 (some .int), Cond.fieldLink RX0 43 "ProgressBilling" "stepCount" "I", Cond.fieldLink RX0 25 "ProgressBilling" "stepThreshold" "[I", Cond.methodLink RX0 89 yX0_addStep, Cond.instanceMethod yX0_addStep, Cond.selects RX0 yX0_addStep yX0_addStep, Cond.code yX0_addStep cX0_addStep 3 none, Cond.classLink RX0 62 "java/lang/IllegalStateException"]
def wsL_setStep_r2 : List Cond := [Cond.initialized "java/lang/IllegalStateException"]
def wsL_setStep : List Cond := .codeWith yL_setStep cL_setStep 5 (some .int) [(0, 10, 13, 13), (0, 10, 17, 15)] :: ((wsL_setStep_r1 ++ wsL_setStep_r2) ++ wsX00 ++ (vx_atS RX0 161 "java/lang/IllegalArgumentException" ["java/lang/RuntimeException", "java/lang/Exception"]).filter goodWord ++ (vx_atS RX0 66 "java/lang/IllegalStateException" ["java/lang/RuntimeException", "java/lang/Exception"]).filter goodWord)
def wsL_dropStep : List Cond := .codeWith yL_dropStep cL_dropStep 4 (some .int) [(0, 9, 12, 13), (0, 9, 15, 15)] :: ([.classLink RL 13 "java/lang/IllegalArgumentException", .classLink RL 15 "java/lang/IllegalStateException", .methodLink RL 38 yX0_dropStep, .instanceMethod yX0_dropStep, .selects RX0 yX0_dropStep yX0_dropStep, .initialized RX0, .code yX0_dropStep cX0_dropStep 5 (some .int), .classLink RX0 62 "java/lang/IllegalStateException", .initialized "java/lang/IllegalStateException", .fieldLink RX0 28 "ProgressBilling" "stepRate" "[I", .fieldLink RX0 43 "ProgressBilling" "stepCount" "I", .fieldLink RX0 25 "ProgressBilling" "stepThreshold" "[I", .methodLink RX0 48 yX0_requireBetween, .static yX0_requireBetween, .code yX0_requireBetween cX0_requireBetween 3 none, .classLink RX0 157 "java/lang/IllegalArgumentException", .initialized "java/lang/IllegalArgumentException", .methodLink RX0 85 yX0_stepWith, .instanceMethod yX0_stepWith, .selects RX0 yX0_stepWith yX0_stepWith, .code yX0_stepWith cX0_stepWith 3 (some .int)] ++ wsX00 ++ (vx_atS RX0 66 "java/lang/IllegalStateException" ["java/lang/RuntimeException", "java/lang/Exception"]).filter goodWord ++ (vx_atS RX0 161 "java/lang/IllegalArgumentException" ["java/lang/RuntimeException", "java/lang/Exception"]).filter goodWord)
def wsL_close_r1 : List Cond := [Cond.classLink RL 15 "java/lang/IllegalStateException", Cond.methodLink RL 41 yX0_close, Cond.instanceMethod yX0_close, Cond.selects RX0 yX0_close yX0_close, Cond.initialized RX0, Cond.code yX0_close cX0_close 2 (some .int), Cond.classLink RX0 62 "java/lang/IllegalStateException", Cond.initialized "java/lang/IllegalStateException", Cond.fieldLink RX0 55 "ProgressBilling" "lineCount" "I", Cond.fieldLink RX0 115 "ProgressBilling" "applicationCount" "I", Cond.fieldLink RX0 34 "ProgressBilling" "applicationAmount" "[I", Cond.fieldLink RX0 31 "ProgressBilling" "applicationState" "[I", Cond.fieldLink RX0 37 "ProgressBilling" "applicationBilled" "[I", Cond.fieldLink RX0 19 "ProgressBilling" "lineBilled" "[I", Cond.fieldLink RX0 40 "ProgressBilling" "applicationHeld" "[I", Cond.fieldLink RX0 22 "ProgressBilling" "lineHeld" "[I", Cond.methodLink RX0 120 yX0_nextAmount, Cond.instanceMethod yX0_nextAmount, Cond.selects RX0 yX0_nextAmount yX0_nextAmount, Cond.code yX0_nextAmount cX0_nextAmount 4 (some .int), Cond.fieldLink RX0 13 "ProgressBilling" "lineEarned" "[I", Cond.methodLink RX0 126 yX0_rate, Cond.instanceMethod yX0_rate, Cond.selects RX0 yX0_rate yX0_rate]
def wsL_close_r2 : List Cond := [Cond.code yX0_rate cX0_rate 4 (some .int), Cond.fieldLink RX0 43 "ProgressBilling" "stepCount" "I", Cond.fieldLink RX0 25 "ProgressBilling" "stepThreshold" "[I", Cond.fieldLink RX0 28 "ProgressBilling" "stepRate" "[I", Cond.methodLink RX0 110 yX0_progress, Cond.instanceMethod yX0_progress, Cond.selects RX0 yX0_progress yX0_progress, Cond.code yX0_progress cX0_progress 1 (some .int), Cond.fieldLink RX0 16 "ProgressBilling" "lineWork" "[I", Cond.methodLink RX0 98 yX0_sum, Cond.static yX0_sum, Cond.code yX0_sum cX0_sum 4 (some .int), Cond.methodLink RX0 102 yX0_contractSum, Cond.instanceMethod yX0_contractSum, Cond.selects RX0 yX0_contractSum yX0_contractSum, Cond.code yX0_contractSum cX0_contractSum 1 (some .int), Cond.fieldLink RX0 9 "ProgressBilling" "lineValue" "[I", Cond.methodLink RX0 106 yX0_scaledDown, Cond.static yX0_scaledDown, Cond.code yX0_scaledDown cX0_scaledDown 3 (some .int), Cond.methodLink RX0 184 yJ9_floorDiv_f86c9, Cond.static yJ9_floorDiv_f86c9, Cond.initialized RJ9, Cond.code yJ9_floorDiv_f86c9 cJ9_floorDiv_f86c9 6 (some .long)]
def wsL_close_r3 : List Cond := [Cond.methodLink RX0 129 yX0_heldIfClosed, Cond.instanceMethod yX0_heldIfClosed, Cond.selects RX0 yX0_heldIfClosed yX0_heldIfClosed, Cond.code yX0_heldIfClosed cX0_heldIfClosed 3 (some .int), Cond.fieldLink RX0 94 "ProgressBilling" "holdsByIncrease" "Z", Cond.methodLink RX0 73 yX0_thousandths, Cond.static yX0_thousandths, Cond.code yX0_thousandths cX0_thousandths 2 (some .int), Cond.constantLong RX0 180 (500), Cond.constantLong RX0 182 (1000), Cond.methodLink RX0 123 yX0_billLines, Cond.instanceMethod yX0_billLines, Cond.selects RX0 yX0_billLines yX0_billLines, Cond.code yX0_billLines cX0_billLines 3 none]
def wsL_close : List Cond := .codeWith yL_close cL_close 3 (some .int) [(0, 8, 11, 15)] :: ((wsL_close_r1 ++ (wsL_close_r2 ++ wsL_close_r3)) ++ wsX00 ++ (vx_atS RX0 66 "java/lang/IllegalStateException" ["java/lang/RuntimeException", "java/lang/Exception"]).filter goodWord)
def wsL_pay : List Cond := .codeWith yL_pay cL_pay 4 (some .int) [(0, 9, 12, 21), (0, 9, 15, 15)] :: ([.classLink RL 21 "java/lang/IndexOutOfBoundsException", .classLink RL 15 "java/lang/IllegalStateException", .methodLink RL 45 yX0_pay, .instanceMethod yX0_pay, .selects RX0 yX0_pay yX0_pay, .initialized RX0, .code yX0_pay cX0_pay 2 (some .int), .classLink RX0 62 "java/lang/IllegalStateException", .initialized "java/lang/IllegalStateException", .fieldLink RX0 31 "ProgressBilling" "applicationState" "[I", .fieldLink RX0 34 "ProgressBilling" "applicationAmount" "[I", .methodLink RX0 132 yX0_requireApplication, .instanceMethod yX0_requireApplication, .selects RX0 yX0_requireApplication yX0_requireApplication, .code yX0_requireApplication cX0_requireApplication 2 none, .classLink RX0 150 "java/lang/IndexOutOfBoundsException", .initialized "java/lang/IndexOutOfBoundsException", .fieldLink RX0 115 "ProgressBilling" "applicationCount" "I", .methodLink RX0 137 yX0_waiversGiven, .instanceMethod yX0_waiversGiven, .selects RX0 yX0_waiversGiven yX0_waiversGiven, .code yX0_waiversGiven cX0_waiversGiven 3 (some .int)] ++ wsX00 ++ (vx_atS RX0 66 "java/lang/IllegalStateException" ["java/lang/RuntimeException", "java/lang/Exception"]).filter goodWord ++ (vx_atS RX0 154 "java/lang/IndexOutOfBoundsException" ["java/lang/RuntimeException", "java/lang/Exception"]).filter goodWord)
def wsL_waive : List Cond := .codeWith yL_waive cL_waive 4 (some .int) [(0, 9, 12, 21), (0, 9, 15, 15)] :: ([.classLink RL 21 "java/lang/IndexOutOfBoundsException", .classLink RL 15 "java/lang/IllegalStateException", .methodLink RL 48 yX0_waive, .instanceMethod yX0_waive, .selects RX0 yX0_waive yX0_waive, .initialized RX0, .code yX0_waive cX0_waive 2 (some .int), .classLink RX0 62 "java/lang/IllegalStateException", .initialized "java/lang/IllegalStateException", .fieldLink RX0 31 "ProgressBilling" "applicationState" "[I", .methodLink RX0 132 yX0_requireApplication, .instanceMethod yX0_requireApplication, .selects RX0 yX0_requireApplication yX0_requireApplication, .code yX0_requireApplication cX0_requireApplication 2 none, .classLink RX0 150 "java/lang/IndexOutOfBoundsException", .initialized "java/lang/IndexOutOfBoundsException", .fieldLink RX0 115 "ProgressBilling" "applicationCount" "I", .methodLink RX0 137 yX0_waiversGiven, .instanceMethod yX0_waiversGiven, .selects RX0 yX0_waiversGiven yX0_waiversGiven, .code yX0_waiversGiven cX0_waiversGiven 3 (some .int)] ++ wsX00 ++ (vx_atS RX0 66 "java/lang/IllegalStateException" ["java/lang/RuntimeException", "java/lang/Exception"]).filter goodWord ++ (vx_atS RX0 154 "java/lang/IndexOutOfBoundsException" ["java/lang/RuntimeException", "java/lang/Exception"]).filter goodWord)
def wsL_state : List Cond := .codeWith yL_state cL_state 4 (some .int) [(0, 9, 12, 21)] :: ([.classLink RL 21 "java/lang/IndexOutOfBoundsException", .methodLink RL 51 yX0_state, .instanceMethod yX0_state, .selects RX0 yX0_state yX0_state, .initialized RX0, .code yX0_state cX0_state 2 (some .int), .fieldLink RX0 31 "ProgressBilling" "applicationState" "[I", .methodLink RX0 132 yX0_requireApplication, .instanceMethod yX0_requireApplication, .selects RX0 yX0_requireApplication yX0_requireApplication, .code yX0_requireApplication cX0_requireApplication 2 none, .classLink RX0 150 "java/lang/IndexOutOfBoundsException", .initialized "java/lang/IndexOutOfBoundsException", .fieldLink RX0 115 "ProgressBilling" "applicationCount" "I"] ++ wsX00 ++ (vx_atS RX0 154 "java/lang/IndexOutOfBoundsException" ["java/lang/RuntimeException", "java/lang/Exception"]).filter goodWord)
def wsL_amount : List Cond := .codeWith yL_amount cL_amount 4 (some .int) [(0, 9, 12, 21)] :: ([.classLink RL 21 "java/lang/IndexOutOfBoundsException", .methodLink RL 54 yX0_amount, .instanceMethod yX0_amount, .selects RX0 yX0_amount yX0_amount, .initialized RX0, .code yX0_amount cX0_amount 2 (some .int), .fieldLink RX0 34 "ProgressBilling" "applicationAmount" "[I", .methodLink RX0 132 yX0_requireApplication, .instanceMethod yX0_requireApplication, .selects RX0 yX0_requireApplication yX0_requireApplication, .code yX0_requireApplication cX0_requireApplication 2 none, .classLink RX0 150 "java/lang/IndexOutOfBoundsException", .initialized "java/lang/IndexOutOfBoundsException", .fieldLink RX0 115 "ProgressBilling" "applicationCount" "I"] ++ wsX00 ++ (vx_atS RX0 154 "java/lang/IndexOutOfBoundsException" ["java/lang/RuntimeException", "java/lang/Exception"]).filter goodWord)
def wsL_billedBehind : List Cond := .codeWith yL_billedBehind cL_billedBehind 4 (some .int) [(0, 9, 12, 21)] :: ([.classLink RL 21 "java/lang/IndexOutOfBoundsException", .methodLink RL 57 yX0_billedBehind, .instanceMethod yX0_billedBehind, .selects RX0 yX0_billedBehind yX0_billedBehind, .initialized RX0, .code yX0_billedBehind cX0_billedBehind 2 (some .int), .fieldLink RX0 37 "ProgressBilling" "applicationBilled" "[I", .methodLink RX0 132 yX0_requireApplication, .instanceMethod yX0_requireApplication, .selects RX0 yX0_requireApplication yX0_requireApplication, .code yX0_requireApplication cX0_requireApplication 2 none, .classLink RX0 150 "java/lang/IndexOutOfBoundsException", .initialized "java/lang/IndexOutOfBoundsException", .fieldLink RX0 115 "ProgressBilling" "applicationCount" "I"] ++ wsX00 ++ (vx_atS RX0 154 "java/lang/IndexOutOfBoundsException" ["java/lang/RuntimeException", "java/lang/Exception"]).filter goodWord)
def wsL_heldBehind : List Cond := .codeWith yL_heldBehind cL_heldBehind 4 (some .int) [(0, 9, 12, 21)] :: ([.classLink RL 21 "java/lang/IndexOutOfBoundsException", .methodLink RL 60 yX0_heldBehind, .instanceMethod yX0_heldBehind, .selects RX0 yX0_heldBehind yX0_heldBehind, .initialized RX0, .code yX0_heldBehind cX0_heldBehind 2 (some .int), .fieldLink RX0 40 "ProgressBilling" "applicationHeld" "[I", .methodLink RX0 132 yX0_requireApplication, .instanceMethod yX0_requireApplication, .selects RX0 yX0_requireApplication yX0_requireApplication, .code yX0_requireApplication cX0_requireApplication 2 none, .classLink RX0 150 "java/lang/IndexOutOfBoundsException", .initialized "java/lang/IndexOutOfBoundsException", .fieldLink RX0 115 "ProgressBilling" "applicationCount" "I"] ++ wsX00 ++ (vx_atS RX0 154 "java/lang/IndexOutOfBoundsException" ["java/lang/RuntimeException", "java/lang/Exception"]).filter goodWord)
def wsL_value : List Cond := .codeWith yL_value cL_value 4 (some .int) [(0, 9, 12, 21)] :: ([.classLink RL 21 "java/lang/IndexOutOfBoundsException", .methodLink RL 63 yX0_value, .instanceMethod yX0_value, .selects RX0 yX0_value yX0_value, .initialized RX0, .code yX0_value cX0_value 2 (some .int), .fieldLink RX0 9 "ProgressBilling" "lineValue" "[I", .methodLink RX0 58 yX0_requireLine, .instanceMethod yX0_requireLine, .selects RX0 yX0_requireLine yX0_requireLine, .code yX0_requireLine cX0_requireLine 2 none, .classLink RX0 150 "java/lang/IndexOutOfBoundsException", .initialized "java/lang/IndexOutOfBoundsException", .fieldLink RX0 55 "ProgressBilling" "lineCount" "I"] ++ wsX00 ++ (vx_atS RX0 154 "java/lang/IndexOutOfBoundsException" ["java/lang/RuntimeException", "java/lang/Exception"]).filter goodWord)
def wsL_work : List Cond := .codeWith yL_work cL_work 4 (some .int) [(0, 9, 12, 21)] :: ([.classLink RL 21 "java/lang/IndexOutOfBoundsException", .methodLink RL 66 yX0_work, .instanceMethod yX0_work, .selects RX0 yX0_work yX0_work, .initialized RX0, .code yX0_work cX0_work 2 (some .int), .fieldLink RX0 16 "ProgressBilling" "lineWork" "[I", .methodLink RX0 58 yX0_requireLine, .instanceMethod yX0_requireLine, .selects RX0 yX0_requireLine yX0_requireLine, .code yX0_requireLine cX0_requireLine 2 none, .classLink RX0 150 "java/lang/IndexOutOfBoundsException", .initialized "java/lang/IndexOutOfBoundsException", .fieldLink RX0 55 "ProgressBilling" "lineCount" "I"] ++ wsX00 ++ (vx_atS RX0 154 "java/lang/IndexOutOfBoundsException" ["java/lang/RuntimeException", "java/lang/Exception"]).filter goodWord)
def wsL_goods : List Cond := .codeWith yL_goods cL_goods 4 (some .int) [(0, 9, 12, 21)] :: ([.classLink RL 21 "java/lang/IndexOutOfBoundsException", .methodLink RL 69 yX0_goods, .instanceMethod yX0_goods, .selects RX0 yX0_goods yX0_goods, .initialized RX0, .code yX0_goods cX0_goods 2 (some .int), .fieldLink RX0 13 "ProgressBilling" "lineEarned" "[I", .fieldLink RX0 16 "ProgressBilling" "lineWork" "[I", .methodLink RX0 58 yX0_requireLine, .instanceMethod yX0_requireLine, .selects RX0 yX0_requireLine yX0_requireLine, .code yX0_requireLine cX0_requireLine 2 none, .classLink RX0 150 "java/lang/IndexOutOfBoundsException", .initialized "java/lang/IndexOutOfBoundsException", .fieldLink RX0 55 "ProgressBilling" "lineCount" "I"] ++ wsX00 ++ (vx_atS RX0 154 "java/lang/IndexOutOfBoundsException" ["java/lang/RuntimeException", "java/lang/Exception"]).filter goodWord)
def wsL_billed : List Cond := .codeWith yL_billed cL_billed 4 (some .int) [(0, 9, 12, 21)] :: ([.classLink RL 21 "java/lang/IndexOutOfBoundsException", .methodLink RL 72 yX0_billed, .instanceMethod yX0_billed, .selects RX0 yX0_billed yX0_billed, .initialized RX0, .code yX0_billed cX0_billed 2 (some .int), .fieldLink RX0 19 "ProgressBilling" "lineBilled" "[I", .methodLink RX0 58 yX0_requireLine, .instanceMethod yX0_requireLine, .selects RX0 yX0_requireLine yX0_requireLine, .code yX0_requireLine cX0_requireLine 2 none, .classLink RX0 150 "java/lang/IndexOutOfBoundsException", .initialized "java/lang/IndexOutOfBoundsException", .fieldLink RX0 55 "ProgressBilling" "lineCount" "I"] ++ wsX00 ++ (vx_atS RX0 154 "java/lang/IndexOutOfBoundsException" ["java/lang/RuntimeException", "java/lang/Exception"]).filter goodWord)
def wsL_held : List Cond := .codeWith yL_held cL_held 4 (some .int) [(0, 9, 12, 21)] :: ([.classLink RL 21 "java/lang/IndexOutOfBoundsException", .methodLink RL 75 yX0_held, .instanceMethod yX0_held, .selects RX0 yX0_held yX0_held, .initialized RX0, .code yX0_held cX0_held 2 (some .int), .fieldLink RX0 22 "ProgressBilling" "lineHeld" "[I", .methodLink RX0 58 yX0_requireLine, .instanceMethod yX0_requireLine, .selects RX0 yX0_requireLine yX0_requireLine, .code yX0_requireLine cX0_requireLine 2 none, .classLink RX0 150 "java/lang/IndexOutOfBoundsException", .initialized "java/lang/IndexOutOfBoundsException", .fieldLink RX0 55 "ProgressBilling" "lineCount" "I"] ++ wsX00 ++ (vx_atS RX0 154 "java/lang/IndexOutOfBoundsException" ["java/lang/RuntimeException", "java/lang/Exception"]).filter goodWord)
def wsL_lineByShare_r1 : List Cond := [Cond.classLink RL 21 "java/lang/IndexOutOfBoundsException", Cond.methodLink RL 78 yX0_lineByShare, Cond.instanceMethod yX0_lineByShare, Cond.selects RX0 yX0_lineByShare yX0_lineByShare, Cond.initialized RX0, Cond.code yX0_lineByShare cX0_lineByShare 3 (some .int), Cond.fieldLink RX0 55 "ProgressBilling" "lineCount" "I", Cond.methodLink RX0 58 yX0_requireLine, Cond.instanceMethod yX0_requireLine, Cond.selects RX0 yX0_requireLine yX0_requireLine, Cond.code yX0_requireLine cX0_requireLine 2 none, Cond.classLink RX0 150 "java/lang/IndexOutOfBoundsException", Cond.initialized "java/lang/IndexOutOfBoundsException", Cond.methodLink RX0 144 yX0_placeByShare, Cond.instanceMethod yX0_placeByShare, Cond.selects RX0 yX0_placeByShare yX0_placeByShare, Cond.code yX0_placeByShare cX0_placeByShare 4 (some .int), Cond.methodLink RX0 168 yX0_isAhead, Cond.instanceMethod yX0_isAhead, Cond.selects RX0 yX0_isAhead yX0_isAhead, Cond.code yX0_isAhead cX0_isAhead 7 (some .boolean), Cond.fieldLink RX0 16 "ProgressBilling" "lineWork" "[I", Cond.methodLink RX0 172 yX0_shareDivisor, Cond.instanceMethod yX0_shareDivisor]
def wsL_lineByShare_r2 : List Cond := [Cond.selects RX0 yX0_shareDivisor yX0_shareDivisor, Cond.code yX0_shareDivisor cX0_shareDivisor 2 (some .int), Cond.fieldLink RX0 9 "ProgressBilling" "lineValue" "[I", Cond.methodLink RX0 175 Lib.Math.max.name, Cond.static Lib.Math.max.name, Cond.initialized "java/lang/Math", Cond.code Lib.Math.max.name Lib.Math.max.code 2 (some .int)]
def wsL_lineByShare : List Cond := .codeWith yL_lineByShare cL_lineByShare 4 (some .int) [(0, 9, 12, 21)] :: ((wsL_lineByShare_r1 ++ wsL_lineByShare_r2) ++ wsX00 ++ (vx_atS RX0 154 "java/lang/IndexOutOfBoundsException" ["java/lang/RuntimeException", "java/lang/Exception"]).filter goodWord)
def wsL_law0_r1 : List Cond := [Cond.classLink RL 8 RX0, Cond.instantiable RX0 15, Cond.initialized RX0, Cond.classLink RL 82 RX1, Cond.instantiable RX1 14, Cond.initialized RX1, Cond.arrayClass .long, Cond.methodLink RL 81 yX0_init, Cond.instanceMethod yX0_init, Cond.code yX0_init cX0_init 1 none, Cond.methodLink RX0 1 objectInit, Cond.instanceMethod objectInit, Cond.code objectInit ⟨#[0xb1]⟩ 1 none, Cond.arrayClass .int, Cond.fieldLink RX0 9 "ProgressBilling" "lineValue" "[I", Cond.fieldLink RX0 13 "ProgressBilling" "lineEarned" "[I", Cond.fieldLink RX0 16 "ProgressBilling" "lineWork" "[I", Cond.fieldLink RX0 19 "ProgressBilling" "lineBilled" "[I", Cond.fieldLink RX0 22 "ProgressBilling" "lineHeld" "[I", Cond.fieldLink RX0 25 "ProgressBilling" "stepThreshold" "[I", Cond.fieldLink RX0 28 "ProgressBilling" "stepRate" "[I", Cond.fieldLink RX0 31 "ProgressBilling" "applicationState" "[I", Cond.fieldLink RX0 34 "ProgressBilling" "applicationAmount" "[I", Cond.fieldLink RX0 37 "ProgressBilling" "applicationBilled" "[I"]
def wsL_law0_r2 : List Cond := [Cond.fieldLink RX0 40 "ProgressBilling" "applicationHeld" "[I", Cond.fieldLink RX0 43 "ProgressBilling" "stepCount" "I", Cond.methodLink RL 84 yX1_init, Cond.instanceMethod yX1_init, Cond.code yX1_init cX1_init 2 none, Cond.methodLink RX1 1 objectInit, Cond.fieldLink RX1 7 "ProgressBillingModel" "values" "[I", Cond.fieldLink RX1 13 "ProgressBillingModel" "earned" "[I", Cond.fieldLink RX1 16 "ProgressBillingModel" "works" "[I", Cond.fieldLink RX1 19 "ProgressBillingModel" "billed" "[I", Cond.fieldLink RX1 22 "ProgressBillingModel" "held" "[I", Cond.fieldLink RX1 25 "ProgressBillingModel" "rates" "[I", Cond.fieldLink RX1 28 "ProgressBillingModel" "states" "[I", Cond.fieldLink RX1 31 "ProgressBillingModel" "amounts" "[I", Cond.fieldLink RX1 34 "ProgressBillingModel" "billedThen" "[I", Cond.fieldLink RX1 37 "ProgressBillingModel" "heldThen" "[I", Cond.methodLink RL 85 yL_addLine, Cond.static yL_addLine, Cond.initialized RL, Cond.codeWith yL_addLine cL_addLine 4 (some .int) [(0, 9, 12, 13), (0, 9, 15, 15)], Cond.classLink RL 13 "java/lang/IllegalArgumentException", Cond.classLink RL 15 "java/lang/IllegalStateException", Cond.methodLink RL 7 yX0_addLine, Cond.instanceMethod yX0_addLine]
def wsL_law0_r3 : List Cond := [Cond.selects RX0 yX0_addLine yX0_addLine, Cond.code yX0_addLine cX0_addLine 3 (some .int), Cond.constant RX0 47 (10000000), Cond.fieldLink RX0 55 "ProgressBilling" "lineCount" "I", Cond.methodLink RX0 48 yX0_requireBetween, Cond.static yX0_requireBetween, Cond.code yX0_requireBetween cX0_requireBetween 3 none, Cond.classLink RX0 157 "java/lang/IllegalArgumentException", Cond.initialized "java/lang/IllegalArgumentException", Cond.methodLink RX0 52 yX0_requireRoomForLine, Cond.instanceMethod yX0_requireRoomForLine, Cond.selects RX0 yX0_requireRoomForLine yX0_requireRoomForLine, Cond.code yX0_requireRoomForLine cX0_requireRoomForLine 1 none, Cond.classLink RX0 62 "java/lang/IllegalStateException", Cond.initialized "java/lang/IllegalStateException", Cond.methodLink RL 90 yX1_addLine, Cond.instanceMethod yX1_addLine, Cond.selects RX1 yX1_addLine yX1_addLine, Cond.code yX1_addLine cX1_addLine 2 (some .int), Cond.constant RX1 55 (10000000), Cond.fieldLink RX1 44 "ProgressBillingModel" "lines" "I", Cond.methodLink RX1 47 yX1_in, Cond.static yX1_in, Cond.code yX1_in cX1_in 3 (some .boolean)]
def wsL_law0_r4 : List Cond := [Cond.methodLink RX1 56 yX1_refused, Cond.instanceMethod yX1_refused, Cond.selects RX1 yX1_refused yX1_refused, Cond.code yX1_refused cX1_refused 2 (some .boolean), Cond.fieldLink RX1 40 "ProgressBillingModel" "refusal" "I", Cond.methodLink RX1 60 yX1_put, Cond.instanceMethod yX1_put, Cond.selects RX1 yX1_put yX1_put, Cond.code yX1_put cX1_put 7 none, Cond.methodLink RL 91 yX1_thrown, Cond.instanceMethod yX1_thrown, Cond.selects RX1 yX1_thrown yX1_thrown, Cond.code yX1_thrown cX1_thrown 1 (some .int), Cond.methodLink RL 94 yL_changeValue, Cond.static yL_changeValue, Cond.codeWith yL_changeValue cL_changeValue 5 (some .int) [(0, 10, 13, 21), (0, 10, 17, 13), (0, 10, 21, 15)], Cond.classLink RL 21 "java/lang/IndexOutOfBoundsException", Cond.methodLink RL 17 yX0_changeValue, Cond.instanceMethod yX0_changeValue, Cond.selects RX0 yX0_changeValue yX0_changeValue, Cond.code yX0_changeValue cX0_changeValue 4 (some .int), Cond.methodLink RX0 58 yX0_requireLine, Cond.instanceMethod yX0_requireLine, Cond.selects RX0 yX0_requireLine yX0_requireLine]
def wsL_law0_r5 : List Cond := [Cond.code yX0_requireLine cX0_requireLine 2 none, Cond.classLink RX0 150 "java/lang/IndexOutOfBoundsException", Cond.initialized "java/lang/IndexOutOfBoundsException", Cond.methodLink RL 97 yX1_changeValue, Cond.instanceMethod yX1_changeValue, Cond.selects RX1 yX1_changeValue yX1_changeValue, Cond.code yX1_changeValue cX1_changeValue 4 (some .int), Cond.methodLink RX1 64 yX1_isLine, Cond.instanceMethod yX1_isLine, Cond.selects RX1 yX1_isLine yX1_isLine, Cond.code yX1_isLine cX1_isLine 2 (some .boolean), Cond.methodLink RL 98 yL_split, Cond.static yL_split, Cond.codeWith yL_split cL_split 5 (some .int) [(0, 10, 13, 21), (0, 10, 17, 13), (0, 10, 21, 15)], Cond.methodLink RL 23 yX0_split, Cond.instanceMethod yX0_split, Cond.selects RX0 yX0_split yX0_split, Cond.code yX0_split cX0_split 5 (some .int), Cond.methodLink RX0 69 yX0_moveShare, Cond.static yX0_moveShare, Cond.code yX0_moveShare cX0_moveShare 6 none, Cond.methodLink RX0 106 yX0_scaledDown, Cond.static yX0_scaledDown, Cond.code yX0_scaledDown cX0_scaledDown 3 (some .int)]
def wsL_law0_r6 : List Cond := [Cond.methodLink RX0 184 yJ9_floorDiv_f86c9, Cond.static yJ9_floorDiv_f86c9, Cond.initialized RJ9, Cond.code yJ9_floorDiv_f86c9 cJ9_floorDiv_f86c9 6 (some .long), Cond.methodLink RL 100 yX1_split, Cond.instanceMethod yX1_split, Cond.selects RX1 yX1_split yX1_split, Cond.code yX1_split cX1_split 4 (some .int), Cond.methodLink RX1 67 yX1_share, Cond.static yX1_share, Cond.code yX1_share cX1_share 3 (some .int), Cond.methodLink RL 101 yL_setWork, Cond.static yL_setWork, Cond.codeWith yL_setWork cL_setWork 5 (some .int) [(0, 10, 13, 21), (0, 10, 17, 13), (0, 10, 21, 15)], Cond.methodLink RL 26 yX0_setWork, Cond.instanceMethod yX0_setWork, Cond.selects RX0 yX0_setWork yX0_setWork, Cond.code yX0_setWork cX0_setWork 4 (some .int), Cond.methodLink RX0 73 yX0_thousandths, Cond.static yX0_thousandths, Cond.code yX0_thousandths cX0_thousandths 2 (some .int), Cond.constantLong RX0 180 (500), Cond.constantLong RX0 182 (1000), Cond.methodLink RX0 79 yX0_requireValueFor]
def wsL_law0_r7 : List Cond := [Cond.instanceMethod yX0_requireValueFor, Cond.selects RX0 yX0_requireValueFor yX0_requireValueFor, Cond.code yX0_requireValueFor cX0_requireValueFor 3 none, Cond.methodLink RL 103 yX1_setWork, Cond.instanceMethod yX1_setWork, Cond.selects RX1 yX1_setWork yX1_setWork, Cond.code yX1_setWork cX1_setWork 7 (some .int), Cond.methodLink RX1 71 yX1_thousandths, Cond.static yX1_thousandths, Cond.code yX1_thousandths cX1_thousandths 2 (some .int), Cond.constantLong RX1 51 (500), Cond.constantLong RX1 53 (1000), Cond.methodLink RL 104 yL_store, Cond.static yL_store, Cond.codeWith yL_store cL_store 5 (some .int) [(0, 10, 13, 21), (0, 10, 17, 13), (0, 10, 21, 15)], Cond.methodLink RL 29 yX0_store, Cond.instanceMethod yX0_store, Cond.selects RX0 yX0_store yX0_store, Cond.code yX0_store cX0_store 3 (some .int), Cond.methodLink RL 106 yX1_store, Cond.instanceMethod yX1_store, Cond.selects RX1 yX1_store yX1_store, Cond.code yX1_store cX1_store 3 (some .int), Cond.methodLink RL 107 yL_place]
def wsL_law0_r8 : List Cond := [Cond.static yL_place, Cond.codeWith yL_place cL_place 5 (some .int) [(0, 10, 13, 21), (0, 10, 17, 13), (0, 10, 21, 15)], Cond.methodLink RL 32 yX0_place, Cond.instanceMethod yX0_place, Cond.selects RX0 yX0_place yX0_place, Cond.code yX0_place cX0_place 3 (some .int), Cond.methodLink RL 109 yX1_place, Cond.instanceMethod yX1_place, Cond.selects RX1 yX1_place yX1_place, Cond.code yX1_place cX1_place 3 (some .int), Cond.methodLink RL 110 yL_setStep, Cond.static yL_setStep, Cond.codeWith yL_setStep cL_setStep 5 (some .int) [(0, 10, 13, 13), (0, 10, 17, 15)], Cond.methodLink RL 35 yX0_setStep, Cond.instanceMethod yX0_setStep, Cond.selects RX0 yX0_setStep yX0_setStep, Cond.code yX0_setStep cX0_setStep 5 (some .int), Cond.methodLink RX0 85 yX0_stepWith, Cond.instanceMethod yX0_stepWith, Cond.selects RX0 yX0_stepWith yX0_stepWith, Cond.code yX0_stepWith cX0_stepWith 3 (some .int), Cond.methodLink RX0 89 yX0_addStep, Cond.instanceMethod yX0_addStep, Cond.selects RX0 yX0_addStep yX0_addStep]
def wsL_law0_r9 : List Cond := [Cond.code yX0_addStep cX0_addStep 3 none, Cond.methodLink RL 112 yX1_setStep, Cond.instanceMethod yX1_setStep, Cond.selects RX1 yX1_setStep yX1_setStep, Cond.code yX1_setStep cX1_setStep 5 (some .int), Cond.methodLink RX1 75 yX1_countSteps, Cond.instanceMethod yX1_countSteps, Cond.selects RX1 yX1_countSteps yX1_countSteps, Cond.code yX1_countSteps cX1_countSteps 3 (some .int), Cond.methodLink RL 113 yL_dropStep, Cond.static yL_dropStep, Cond.codeWith yL_dropStep cL_dropStep 4 (some .int) [(0, 9, 12, 13), (0, 9, 15, 15)], Cond.methodLink RL 38 yX0_dropStep, Cond.instanceMethod yX0_dropStep, Cond.selects RX0 yX0_dropStep yX0_dropStep, Cond.code yX0_dropStep cX0_dropStep 5 (some .int), Cond.methodLink RL 115 yX1_dropStep, Cond.instanceMethod yX1_dropStep, Cond.selects RX1 yX1_dropStep yX1_dropStep, Cond.code yX1_dropStep cX1_dropStep 4 (some .int), Cond.methodLink RL 116 yX0_hold, Cond.instanceMethod yX0_hold, Cond.selects RX0 yX0_hold yX0_hold, Cond.code yX0_hold cX0_hold 3 (some .boolean)]
def wsL_law0_r10 : List Cond := [Cond.fieldLink RX0 94 "ProgressBilling" "holdsByIncrease" "Z", Cond.methodLink RL 120 yX1_hold, Cond.instanceMethod yX1_hold, Cond.selects RX1 yX1_hold yX1_hold, Cond.code yX1_hold cX1_hold 3 (some .boolean), Cond.fieldLink RX1 79 "ProgressBillingModel" "isByIncrease" "Z", Cond.methodLink RL 121 yX0_steps, Cond.instanceMethod yX0_steps, Cond.selects RX0 yX0_steps yX0_steps, Cond.code yX0_steps cX0_steps 1 (some .int), Cond.methodLink RL 124 yX1_steps, Cond.instanceMethod yX1_steps, Cond.selects RX1 yX1_steps yX1_steps, Cond.code yX1_steps cX1_steps 1 (some .int), Cond.methodLink RX1 83 yX1_fine, Cond.instanceMethod yX1_fine, Cond.selects RX1 yX1_fine yX1_fine, Cond.code yX1_fine cX1_fine 2 (some .int), Cond.methodLink RL 125 yX0_progress, Cond.instanceMethod yX0_progress, Cond.selects RX0 yX0_progress yX0_progress, Cond.code yX0_progress cX0_progress 1 (some .int), Cond.methodLink RX0 98 yX0_sum, Cond.static yX0_sum]
def wsL_law0_r11 : List Cond := [Cond.code yX0_sum cX0_sum 4 (some .int), Cond.methodLink RX0 102 yX0_contractSum, Cond.instanceMethod yX0_contractSum, Cond.selects RX0 yX0_contractSum yX0_contractSum, Cond.code yX0_contractSum cX0_contractSum 1 (some .int), Cond.methodLink RL 128 yX1_progress, Cond.instanceMethod yX1_progress, Cond.selects RX1 yX1_progress yX1_progress, Cond.code yX1_progress cX1_progress 1 (some .int), Cond.methodLink RX1 91 yX1_reached, Cond.instanceMethod yX1_reached, Cond.selects RX1 yX1_reached yX1_reached, Cond.code yX1_reached cX1_reached 1 (some .int), Cond.methodLink RX1 87 yX1_sum, Cond.instanceMethod yX1_sum, Cond.selects RX1 yX1_sum yX1_sum, Cond.code yX1_sum cX1_sum 4 (some .int), Cond.methodLink RL 129 yX0_rate, Cond.instanceMethod yX0_rate, Cond.selects RX0 yX0_rate yX0_rate, Cond.code yX0_rate cX0_rate 4 (some .int), Cond.methodLink RX0 110 yX0_progress, Cond.methodLink RL 132 yX1_rate, Cond.instanceMethod yX1_rate]
def wsL_law0_r12 : List Cond := [Cond.selects RX1 yX1_rate yX1_rate, Cond.code yX1_rate cX1_rate 1 (some .int), Cond.methodLink RX1 94 yX1_rateNow, Cond.instanceMethod yX1_rateNow, Cond.selects RX1 yX1_rateNow yX1_rateNow, Cond.code yX1_rateNow cX1_rateNow 2 (some .int), Cond.methodLink RL 133 yL_close, Cond.static yL_close, Cond.codeWith yL_close cL_close 3 (some .int) [(0, 8, 11, 15)], Cond.methodLink RL 41 yX0_close, Cond.instanceMethod yX0_close, Cond.selects RX0 yX0_close yX0_close, Cond.code yX0_close cX0_close 2 (some .int), Cond.fieldLink RX0 115 "ProgressBilling" "applicationCount" "I", Cond.methodLink RX0 120 yX0_nextAmount, Cond.instanceMethod yX0_nextAmount, Cond.selects RX0 yX0_nextAmount yX0_nextAmount, Cond.code yX0_nextAmount cX0_nextAmount 4 (some .int), Cond.methodLink RX0 126 yX0_rate, Cond.methodLink RX0 129 yX0_heldIfClosed, Cond.instanceMethod yX0_heldIfClosed, Cond.selects RX0 yX0_heldIfClosed yX0_heldIfClosed, Cond.code yX0_heldIfClosed cX0_heldIfClosed 3 (some .int), Cond.methodLink RX0 123 yX0_billLines]
def wsL_law0_r13 : List Cond := [Cond.instanceMethod yX0_billLines, Cond.selects RX0 yX0_billLines yX0_billLines, Cond.code yX0_billLines cX0_billLines 3 none, Cond.methodLink RL 136 yX1_close, Cond.instanceMethod yX1_close, Cond.selects RX1 yX1_close yX1_close, Cond.code yX1_close cX1_close 2 (some .int), Cond.fieldLink RX1 100 "ProgressBillingModel" "applications" "I", Cond.methodLink RX1 103 yX1_amountNow, Cond.instanceMethod yX1_amountNow, Cond.selects RX1 yX1_amountNow yX1_amountNow, Cond.code yX1_amountNow cX1_amountNow 3 (some .int), Cond.methodLink RX1 97 yX1_holdsThen, Cond.instanceMethod yX1_holdsThen, Cond.selects RX1 yX1_holdsThen yX1_holdsThen, Cond.code yX1_holdsThen cX1_holdsThen 3 (some .int), Cond.methodLink RL 137 yX0_nextAmount, Cond.methodLink RL 140 yX1_nextAmount, Cond.instanceMethod yX1_nextAmount, Cond.selects RX1 yX1_nextAmount yX1_nextAmount, Cond.code yX1_nextAmount cX1_nextAmount 1 (some .int), Cond.methodLink RL 141 yL_pay, Cond.static yL_pay, Cond.codeWith yL_pay cL_pay 4 (some .int) [(0, 9, 12, 21), (0, 9, 15, 15)]]
def wsL_law0_r14 : List Cond := [Cond.methodLink RL 45 yX0_pay, Cond.instanceMethod yX0_pay, Cond.selects RX0 yX0_pay yX0_pay, Cond.code yX0_pay cX0_pay 2 (some .int), Cond.methodLink RX0 132 yX0_requireApplication, Cond.instanceMethod yX0_requireApplication, Cond.selects RX0 yX0_requireApplication yX0_requireApplication, Cond.code yX0_requireApplication cX0_requireApplication 2 none, Cond.methodLink RX0 137 yX0_waiversGiven, Cond.instanceMethod yX0_waiversGiven, Cond.selects RX0 yX0_waiversGiven yX0_waiversGiven, Cond.code yX0_waiversGiven cX0_waiversGiven 3 (some .int), Cond.methodLink RL 143 yX1_pay, Cond.instanceMethod yX1_pay, Cond.selects RX1 yX1_pay yX1_pay, Cond.code yX1_pay cX1_pay 2 (some .int), Cond.methodLink RX1 106 yX1_isApplication, Cond.instanceMethod yX1_isApplication, Cond.selects RX1 yX1_isApplication yX1_isApplication, Cond.code yX1_isApplication cX1_isApplication 2 (some .boolean), Cond.methodLink RX1 109 yX1_waived, Cond.instanceMethod yX1_waived, Cond.selects RX1 yX1_waived yX1_waived, Cond.code yX1_waived cX1_waived 2 (some .int)]
def wsL_law0_r15 : List Cond := [Cond.methodLink RL 144 yL_waive, Cond.static yL_waive, Cond.codeWith yL_waive cL_waive 4 (some .int) [(0, 9, 12, 21), (0, 9, 15, 15)], Cond.methodLink RL 48 yX0_waive, Cond.instanceMethod yX0_waive, Cond.selects RX0 yX0_waive yX0_waive, Cond.code yX0_waive cX0_waive 2 (some .int), Cond.methodLink RL 146 yX1_waive, Cond.instanceMethod yX1_waive, Cond.selects RX1 yX1_waive yX1_waive, Cond.code yX1_waive cX1_waive 2 (some .int), Cond.methodLink RL 147 yX0_applications, Cond.instanceMethod yX0_applications, Cond.selects RX0 yX0_applications yX0_applications, Cond.code yX0_applications cX0_applications 1 (some .int), Cond.methodLink RL 150 yX1_applications, Cond.instanceMethod yX1_applications, Cond.selects RX1 yX1_applications yX1_applications, Cond.code yX1_applications cX1_applications 1 (some .int), Cond.methodLink RL 151 yL_state, Cond.static yL_state, Cond.codeWith yL_state cL_state 4 (some .int) [(0, 9, 12, 21)], Cond.methodLink RL 51 yX0_state, Cond.instanceMethod yX0_state]
def wsL_law0_r16 : List Cond := [Cond.selects RX0 yX0_state yX0_state, Cond.code yX0_state cX0_state 2 (some .int), Cond.methodLink RL 153 yX1_state, Cond.instanceMethod yX1_state, Cond.selects RX1 yX1_state yX1_state, Cond.code yX1_state cX1_state 2 (some .int), Cond.methodLink RX1 112 yX1_told, Cond.instanceMethod yX1_told, Cond.selects RX1 yX1_told yX1_told, Cond.code yX1_told cX1_told 3 (some .int), Cond.methodLink RL 154 yL_amount, Cond.static yL_amount, Cond.codeWith yL_amount cL_amount 4 (some .int) [(0, 9, 12, 21)], Cond.methodLink RL 54 yX0_amount, Cond.instanceMethod yX0_amount, Cond.selects RX0 yX0_amount yX0_amount, Cond.code yX0_amount cX0_amount 2 (some .int), Cond.methodLink RL 156 yX1_amount, Cond.instanceMethod yX1_amount, Cond.selects RX1 yX1_amount yX1_amount, Cond.code yX1_amount cX1_amount 2 (some .int), Cond.methodLink RL 157 yL_billedBehind, Cond.static yL_billedBehind, Cond.codeWith yL_billedBehind cL_billedBehind 4 (some .int) [(0, 9, 12, 21)]]
def wsL_law0_r17 : List Cond := [Cond.methodLink RL 57 yX0_billedBehind, Cond.instanceMethod yX0_billedBehind, Cond.selects RX0 yX0_billedBehind yX0_billedBehind, Cond.code yX0_billedBehind cX0_billedBehind 2 (some .int), Cond.methodLink RL 159 yX1_billedBehind, Cond.instanceMethod yX1_billedBehind, Cond.selects RX1 yX1_billedBehind yX1_billedBehind, Cond.code yX1_billedBehind cX1_billedBehind 2 (some .int), Cond.methodLink RL 160 yL_heldBehind, Cond.static yL_heldBehind, Cond.codeWith yL_heldBehind cL_heldBehind 4 (some .int) [(0, 9, 12, 21)], Cond.methodLink RL 60 yX0_heldBehind, Cond.instanceMethod yX0_heldBehind, Cond.selects RX0 yX0_heldBehind yX0_heldBehind, Cond.code yX0_heldBehind cX0_heldBehind 2 (some .int), Cond.methodLink RL 162 yX1_heldBehind, Cond.instanceMethod yX1_heldBehind, Cond.selects RX1 yX1_heldBehind yX1_heldBehind, Cond.code yX1_heldBehind cX1_heldBehind 2 (some .int), Cond.methodLink RL 163 yX0_lines, Cond.instanceMethod yX0_lines, Cond.selects RX0 yX0_lines yX0_lines, Cond.code yX0_lines cX0_lines 1 (some .int), Cond.methodLink RL 166 yX1_lines]
def wsL_law0_r18 : List Cond := [Cond.instanceMethod yX1_lines, Cond.selects RX1 yX1_lines yX1_lines, Cond.code yX1_lines cX1_lines 1 (some .int), Cond.methodLink RL 167 yL_value, Cond.static yL_value, Cond.codeWith yL_value cL_value 4 (some .int) [(0, 9, 12, 21)], Cond.methodLink RL 63 yX0_value, Cond.instanceMethod yX0_value, Cond.selects RX0 yX0_value yX0_value, Cond.code yX0_value cX0_value 2 (some .int), Cond.methodLink RL 169 yX1_value, Cond.instanceMethod yX1_value, Cond.selects RX1 yX1_value yX1_value, Cond.code yX1_value cX1_value 2 (some .int), Cond.methodLink RX1 116 yX1_noLine, Cond.instanceMethod yX1_noLine, Cond.selects RX1 yX1_noLine yX1_noLine, Cond.code yX1_noLine cX1_noLine 2 (some .boolean), Cond.methodLink RL 170 yL_work, Cond.static yL_work, Cond.codeWith yL_work cL_work 4 (some .int) [(0, 9, 12, 21)], Cond.methodLink RL 66 yX0_work, Cond.instanceMethod yX0_work, Cond.selects RX0 yX0_work yX0_work]
def wsL_law0_r19 : List Cond := [Cond.code yX0_work cX0_work 2 (some .int), Cond.methodLink RL 172 yX1_work, Cond.instanceMethod yX1_work, Cond.selects RX1 yX1_work yX1_work, Cond.code yX1_work cX1_work 2 (some .int), Cond.methodLink RL 173 yL_goods, Cond.static yL_goods, Cond.codeWith yL_goods cL_goods 4 (some .int) [(0, 9, 12, 21)], Cond.methodLink RL 69 yX0_goods, Cond.instanceMethod yX0_goods, Cond.selects RX0 yX0_goods yX0_goods, Cond.code yX0_goods cX0_goods 2 (some .int), Cond.methodLink RL 175 yX1_goods, Cond.instanceMethod yX1_goods, Cond.selects RX1 yX1_goods yX1_goods, Cond.code yX1_goods cX1_goods 2 (some .int), Cond.methodLink RL 176 yL_billed, Cond.static yL_billed, Cond.codeWith yL_billed cL_billed 4 (some .int) [(0, 9, 12, 21)], Cond.methodLink RL 72 yX0_billed, Cond.instanceMethod yX0_billed, Cond.selects RX0 yX0_billed yX0_billed, Cond.code yX0_billed cX0_billed 2 (some .int), Cond.methodLink RL 178 yX1_billed]
def wsL_law0_r20 : List Cond := [Cond.instanceMethod yX1_billed, Cond.selects RX1 yX1_billed yX1_billed, Cond.code yX1_billed cX1_billed 2 (some .int), Cond.methodLink RL 179 yL_held, Cond.static yL_held, Cond.codeWith yL_held cL_held 4 (some .int) [(0, 9, 12, 21)], Cond.methodLink RL 75 yX0_held, Cond.instanceMethod yX0_held, Cond.selects RX0 yX0_held yX0_held, Cond.code yX0_held cX0_held 2 (some .int), Cond.methodLink RL 181 yX1_held, Cond.instanceMethod yX1_held, Cond.selects RX1 yX1_held yX1_held, Cond.code yX1_held cX1_held 2 (some .int), Cond.methodLink RL 182 yL_lineByShare, Cond.static yL_lineByShare, Cond.codeWith yL_lineByShare cL_lineByShare 4 (some .int) [(0, 9, 12, 21)], Cond.methodLink RL 78 yX0_lineByShare, Cond.instanceMethod yX0_lineByShare, Cond.selects RX0 yX0_lineByShare yX0_lineByShare, Cond.code yX0_lineByShare cX0_lineByShare 3 (some .int), Cond.methodLink RX0 144 yX0_placeByShare, Cond.instanceMethod yX0_placeByShare, Cond.selects RX0 yX0_placeByShare yX0_placeByShare]
def wsL_law0_r21 : List Cond := [Cond.code yX0_placeByShare cX0_placeByShare 4 (some .int), Cond.methodLink RX0 168 yX0_isAhead, Cond.instanceMethod yX0_isAhead, Cond.selects RX0 yX0_isAhead yX0_isAhead, Cond.code yX0_isAhead cX0_isAhead 7 (some .boolean), Cond.methodLink RX0 172 yX0_shareDivisor, Cond.instanceMethod yX0_shareDivisor, Cond.selects RX0 yX0_shareDivisor yX0_shareDivisor, Cond.code yX0_shareDivisor cX0_shareDivisor 2 (some .int), Cond.methodLink RX0 175 Lib.Math.max.name, Cond.static Lib.Math.max.name, Cond.initialized "java/lang/Math", Cond.code Lib.Math.max.name Lib.Math.max.code 2 (some .int), Cond.methodLink RL 184 yX1_lineByShare, Cond.instanceMethod yX1_lineByShare, Cond.selects RX1 yX1_lineByShare yX1_lineByShare, Cond.code yX1_lineByShare cX1_lineByShare 6 (some .int), Cond.methodLink RX1 119 yX1_isAhead, Cond.instanceMethod yX1_isAhead, Cond.selects RX1 yX1_isAhead yX1_isAhead, Cond.code yX1_isAhead cX1_isAhead 7 (some .boolean), Cond.methodLink RL 185 yX0_contractSum, Cond.methodLink RL 188 yX1_contractSum, Cond.instanceMethod yX1_contractSum]
def wsL_law0_r22 : List Cond := [Cond.selects RX1 yX1_contractSum yX1_contractSum, Cond.code yX1_contractSum cX1_contractSum 1 (some .int), Cond.methodLink RL 189 yX0_paid, Cond.instanceMethod yX0_paid, Cond.selects RX0 yX0_paid yX0_paid, Cond.code yX0_paid cX0_paid 3 (some .int), Cond.methodLink RL 192 yX1_paid, Cond.instanceMethod yX1_paid, Cond.selects RX1 yX1_paid yX1_paid, Cond.code yX1_paid cX1_paid 1 (some .int), Cond.methodLink RX1 123 yX1_sumPaid, Cond.instanceMethod yX1_sumPaid, Cond.selects RX1 yX1_sumPaid yX1_sumPaid, Cond.code yX1_sumPaid cX1_sumPaid 3 (some .int), Cond.methodLink RL 193 yX0_toCome, Cond.instanceMethod yX0_toCome, Cond.selects RX0 yX0_toCome yX0_toCome, Cond.code yX0_toCome cX0_toCome 1 (some .int), Cond.methodLink RX0 147 yX0_paid, Cond.methodLink RL 196 yX1_toCome, Cond.instanceMethod yX1_toCome, Cond.selects RX1 yX1_toCome yX1_toCome, Cond.code yX1_toCome cX1_toCome 1 (some .int)]
def wsL_law0 : List Cond := (wsL_law0_r1 ++ (wsL_law0_r2 ++ (wsL_law0_r3 ++ (wsL_law0_r4 ++ (wsL_law0_r5 ++ (wsL_law0_r6 ++ (wsL_law0_r7 ++ (wsL_law0_r8 ++ (wsL_law0_r9 ++ (wsL_law0_r10 ++ (wsL_law0_r11 ++ (wsL_law0_r12 ++ (wsL_law0_r13 ++ (wsL_law0_r14 ++ (wsL_law0_r15 ++ (wsL_law0_r16 ++ (wsL_law0_r17 ++ (wsL_law0_r18 ++ (wsL_law0_r19 ++ (wsL_law0_r20 ++ (wsL_law0_r21 ++ wsL_law0_r22))))))))))))))))))))) ++ wsX00 ++ wsX10 ++ ([] : List Cond)
def wsL_law : List Cond := wsL_law0 ++ (vx_atS RX0 161 "java/lang/IllegalArgumentException" ["java/lang/RuntimeException", "java/lang/Exception"]).filter goodWord ++ (vx_atS RX0 66 "java/lang/IllegalStateException" ["java/lang/RuntimeException", "java/lang/Exception"]).filter goodWord ++ (vx_atS RX0 154 "java/lang/IndexOutOfBoundsException" ["java/lang/RuntimeException", "java/lang/Exception"]).filter goodWord
abbrev vwCl : List vw_C := [(RX0, TX0, 15), (RX1, TX1, 14)]
end
section
set_option maxRecDepth 20000 in
theorem wsL_law_m1 : ∀ w ∈ wsL_law0_r1, w ∈ lw_tbl := by decide +kernel
set_option maxRecDepth 20000 in
theorem wsL_law_m2 : ∀ w ∈ wsL_law0_r2, w ∈ lw_tbl := by decide +kernel
set_option maxRecDepth 20000 in
theorem wsL_law_m3 : ∀ w ∈ wsL_law0_r3, w ∈ lw_tbl := by decide +kernel
set_option maxRecDepth 20000 in
theorem wsL_law_m4 : ∀ w ∈ wsL_law0_r4, w ∈ lw_tbl := by decide +kernel
set_option maxRecDepth 20000 in
theorem wsL_law_m5 : ∀ w ∈ wsL_law0_r5, w ∈ lw_tbl := by decide +kernel
set_option maxRecDepth 20000 in
theorem wsL_law_m6 : ∀ w ∈ wsL_law0_r6, w ∈ lw_tbl := by decide +kernel
set_option maxRecDepth 20000 in
theorem wsL_law_m7 : ∀ w ∈ wsL_law0_r7, w ∈ lw_tbl := by decide +kernel
set_option maxRecDepth 20000 in
theorem wsL_law_m8 : ∀ w ∈ wsL_law0_r8, w ∈ lw_tbl := by decide +kernel
set_option maxRecDepth 20000 in
theorem wsL_law_m9 : ∀ w ∈ wsL_law0_r9, w ∈ lw_tbl := by decide +kernel
set_option maxRecDepth 20000 in
theorem wsL_law_m10 : ∀ w ∈ wsL_law0_r10, w ∈ lw_tbl := by decide +kernel
set_option maxRecDepth 20000 in
theorem wsL_law_m11 : ∀ w ∈ wsL_law0_r11, w ∈ lw_tbl := by decide +kernel
set_option maxRecDepth 20000 in
theorem wsL_law_m12 : ∀ w ∈ wsL_law0_r12, w ∈ lw_tbl := by decide +kernel
set_option maxRecDepth 20000 in
theorem wsL_law_m13 : ∀ w ∈ wsL_law0_r13, w ∈ lw_tbl := by decide +kernel
set_option maxRecDepth 20000 in
theorem wsL_law_m14 : ∀ w ∈ wsL_law0_r14, w ∈ lw_tbl := by decide +kernel
set_option maxRecDepth 20000 in
theorem wsL_law_m15 : ∀ w ∈ wsL_law0_r15, w ∈ lw_tbl := by decide +kernel
set_option maxRecDepth 20000 in
theorem wsL_law_m16 : ∀ w ∈ wsL_law0_r16, w ∈ lw_tbl := by decide +kernel
set_option maxRecDepth 20000 in
theorem wsL_law_m17 : ∀ w ∈ wsL_law0_r17, w ∈ lw_tbl := by decide +kernel
set_option maxRecDepth 20000 in
theorem wsL_law_m18 : ∀ w ∈ wsL_law0_r18, w ∈ lw_tbl := by decide +kernel
set_option maxRecDepth 20000 in
theorem wsL_law_m19 : ∀ w ∈ wsL_law0_r19, w ∈ lw_tbl := by decide +kernel
set_option maxRecDepth 20000 in
theorem wsL_law_m20 : ∀ w ∈ wsL_law0_r20, w ∈ lw_tbl := by decide +kernel
set_option maxRecDepth 20000 in
theorem wsL_law_m21 : ∀ w ∈ wsL_law0_r21, w ∈ lw_tbl := by decide +kernel
set_option maxRecDepth 20000 in
theorem wsL_law_m22 : ∀ w ∈ wsL_law0_r22, w ∈ lw_tbl := by decide +kernel
set_option maxRecDepth 20000 in
theorem wsL_law_mx0 : ∀ w ∈ wsX00, w ∈ lw_tbl := by decide +kernel
set_option maxRecDepth 20000 in
theorem wsL_law_mx1 : ∀ w ∈ wsX10, w ∈ lw_tbl := by decide +kernel
end
section
theorem wsL_law_in0 : ∀ w ∈ wsL_law0, w ∈ lw_tbl := List.forall_mem_append.mpr ⟨List.forall_mem_append.mpr ⟨List.forall_mem_append.mpr ⟨List.forall_mem_append.mpr ⟨wsL_law_m1, List.forall_mem_append.mpr ⟨wsL_law_m2, List.forall_mem_append.mpr ⟨wsL_law_m3, List.forall_mem_append.mpr ⟨wsL_law_m4, List.forall_mem_append.mpr ⟨wsL_law_m5, List.forall_mem_append.mpr ⟨wsL_law_m6, List.forall_mem_append.mpr ⟨wsL_law_m7, List.forall_mem_append.mpr ⟨wsL_law_m8, List.forall_mem_append.mpr ⟨wsL_law_m9, List.forall_mem_append.mpr ⟨wsL_law_m10, List.forall_mem_append.mpr ⟨wsL_law_m11, List.forall_mem_append.mpr ⟨wsL_law_m12, List.forall_mem_append.mpr ⟨wsL_law_m13, List.forall_mem_append.mpr ⟨wsL_law_m14, List.forall_mem_append.mpr ⟨wsL_law_m15, List.forall_mem_append.mpr ⟨wsL_law_m16, List.forall_mem_append.mpr ⟨wsL_law_m17, List.forall_mem_append.mpr ⟨wsL_law_m18, List.forall_mem_append.mpr ⟨wsL_law_m19, List.forall_mem_append.mpr ⟨wsL_law_m20, List.forall_mem_append.mpr ⟨wsL_law_m21, wsL_law_m22⟩⟩⟩⟩⟩⟩⟩⟩⟩⟩⟩⟩⟩⟩⟩⟩⟩⟩⟩⟩⟩, wsL_law_mx0⟩, wsL_law_mx1⟩, fun _ h => absurd h List.not_mem_nil⟩
theorem wsL_law_x0 : ∀ w ∈ (vx_atS RX0 161 "java/lang/IllegalArgumentException" ["java/lang/RuntimeException", "java/lang/Exception"]).filter goodWord, w ∈ lw_tbl := by decide +kernel
theorem wsL_law_x1 : ∀ w ∈ (vx_atS RX0 66 "java/lang/IllegalStateException" ["java/lang/RuntimeException", "java/lang/Exception"]).filter goodWord, w ∈ lw_tbl := by decide +kernel
theorem wsL_law_x2 : ∀ w ∈ (vx_atS RX0 154 "java/lang/IndexOutOfBoundsException" ["java/lang/RuntimeException", "java/lang/Exception"]).filter goodWord, w ∈ lw_tbl := by decide +kernel
theorem wsL_law_in : ∀ w ∈ wsL_law, w ∈ lw_tbl := fun w h => (List.mem_append.mp h).elim (fun h => (List.mem_append.mp h).elim (fun h => (List.mem_append.mp h).elim (fun h => wsL_law_in0 w h) (fun h => wsL_law_x0 w h)) (fun h => wsL_law_x1 w h)) (fun h => wsL_law_x2 w h)
theorem inlX0 : ∀ w ∈ wsX00, w ∈ wsL_law := fun _ h => List.mem_append_left _ (List.mem_append_left _ (List.mem_append_left _ (List.mem_append_left _ (List.mem_append_left _ (List.mem_append_right _ h)))))
theorem inX0 : ∀ w ∈ wsX00, w ∈ lw_tbl := fun w h => wsL_law_in w (inlX0 w h)
theorem inlX1 : ∀ w ∈ wsX10, w ∈ wsL_law := fun _ h => List.mem_append_left _ (List.mem_append_left _ (List.mem_append_left _ (List.mem_append_left _ (List.mem_append_right _ h))))
theorem inX1 : ∀ w ∈ wsX10, w ∈ lw_tbl := fun w h => wsL_law_in w (inlX1 w h)
theorem inJ9 : ∀ w ∈ wsJ90, w ∈ lw_tbl := by decide +kernel
theorem inJ0 : ∀ w ∈ wsJ00, w ∈ lw_tbl := by decide +kernel
end
