/-! THE LAW: what holds while it walks, its cases -/
/-- what holds all through the law -/
def lw_C (p : Program) (l : Launch) (s : State) (m : MethodId) (c : Code) (b L : Nat) (xs : Nat → Int32) (D : va_G) (cA cL : ClassId) : Prop :=
  p.tables.exec = Jvm.exec ∧ c.code = cL_law ∧ c.maxLocals = 7 ∧ s.vm.findClass RL = some m.cls ∧ (∀ w ∈ wsL_law, w.before #[Value.ref b] s = true) ∧ va_X b L xs s s.heap ∧ b < s.heap.size ∧ l.stackTraces = false ∧ x_Ev s ∧ x_Zz (fun q : Nat => s.heap.size ≤ q) s s.heap ∧ x_Nc s ∧ va_K D vwCl [(cA, .int), (cL, .long)] s ∧ L ≤ 1536
/-- at a place of the law: the class and the reference in one state, t triples read -/
def lw_I (p : Program) (l : Launch) (e : Env) (s : State) (m : MethodId) (below : List Frame) (meth : Method) (c : Code) (b : Nat) (D : va_G) (h0 h1 : Nat → Nat) (cA cL : ClassId) (ao t cells slots : Nat) (Q : State → Prop) (pc : Nat) : Prop :=
  ∀ (g : Nat → Int64) (rf : Int32) (M : MM) (H : Heap) (locs : List Loc) (ls : Array Slot), Inv M → va_P D vwCl ((w0 h0 cA M ++ wO ao cL g) ++ w1 h1 cA rf M) H → va_D (fun q : Nat => s.heap.size ≤ q) ((w0 h0 cA M ++ wO ao cL g) ++ w1 h1 cA rf M) → va_S (fun q : Nat => s.heap.size ≤ q) s.heap H locs → lv_has ls 7 [(4, .int (nI (3 * t))), (0, .ref b), (1, .ref (h0 0)), (2, .ref (h1 0)), (3, .ref ao)] → W p l e room_1 s m #[Value.ref b] below meth c H locs cells slots Q (F0 m pc ls [])
abbrev lw_N (p : Program) (l : Launch) (e : Env) (s : State) (m : MethodId) (below : List Frame) (meth : Method) (c : Code) (b : Nat) (D : va_G) (h0 h1 : Nat → Nat) (cA cL : ClassId) (ao t cells slots : Nat) (Q : State → Prop) : Prop := lw_I p l e s m below meth c b D h0 h1 cA cL ao t cells slots Q 1570
theorem l_mk {D : va_G} {cA cL : ClassId} {wc : va_W} {av : List Value} {s : State} {H : Heap} {A A0 : Nat → Prop} {locs : List Loc} (hP : va_P D vwCl wc H) (hK : va_K D vwCl [(cA, .int), (cL, .long)] s) (hD : va_D A0 wc) (hE : x_Ev s) (hZ : x_Zz A s s.heap) (hS : va_S A s.heap H locs) (hN : x_Nc s) : ∀ U : State, U.heap = H → s.WarmedH U.vm → va_Pc av (l_pre D cA cL wc H.size) av.toArray U := fun U hU hW =>
  ⟨rfl, ⟨(pW_mk (av := av) hP hK hD U hU hW).2, hE.warm hW, by rw [hU]; exact ((hZ.kept hS.2.1).narrow (fun _ h => h.elim)).moved hW.alike⟩, hN.moved hW.alike⟩
/-- an int of the script -/
theorem lw_ld {p : Program} {l : Launch} {e : Env} {R : Room} {s : State} {m : MethodId} {args : Array Value} {below : List Frame} {meth : Method} {c : Code} {H0 H : Heap} {locs : List Loc} {cells slots : Nat} {Q : State → Prop} {A : Nat → Prop} {cc : ByteArray} {pc : Nat} {ls : Array Slot} {rest : List Value} {j d : Nat} (hexec : p.tables.exec = Jvm.exec) (hb : c.code = cc) {b L : Nat} {xs : Nat → Int32} (hX : va_X b L xs s H0) (hbl : b < H0.size) (hbA : ¬ A b) (hS : va_S A H0 H locs) (hj : j + d < L) (hL : L < 2 ^ 31) (hdg : decode cc pc = .ok (.iaload, 1))
    (kk : W p l e R s m args below meth c H locs cells slots Q (F0 m (pc + 1) ls (.int (xs (j + d)) :: rest))) : W p l e R s m args below meth c H locs cells slots Q (F0 m pc ls (.int (nI j + nI d) :: .ref b :: rest)) := by
  rw [nI_add]
  refine va_sld hexec hb hX hbl hbA hS (vp_in_nI hj hL) hdg ?_
  rw [nI_clamp (by omega)]
  exact kk
/-- behind both calls -/
theorem lw_fin {M u1 u2 : MM} {o y : RR} {k r2 f2 : Int32} {g1 : Nat → Int64} (hs : Same M o y) (q1 : l_post o M k (u1, g1)) (q2 : y_post y r2 (f2, u2)) : ∃ N : MM, Inv N ∧ (∀ (h : Nat → Nat) (cA : ClassId), w0 h cA u1 = w0 h cA N) ∧ (∀ (h : Nat → Nat) (cA : ClassId) (rf : Int32), w1 h cA rf u2 = w1 h cA rf N) ∧ f2 = k ∧ (k = 0 → g1 0 = r2.toInt64) := by
  obtain ⟨s1, s2, s3, N, hN, e0, e1⟩ := hs
  obtain ⟨a1, a2, a3, a4⟩ := q1
  obtain ⟨b1, b2, b3⟩ := q2
  have a2 : o.1 = 0 → u1 = o.2.2 ∧ g1 0 = o.2.1.toInt64 := a2
  have a3 : ¬ o.1 = 0 → u1 = M := a3
  have b2 : f2 = nI y.1 := b2
  have b3 : u2 = y.2.2 := b3
  have hu : u1 = o.2.2 := by
    by_cases c : o.1 = 0
    · exact (a2 c).1
    · rw [a3 c, s3 c]
  refine ⟨N, hN, fun h cA => by rw [hu]; exact e0 h cA, fun h cA rf => by rw [b3]; exact e1 h cA rf, by rw [b2, a1, s1], fun z => ?_⟩
  rw [(a2 (a4 z)).2, s2 (a4 z), b1]
set_option maxHeartbeats 4000000 in
set_option maxRecDepth 100000 in
theorem law_0_addLine {p : Program} {l : Launch} {e : Env} {s : State} {m : MethodId} {below : List Frame} {meth : Method} {c : Code} {b L : Nat} {xs : Nat → Int32} {D : va_G} {h0 h1 : Nat → Nat} {cA cL : ClassId} {ao t : Nat} {Q : State → Prop} {cells slots : Nat} (C : lw_C p l s m c b L xs D cA cL) (hc : cells + 1 ≤ 1063) (hs : slots + 6 ≤ 9965) (ht : 3 * t + 3 ≤ L) (kk : lw_N p l e s m below meth c b D h0 h1 cA cL ao t (cells + 1) (slots + 6) Q) : lw_I p l e s m below meth c b D h0 h1 cA cL ao t cells slots Q 176 := by
  intro g rf M H locs ls hI hP hD hS hl
  obtain ⟨hx, hb, hml, hown, hts, hX, hbl, hlt, hE, hZ, hN, hK, hL⟩ := C
  have hA : ∀ q : Nat, s.heap.size ≤ q → (fun q : Nat => s.heap.size ≤ q) q := fun _ h => h
  have hbA : ¬ (fun q : Nat => s.heap.size ≤ q) b := Nat.not_le.mpr hbl
  have hcs0 : cells + 0 ≤ room_1.cells ∧ slots + 0 ≤ room_1.slots := ⟨show cells + 0 ≤ 1063 by omega, show slots + 0 ≤ 9965 by omega⟩
  have hcs1 : cells + 1 ≤ room_1.cells ∧ slots + 6 ≤ room_1.slots := ⟨hc, hs⟩
  have hcs2 : cells + 1 + 0 ≤ room_1.cells ∧ slots + 6 + 0 ≤ room_1.slots := ⟨hc, hs⟩
  refine lv_aload_n hx hb dL_law_176 rfl (lv_at hl 2 rfl) ?_
  refine lv_aload_n hx hb dL_law_177 rfl (lv_at hl 1 rfl) ?_
  refine lv_iload hx hb dL_law_178 (lv_at hl 0 rfl) ?_
  refine lv_iconst (v := nI 1) hx hb dL_law_180 (by decide) ?_
  refine lv_iadd hx hb dL_law_181 ?_
  refine lw_ld (j := 3 * t) (d := 1) hx hb hX hbl hbA hS (by omega) (by omega) dL_law_182 ?_
  refine lv_aload_n hx hb dL_law_183 rfl (lv_at hl 4 rfl) ?_
  refine g_calliW (wl := []) (wc := w0 h0 cA M ++ wO ao cL g) (wr := w1 h1 cA rf M) (wf := fun u : MM × (Nat → Int64) => w0 h0 cA u.1 ++ wO ao cL u.2) (vx_runSW (As := [.ref (h0 0), .int (xs (3 * t + 1)), .ref ao]) (rest := []) ⟨hx, hb, hml, hown, hts⟩ (eL_addLine l hlt D h0 cA cL M hI.ok ao g (xs (3 * t + 1)) H.size) (vx_cwSW 3 hts gL_law_L_addLine rfl rfl rfl (by decide +kernel) ⟨Nat.le_of_ble_eq_true rfl, Nat.le_of_ble_eq_true rfl⟩) ⟨l_fb, l_mk (p_left hP) hK (d_left hD) hE hZ hS hN⟩ rfl rfl hl.1 rfl (lv_room (Nat.le_of_ble_eq_true rfl)) dL_law_184 hcs1) rfl hP hD hS hA (fun r1 u1 H locs q1 hP hD hS => ?_)
  obtain ⟨u1, g1⟩ := u1
  have hP : va_P D vwCl ((w0 h0 cA u1 ++ wO ao cL g1) ++ w1 h1 cA rf M) H := hP
  have hD : va_D (fun q : Nat => s.heap.size ≤ q) ((w0 h0 cA u1 ++ wO ao cL g1) ++ w1 h1 cA rf M) := hD
  refine lv_istore (lv' := [(5, .int r1), (4, .int (nI (3 * t))), (0, .ref b), (1, .ref (h0 0)), (2, .ref (h1 0)), (3, .ref ao)]) hx hb dL_law_187 hl (by decide) rfl (fun ls hl => ?_)
  refine lv_aload_n hx hb dL_law_189 rfl (lv_at hl 4 rfl) ?_
  refine lv_aload_n hx hb dL_law_190 rfl (lv_at hl 2 rfl) ?_
  refine lv_iload hx hb dL_law_191 (lv_at hl 1 rfl) ?_
  refine lv_iconst (v := nI 1) hx hb dL_law_193 (by decide) ?_
  refine lv_iadd hx hb dL_law_194 ?_
  refine lw_ld (j := 3 * t) (d := 1) hx hb hX hbl hbA hS (by omega) (by omega) dL_law_195 ?_
  refine g_calliW (wl := w0 h0 cA u1 ++ wO ao cL g1) (wc := w1 h1 cA rf M) (wr := []) (wf := fun u : Int32 × MM => w1 h1 cA u.1 u.2) (va_runV (As := [.int (xs (3 * t + 1))]) (rest := []) ⟨hx, hb, hml, hown, hts⟩ (c1_addLine l D h1 cA rf M hI.ok1 hI.zero (xs (3 * t + 1)) H.size) (cwV 1 hts gL_law_X1_addLine rfl rfl rfl (by decide +kernel) ⟨Nat.le_of_ble_eq_true rfl, Nat.le_of_ble_eq_true rfl⟩) ⟨pW_fb, va_recv hK hP (ci := 1) (q0 := 13) rfl rfl, pW_mk (p_right hP) (hK.sub [0] rfl) (d_right hD)⟩ rfl rfl hl.1 rfl (lv_room (Nat.le_of_ble_eq_true rfl)) dL_law_196 hcs2) (by rw [List.append_nil]) hP hD hS hA (fun r2 u2 H locs q2 hP hD hS => ?_)
  rw [List.append_nil] at hP hD
  obtain ⟨f2, u2⟩ := u2
  obtain ⟨N, hIN, e0, e1, ef, eg⟩ := lw_fin (s_addLine hI (xs (3 * t + 1))) q1 q2
  have hP : va_P D vwCl ((w0 h0 cA N ++ wO ao cL g1) ++ w1 h1 cA f2 N) H := by rw [← e0 h0 cA, ← e1 h1 cA f2]; exact hP
  have hD : va_D (fun q : Nat => s.heap.size ≤ q) ((w0 h0 cA N ++ wO ao cL g1) ++ w1 h1 cA f2 N) := by rw [← e0 h0 cA, ← e1 h1 cA f2]; exact hD
  refine lv_istore (lv' := [(6, .int r2), (5, .int r1), (4, .int (nI (3 * t))), (0, .ref b), (1, .ref (h0 0)), (2, .ref (h1 0)), (3, .ref ao)]) hx hb dL_law_199 hl (by decide) rfl (fun ls hl => ?_)
  refine lv_aload_n hx hb dL_law_201 rfl (lv_at hl 5 rfl) ?_
  refine vp_callSi (W.runV (As := []) (rest := []) ⟨hx, hb, hml, hown, hts⟩ (c1_thrown l D h1 cA f2 N hIN.ok1) (cwV 0 hts gL_law_X1_thrown rfl rfl rfl (by decide +kernel) ⟨Nat.le_of_ble_eq_true rfl, Nat.le_of_ble_eq_true rfl⟩) ⟨pR_fb, va_recv hK hP (ci := 1) (q0 := 13) rfl rfl, pR_mk (p_right hP) (hK.sub [0] rfl)⟩ rfl rfl hl.1 rfl (lv_room (Nat.le_of_ble_eq_true rfl)) dL_law_202 hcs2) (fun r3 q3 => ?_)
  subst q3
  refine lv_iload hx hb dL_law_205 (lv_at hl 1 rfl) ?_
  refine lv_icmp_eq (tgt := 212) hx hb dL_law_207 (by decide) (fun _ => ?_) (fun z => absurd ef z)
  refine lv_iload hx hb dL_law_212 (lv_at hl 1 rfl) ?_
  refine lv_if_ne (tgt := 229) hx hb dL_law_214 (by decide) (fun _ => ?_) (fun z => ?_)
  · refine lv_goto (tgt := 1570) hx hb dL_law_229 (by decide) ?_
    exact kk g1 _ N H locs ls hIN hP hD hS (lv_sub hl [2, 3, 4, 5, 6] rfl)
  · refine lv_aload_n hx hb dL_law_217 rfl (lv_at hl 6 rfl) ?_
    refine lv_iconst (v := 0) hx hb dL_law_218 (by decide) ?_
    refine va_lald (f := g1) hx hb hK hP 12 1 rfl rfl (vp_in_nI (n := 0) (N := 1) (by decide) (by decide)) dL_law_219 ?_
    refine lv_iload hx hb dL_law_220 (lv_at hl 0 rfl) ?_
    refine lv_i2l (v := r2.toInt64) hx hb dL_law_222 rfl ?_
    refine W.lcmp hx hb dL_law_223 ?_
    refine lv_if_eq (tgt := 229) hx hb dL_law_224 (by decide) (fun _ => ?_) (fun c9 => absurd (eg z) (k_cne c9))
    refine lv_goto (tgt := 1570) hx hb dL_law_229 (by decide) ?_
    exact kk g1 _ N H locs ls hIN hP hD hS (lv_sub hl [2, 3, 4, 5, 6] rfl)
set_option maxHeartbeats 4000000 in
set_option maxRecDepth 100000 in
theorem law_1_changeValue {p : Program} {l : Launch} {e : Env} {s : State} {m : MethodId} {below : List Frame} {meth : Method} {c : Code} {b L : Nat} {xs : Nat → Int32} {D : va_G} {h0 h1 : Nat → Nat} {cA cL : ClassId} {ao t : Nat} {Q : State → Prop} {cells slots : Nat} (C : lw_C p l s m c b L xs D cA cL) (hc : cells + 1 ≤ 1063) (hs : slots + 6 ≤ 9965) (ht : 3 * t + 3 ≤ L) (kk : lw_N p l e s m below meth c b D h0 h1 cA cL ao t (cells + 1) (slots + 6) Q) : lw_I p l e s m below meth c b D h0 h1 cA cL ao t cells slots Q 232 := by
  intro g rf M H locs ls hI hP hD hS hl
  obtain ⟨hx, hb, hml, hown, hts, hX, hbl, hlt, hE, hZ, hN, hK, hL⟩ := C
  have hA : ∀ q : Nat, s.heap.size ≤ q → (fun q : Nat => s.heap.size ≤ q) q := fun _ h => h
  have hbA : ¬ (fun q : Nat => s.heap.size ≤ q) b := Nat.not_le.mpr hbl
  have hcs0 : cells + 0 ≤ room_1.cells ∧ slots + 0 ≤ room_1.slots := ⟨show cells + 0 ≤ 1063 by omega, show slots + 0 ≤ 9965 by omega⟩
  have hcs1 : cells + 1 ≤ room_1.cells ∧ slots + 6 ≤ room_1.slots := ⟨hc, hs⟩
  have hcs2 : cells + 1 + 0 ≤ room_1.cells ∧ slots + 6 + 0 ≤ room_1.slots := ⟨hc, hs⟩
  refine lv_aload_n hx hb dL_law_232 rfl (lv_at hl 2 rfl) ?_
  refine lv_aload_n hx hb dL_law_233 rfl (lv_at hl 1 rfl) ?_
  refine lv_iload hx hb dL_law_234 (lv_at hl 0 rfl) ?_
  refine lv_iconst (v := nI 1) hx hb dL_law_236 (by decide) ?_
  refine lv_iadd hx hb dL_law_237 ?_
  refine lw_ld (j := 3 * t) (d := 1) hx hb hX hbl hbA hS (by omega) (by omega) dL_law_238 ?_
  refine lv_aload_n hx hb dL_law_239 rfl (lv_at hl 1 rfl) ?_
  refine lv_iload hx hb dL_law_240 (lv_at hl 0 rfl) ?_
  refine lv_iconst (v := nI 2) hx hb dL_law_242 (by decide) ?_
  refine lv_iadd hx hb dL_law_243 ?_
  refine lw_ld (j := 3 * t) (d := 2) hx hb hX hbl hbA hS (by omega) (by omega) dL_law_244 ?_
  refine lv_aload_n hx hb dL_law_245 rfl (lv_at hl 4 rfl) ?_
  refine g_calliW (wl := []) (wc := w0 h0 cA M ++ wO ao cL g) (wr := w1 h1 cA rf M) (wf := fun u : MM × (Nat → Int64) => w0 h0 cA u.1 ++ wO ao cL u.2) (vx_runSW (As := [.ref (h0 0), .int (xs (3 * t + 1)), .int (xs (3 * t + 2)), .ref ao]) (rest := []) ⟨hx, hb, hml, hown, hts⟩ (eL_changeValue l hlt D h0 cA cL M hI.ok ao g (xs (3 * t + 1)) (xs (3 * t + 2)) H.size) (vx_cwSW 4 hts gL_law_L_changeValue rfl rfl rfl (by decide +kernel) ⟨Nat.le_of_ble_eq_true rfl, Nat.le_of_ble_eq_true rfl⟩) ⟨l_fb, l_mk (p_left hP) hK (d_left hD) hE hZ hS hN⟩ rfl rfl hl.1 rfl (lv_room (Nat.le_of_ble_eq_true rfl)) dL_law_246 hcs1) rfl hP hD hS hA (fun r1 u1 H locs q1 hP hD hS => ?_)
  obtain ⟨u1, g1⟩ := u1
  have hP : va_P D vwCl ((w0 h0 cA u1 ++ wO ao cL g1) ++ w1 h1 cA rf M) H := hP
  have hD : va_D (fun q : Nat => s.heap.size ≤ q) ((w0 h0 cA u1 ++ wO ao cL g1) ++ w1 h1 cA rf M) := hD
  refine lv_istore (lv' := [(5, .int r1), (4, .int (nI (3 * t))), (0, .ref b), (1, .ref (h0 0)), (2, .ref (h1 0)), (3, .ref ao)]) hx hb dL_law_249 hl (by decide) rfl (fun ls hl => ?_)
  refine lv_aload_n hx hb dL_law_251 rfl (lv_at hl 4 rfl) ?_
  refine lv_aload_n hx hb dL_law_252 rfl (lv_at hl 2 rfl) ?_
  refine lv_iload hx hb dL_law_253 (lv_at hl 1 rfl) ?_
  refine lv_iconst (v := nI 1) hx hb dL_law_255 (by decide) ?_
  refine lv_iadd hx hb dL_law_256 ?_
  refine lw_ld (j := 3 * t) (d := 1) hx hb hX hbl hbA hS (by omega) (by omega) dL_law_257 ?_
  refine lv_aload_n hx hb dL_law_258 rfl (lv_at hl 2 rfl) ?_
  refine lv_iload hx hb dL_law_259 (lv_at hl 1 rfl) ?_
  refine lv_iconst (v := nI 2) hx hb dL_law_261 (by decide) ?_
  refine lv_iadd hx hb dL_law_262 ?_
  refine lw_ld (j := 3 * t) (d := 2) hx hb hX hbl hbA hS (by omega) (by omega) dL_law_263 ?_
  refine g_calliW (wl := w0 h0 cA u1 ++ wO ao cL g1) (wc := w1 h1 cA rf M) (wr := []) (wf := fun u : Int32 × MM => w1 h1 cA u.1 u.2) (va_runV (As := [.int (xs (3 * t + 1)), .int (xs (3 * t + 2))]) (rest := []) ⟨hx, hb, hml, hown, hts⟩ (c1_changeValue l D h1 cA rf M hI.ok1 (xs (3 * t + 1)) (xs (3 * t + 2)) H.size) (cwV 2 hts gL_law_X1_changeValue rfl rfl rfl (by decide +kernel) ⟨Nat.le_of_ble_eq_true rfl, Nat.le_of_ble_eq_true rfl⟩) ⟨pW_fb, va_recv hK hP (ci := 1) (q0 := 13) rfl rfl, pW_mk (p_right hP) (hK.sub [0] rfl) (d_right hD)⟩ rfl rfl hl.1 rfl (lv_room (Nat.le_of_ble_eq_true rfl)) dL_law_264 hcs2) (by rw [List.append_nil]) hP hD hS hA (fun r2 u2 H locs q2 hP hD hS => ?_)
  rw [List.append_nil] at hP hD
  obtain ⟨f2, u2⟩ := u2
  obtain ⟨N, hIN, e0, e1, ef, eg⟩ := lw_fin (s_changeValue hI (xs (3 * t + 1)) (xs (3 * t + 2))) q1 q2
  have hP : va_P D vwCl ((w0 h0 cA N ++ wO ao cL g1) ++ w1 h1 cA f2 N) H := by rw [← e0 h0 cA, ← e1 h1 cA f2]; exact hP
  have hD : va_D (fun q : Nat => s.heap.size ≤ q) ((w0 h0 cA N ++ wO ao cL g1) ++ w1 h1 cA f2 N) := by rw [← e0 h0 cA, ← e1 h1 cA f2]; exact hD
  refine lv_istore (lv' := [(6, .int r2), (5, .int r1), (4, .int (nI (3 * t))), (0, .ref b), (1, .ref (h0 0)), (2, .ref (h1 0)), (3, .ref ao)]) hx hb dL_law_267 hl (by decide) rfl (fun ls hl => ?_)
  refine lv_aload_n hx hb dL_law_269 rfl (lv_at hl 5 rfl) ?_
  refine vp_callSi (W.runV (As := []) (rest := []) ⟨hx, hb, hml, hown, hts⟩ (c1_thrown l D h1 cA f2 N hIN.ok1) (cwV 0 hts gL_law_X1_thrown rfl rfl rfl (by decide +kernel) ⟨Nat.le_of_ble_eq_true rfl, Nat.le_of_ble_eq_true rfl⟩) ⟨pR_fb, va_recv hK hP (ci := 1) (q0 := 13) rfl rfl, pR_mk (p_right hP) (hK.sub [0] rfl)⟩ rfl rfl hl.1 rfl (lv_room (Nat.le_of_ble_eq_true rfl)) dL_law_270 hcs2) (fun r3 q3 => ?_)
  subst q3
  refine lv_iload hx hb dL_law_273 (lv_at hl 1 rfl) ?_
  refine lv_icmp_eq (tgt := 280) hx hb dL_law_275 (by decide) (fun _ => ?_) (fun z => absurd ef z)
  refine lv_iload hx hb dL_law_280 (lv_at hl 1 rfl) ?_
  refine lv_if_ne (tgt := 297) hx hb dL_law_282 (by decide) (fun _ => ?_) (fun z => ?_)
  · refine lv_goto (tgt := 1570) hx hb dL_law_297 (by decide) ?_
    exact kk g1 _ N H locs ls hIN hP hD hS (lv_sub hl [2, 3, 4, 5, 6] rfl)
  · refine lv_aload_n hx hb dL_law_285 rfl (lv_at hl 6 rfl) ?_
    refine lv_iconst (v := 0) hx hb dL_law_286 (by decide) ?_
    refine va_lald (f := g1) hx hb hK hP 12 1 rfl rfl (vp_in_nI (n := 0) (N := 1) (by decide) (by decide)) dL_law_287 ?_
    refine lv_iload hx hb dL_law_288 (lv_at hl 0 rfl) ?_
    refine lv_i2l (v := r2.toInt64) hx hb dL_law_290 rfl ?_
    refine W.lcmp hx hb dL_law_291 ?_
    refine lv_if_eq (tgt := 297) hx hb dL_law_292 (by decide) (fun _ => ?_) (fun c9 => absurd (eg z) (k_cne c9))
    refine lv_goto (tgt := 1570) hx hb dL_law_297 (by decide) ?_
    exact kk g1 _ N H locs ls hIN hP hD hS (lv_sub hl [2, 3, 4, 5, 6] rfl)
set_option maxHeartbeats 4000000 in
set_option maxRecDepth 100000 in
theorem law_2_split {p : Program} {l : Launch} {e : Env} {s : State} {m : MethodId} {below : List Frame} {meth : Method} {c : Code} {b L : Nat} {xs : Nat → Int32} {D : va_G} {h0 h1 : Nat → Nat} {cA cL : ClassId} {ao t : Nat} {Q : State → Prop} {cells slots : Nat} (C : lw_C p l s m c b L xs D cA cL) (hc : cells + 1 ≤ 1063) (hs : slots + 6 ≤ 9965) (ht : 3 * t + 3 ≤ L) (kk : lw_N p l e s m below meth c b D h0 h1 cA cL ao t (cells + 1) (slots + 6) Q) : lw_I p l e s m below meth c b D h0 h1 cA cL ao t cells slots Q 300 := by
  intro g rf M H locs ls hI hP hD hS hl
  obtain ⟨hx, hb, hml, hown, hts, hX, hbl, hlt, hE, hZ, hN, hK, hL⟩ := C
  have hA : ∀ q : Nat, s.heap.size ≤ q → (fun q : Nat => s.heap.size ≤ q) q := fun _ h => h
  have hbA : ¬ (fun q : Nat => s.heap.size ≤ q) b := Nat.not_le.mpr hbl
  have hcs0 : cells + 0 ≤ room_1.cells ∧ slots + 0 ≤ room_1.slots := ⟨show cells + 0 ≤ 1063 by omega, show slots + 0 ≤ 9965 by omega⟩
  have hcs1 : cells + 1 ≤ room_1.cells ∧ slots + 6 ≤ room_1.slots := ⟨hc, hs⟩
  have hcs2 : cells + 1 + 0 ≤ room_1.cells ∧ slots + 6 + 0 ≤ room_1.slots := ⟨hc, hs⟩
  refine lv_aload_n hx hb dL_law_300 rfl (lv_at hl 2 rfl) ?_
  refine lv_aload_n hx hb dL_law_301 rfl (lv_at hl 1 rfl) ?_
  refine lv_iload hx hb dL_law_302 (lv_at hl 0 rfl) ?_
  refine lv_iconst (v := nI 1) hx hb dL_law_304 (by decide) ?_
  refine lv_iadd hx hb dL_law_305 ?_
  refine lw_ld (j := 3 * t) (d := 1) hx hb hX hbl hbA hS (by omega) (by omega) dL_law_306 ?_
  refine lv_aload_n hx hb dL_law_307 rfl (lv_at hl 1 rfl) ?_
  refine lv_iload hx hb dL_law_308 (lv_at hl 0 rfl) ?_
  refine lv_iconst (v := nI 2) hx hb dL_law_310 (by decide) ?_
  refine lv_iadd hx hb dL_law_311 ?_
  refine lw_ld (j := 3 * t) (d := 2) hx hb hX hbl hbA hS (by omega) (by omega) dL_law_312 ?_
  refine lv_aload_n hx hb dL_law_313 rfl (lv_at hl 4 rfl) ?_
  refine g_calliW (wl := []) (wc := w0 h0 cA M ++ wO ao cL g) (wr := w1 h1 cA rf M) (wf := fun u : MM × (Nat → Int64) => w0 h0 cA u.1 ++ wO ao cL u.2) (vx_runSW (As := [.ref (h0 0), .int (xs (3 * t + 1)), .int (xs (3 * t + 2)), .ref ao]) (rest := []) ⟨hx, hb, hml, hown, hts⟩ (eL_split l hlt D h0 cA cL M hI.ok ao g (xs (3 * t + 1)) (xs (3 * t + 2)) H.size) (vx_cwSW 4 hts gL_law_L_split rfl rfl rfl (by decide +kernel) ⟨Nat.le_of_ble_eq_true rfl, Nat.le_of_ble_eq_true rfl⟩) ⟨l_fb, l_mk (p_left hP) hK (d_left hD) hE hZ hS hN⟩ rfl rfl hl.1 rfl (lv_room (Nat.le_of_ble_eq_true rfl)) dL_law_314 hcs1) rfl hP hD hS hA (fun r1 u1 H locs q1 hP hD hS => ?_)
  obtain ⟨u1, g1⟩ := u1
  have hP : va_P D vwCl ((w0 h0 cA u1 ++ wO ao cL g1) ++ w1 h1 cA rf M) H := hP
  have hD : va_D (fun q : Nat => s.heap.size ≤ q) ((w0 h0 cA u1 ++ wO ao cL g1) ++ w1 h1 cA rf M) := hD
  refine lv_istore (lv' := [(5, .int r1), (4, .int (nI (3 * t))), (0, .ref b), (1, .ref (h0 0)), (2, .ref (h1 0)), (3, .ref ao)]) hx hb dL_law_317 hl (by decide) rfl (fun ls hl => ?_)
  refine lv_aload_n hx hb dL_law_319 rfl (lv_at hl 4 rfl) ?_
  refine lv_aload_n hx hb dL_law_320 rfl (lv_at hl 2 rfl) ?_
  refine lv_iload hx hb dL_law_321 (lv_at hl 1 rfl) ?_
  refine lv_iconst (v := nI 1) hx hb dL_law_323 (by decide) ?_
  refine lv_iadd hx hb dL_law_324 ?_
  refine lw_ld (j := 3 * t) (d := 1) hx hb hX hbl hbA hS (by omega) (by omega) dL_law_325 ?_
  refine lv_aload_n hx hb dL_law_326 rfl (lv_at hl 2 rfl) ?_
  refine lv_iload hx hb dL_law_327 (lv_at hl 1 rfl) ?_
  refine lv_iconst (v := nI 2) hx hb dL_law_329 (by decide) ?_
  refine lv_iadd hx hb dL_law_330 ?_
  refine lw_ld (j := 3 * t) (d := 2) hx hb hX hbl hbA hS (by omega) (by omega) dL_law_331 ?_
  refine g_calliW (wl := w0 h0 cA u1 ++ wO ao cL g1) (wc := w1 h1 cA rf M) (wr := []) (wf := fun u : Int32 × MM => w1 h1 cA u.1 u.2) (va_runV (As := [.int (xs (3 * t + 1)), .int (xs (3 * t + 2))]) (rest := []) ⟨hx, hb, hml, hown, hts⟩ (c1_split l D h1 cA rf M hI.ok1 (xs (3 * t + 1)) (xs (3 * t + 2)) H.size) (cwV 2 hts gL_law_X1_split rfl rfl rfl (by decide +kernel) ⟨Nat.le_of_ble_eq_true rfl, Nat.le_of_ble_eq_true rfl⟩) ⟨pW_fb, va_recv hK hP (ci := 1) (q0 := 13) rfl rfl, pW_mk (p_right hP) (hK.sub [0] rfl) (d_right hD)⟩ rfl rfl hl.1 rfl (lv_room (Nat.le_of_ble_eq_true rfl)) dL_law_332 hcs2) (by rw [List.append_nil]) hP hD hS hA (fun r2 u2 H locs q2 hP hD hS => ?_)
  rw [List.append_nil] at hP hD
  obtain ⟨f2, u2⟩ := u2
  obtain ⟨N, hIN, e0, e1, ef, eg⟩ := lw_fin (s_split hI (xs (3 * t + 1)) (xs (3 * t + 2))) q1 q2
  have hP : va_P D vwCl ((w0 h0 cA N ++ wO ao cL g1) ++ w1 h1 cA f2 N) H := by rw [← e0 h0 cA, ← e1 h1 cA f2]; exact hP
  have hD : va_D (fun q : Nat => s.heap.size ≤ q) ((w0 h0 cA N ++ wO ao cL g1) ++ w1 h1 cA f2 N) := by rw [← e0 h0 cA, ← e1 h1 cA f2]; exact hD
  refine lv_istore (lv' := [(6, .int r2), (5, .int r1), (4, .int (nI (3 * t))), (0, .ref b), (1, .ref (h0 0)), (2, .ref (h1 0)), (3, .ref ao)]) hx hb dL_law_335 hl (by decide) rfl (fun ls hl => ?_)
  refine lv_aload_n hx hb dL_law_337 rfl (lv_at hl 5 rfl) ?_
  refine vp_callSi (W.runV (As := []) (rest := []) ⟨hx, hb, hml, hown, hts⟩ (c1_thrown l D h1 cA f2 N hIN.ok1) (cwV 0 hts gL_law_X1_thrown rfl rfl rfl (by decide +kernel) ⟨Nat.le_of_ble_eq_true rfl, Nat.le_of_ble_eq_true rfl⟩) ⟨pR_fb, va_recv hK hP (ci := 1) (q0 := 13) rfl rfl, pR_mk (p_right hP) (hK.sub [0] rfl)⟩ rfl rfl hl.1 rfl (lv_room (Nat.le_of_ble_eq_true rfl)) dL_law_338 hcs2) (fun r3 q3 => ?_)
  subst q3
  refine lv_iload hx hb dL_law_341 (lv_at hl 1 rfl) ?_
  refine lv_icmp_eq (tgt := 348) hx hb dL_law_343 (by decide) (fun _ => ?_) (fun z => absurd ef z)
  refine lv_iload hx hb dL_law_348 (lv_at hl 1 rfl) ?_
  refine lv_if_ne (tgt := 365) hx hb dL_law_350 (by decide) (fun _ => ?_) (fun z => ?_)
  · refine lv_goto (tgt := 1570) hx hb dL_law_365 (by decide) ?_
    exact kk g1 _ N H locs ls hIN hP hD hS (lv_sub hl [2, 3, 4, 5, 6] rfl)
  · refine lv_aload_n hx hb dL_law_353 rfl (lv_at hl 6 rfl) ?_
    refine lv_iconst (v := 0) hx hb dL_law_354 (by decide) ?_
    refine va_lald (f := g1) hx hb hK hP 12 1 rfl rfl (vp_in_nI (n := 0) (N := 1) (by decide) (by decide)) dL_law_355 ?_
    refine lv_iload hx hb dL_law_356 (lv_at hl 0 rfl) ?_
    refine lv_i2l (v := r2.toInt64) hx hb dL_law_358 rfl ?_
    refine W.lcmp hx hb dL_law_359 ?_
    refine lv_if_eq (tgt := 365) hx hb dL_law_360 (by decide) (fun _ => ?_) (fun c9 => absurd (eg z) (k_cne c9))
    refine lv_goto (tgt := 1570) hx hb dL_law_365 (by decide) ?_
    exact kk g1 _ N H locs ls hIN hP hD hS (lv_sub hl [2, 3, 4, 5, 6] rfl)
set_option maxHeartbeats 4000000 in
set_option maxRecDepth 100000 in
theorem law_3_setWork {p : Program} {l : Launch} {e : Env} {s : State} {m : MethodId} {below : List Frame} {meth : Method} {c : Code} {b L : Nat} {xs : Nat → Int32} {D : va_G} {h0 h1 : Nat → Nat} {cA cL : ClassId} {ao t : Nat} {Q : State → Prop} {cells slots : Nat} (C : lw_C p l s m c b L xs D cA cL) (hc : cells + 1 ≤ 1063) (hs : slots + 6 ≤ 9965) (ht : 3 * t + 3 ≤ L) (kk : lw_N p l e s m below meth c b D h0 h1 cA cL ao t (cells + 1) (slots + 6) Q) : lw_I p l e s m below meth c b D h0 h1 cA cL ao t cells slots Q 368 := by
  intro g rf M H locs ls hI hP hD hS hl
  obtain ⟨hx, hb, hml, hown, hts, hX, hbl, hlt, hE, hZ, hN, hK, hL⟩ := C
  have hA : ∀ q : Nat, s.heap.size ≤ q → (fun q : Nat => s.heap.size ≤ q) q := fun _ h => h
  have hbA : ¬ (fun q : Nat => s.heap.size ≤ q) b := Nat.not_le.mpr hbl
  have hcs0 : cells + 0 ≤ room_1.cells ∧ slots + 0 ≤ room_1.slots := ⟨show cells + 0 ≤ 1063 by omega, show slots + 0 ≤ 9965 by omega⟩
  have hcs1 : cells + 1 ≤ room_1.cells ∧ slots + 6 ≤ room_1.slots := ⟨hc, hs⟩
  have hcs2 : cells + 1 + 0 ≤ room_1.cells ∧ slots + 6 + 0 ≤ room_1.slots := ⟨hc, hs⟩
  refine lv_aload_n hx hb dL_law_368 rfl (lv_at hl 2 rfl) ?_
  refine lv_aload_n hx hb dL_law_369 rfl (lv_at hl 1 rfl) ?_
  refine lv_iload hx hb dL_law_370 (lv_at hl 0 rfl) ?_
  refine lv_iconst (v := nI 1) hx hb dL_law_372 (by decide) ?_
  refine lv_iadd hx hb dL_law_373 ?_
  refine lw_ld (j := 3 * t) (d := 1) hx hb hX hbl hbA hS (by omega) (by omega) dL_law_374 ?_
  refine lv_aload_n hx hb dL_law_375 rfl (lv_at hl 1 rfl) ?_
  refine lv_iload hx hb dL_law_376 (lv_at hl 0 rfl) ?_
  refine lv_iconst (v := nI 2) hx hb dL_law_378 (by decide) ?_
  refine lv_iadd hx hb dL_law_379 ?_
  refine lw_ld (j := 3 * t) (d := 2) hx hb hX hbl hbA hS (by omega) (by omega) dL_law_380 ?_
  refine lv_aload_n hx hb dL_law_381 rfl (lv_at hl 4 rfl) ?_
  refine g_calliW (wl := []) (wc := w0 h0 cA M ++ wO ao cL g) (wr := w1 h1 cA rf M) (wf := fun u : MM × (Nat → Int64) => w0 h0 cA u.1 ++ wO ao cL u.2) (vx_runSW (As := [.ref (h0 0), .int (xs (3 * t + 1)), .int (xs (3 * t + 2)), .ref ao]) (rest := []) ⟨hx, hb, hml, hown, hts⟩ (eL_setWork l hlt D h0 cA cL M hI.ok ao g (xs (3 * t + 1)) (xs (3 * t + 2)) H.size) (vx_cwSW 4 hts gL_law_L_setWork rfl rfl rfl (by decide +kernel) ⟨Nat.le_of_ble_eq_true rfl, Nat.le_of_ble_eq_true rfl⟩) ⟨l_fb, l_mk (p_left hP) hK (d_left hD) hE hZ hS hN⟩ rfl rfl hl.1 rfl (lv_room (Nat.le_of_ble_eq_true rfl)) dL_law_382 hcs1) rfl hP hD hS hA (fun r1 u1 H locs q1 hP hD hS => ?_)
  obtain ⟨u1, g1⟩ := u1
  have hP : va_P D vwCl ((w0 h0 cA u1 ++ wO ao cL g1) ++ w1 h1 cA rf M) H := hP
  have hD : va_D (fun q : Nat => s.heap.size ≤ q) ((w0 h0 cA u1 ++ wO ao cL g1) ++ w1 h1 cA rf M) := hD
  refine lv_istore (lv' := [(5, .int r1), (4, .int (nI (3 * t))), (0, .ref b), (1, .ref (h0 0)), (2, .ref (h1 0)), (3, .ref ao)]) hx hb dL_law_385 hl (by decide) rfl (fun ls hl => ?_)
  refine lv_aload_n hx hb dL_law_387 rfl (lv_at hl 4 rfl) ?_
  refine lv_aload_n hx hb dL_law_388 rfl (lv_at hl 2 rfl) ?_
  refine lv_iload hx hb dL_law_389 (lv_at hl 1 rfl) ?_
  refine lv_iconst (v := nI 1) hx hb dL_law_391 (by decide) ?_
  refine lv_iadd hx hb dL_law_392 ?_
  refine lw_ld (j := 3 * t) (d := 1) hx hb hX hbl hbA hS (by omega) (by omega) dL_law_393 ?_
  refine lv_aload_n hx hb dL_law_394 rfl (lv_at hl 2 rfl) ?_
  refine lv_iload hx hb dL_law_395 (lv_at hl 1 rfl) ?_
  refine lv_iconst (v := nI 2) hx hb dL_law_397 (by decide) ?_
  refine lv_iadd hx hb dL_law_398 ?_
  refine lw_ld (j := 3 * t) (d := 2) hx hb hX hbl hbA hS (by omega) (by omega) dL_law_399 ?_
  refine g_calliW (wl := w0 h0 cA u1 ++ wO ao cL g1) (wc := w1 h1 cA rf M) (wr := []) (wf := fun u : Int32 × MM => w1 h1 cA u.1 u.2) (va_runV (As := [.int (xs (3 * t + 1)), .int (xs (3 * t + 2))]) (rest := []) ⟨hx, hb, hml, hown, hts⟩ (c1_setWork l D h1 cA rf M hI.ok1 (xs (3 * t + 1)) (xs (3 * t + 2)) H.size) (cwV 2 hts gL_law_X1_setWork rfl rfl rfl (by decide +kernel) ⟨Nat.le_of_ble_eq_true rfl, Nat.le_of_ble_eq_true rfl⟩) ⟨pW_fb, va_recv hK hP (ci := 1) (q0 := 13) rfl rfl, pW_mk (p_right hP) (hK.sub [0] rfl) (d_right hD)⟩ rfl rfl hl.1 rfl (lv_room (Nat.le_of_ble_eq_true rfl)) dL_law_400 hcs2) (by rw [List.append_nil]) hP hD hS hA (fun r2 u2 H locs q2 hP hD hS => ?_)
  rw [List.append_nil] at hP hD
  obtain ⟨f2, u2⟩ := u2
  obtain ⟨N, hIN, e0, e1, ef, eg⟩ := lw_fin (s_setWork hI (xs (3 * t + 1)) (xs (3 * t + 2))) q1 q2
  have hP : va_P D vwCl ((w0 h0 cA N ++ wO ao cL g1) ++ w1 h1 cA f2 N) H := by rw [← e0 h0 cA, ← e1 h1 cA f2]; exact hP
  have hD : va_D (fun q : Nat => s.heap.size ≤ q) ((w0 h0 cA N ++ wO ao cL g1) ++ w1 h1 cA f2 N) := by rw [← e0 h0 cA, ← e1 h1 cA f2]; exact hD
  refine lv_istore (lv' := [(6, .int r2), (5, .int r1), (4, .int (nI (3 * t))), (0, .ref b), (1, .ref (h0 0)), (2, .ref (h1 0)), (3, .ref ao)]) hx hb dL_law_403 hl (by decide) rfl (fun ls hl => ?_)
  refine lv_aload_n hx hb dL_law_405 rfl (lv_at hl 5 rfl) ?_
  refine vp_callSi (W.runV (As := []) (rest := []) ⟨hx, hb, hml, hown, hts⟩ (c1_thrown l D h1 cA f2 N hIN.ok1) (cwV 0 hts gL_law_X1_thrown rfl rfl rfl (by decide +kernel) ⟨Nat.le_of_ble_eq_true rfl, Nat.le_of_ble_eq_true rfl⟩) ⟨pR_fb, va_recv hK hP (ci := 1) (q0 := 13) rfl rfl, pR_mk (p_right hP) (hK.sub [0] rfl)⟩ rfl rfl hl.1 rfl (lv_room (Nat.le_of_ble_eq_true rfl)) dL_law_406 hcs2) (fun r3 q3 => ?_)
  subst q3
  refine lv_iload hx hb dL_law_409 (lv_at hl 1 rfl) ?_
  refine lv_icmp_eq (tgt := 416) hx hb dL_law_411 (by decide) (fun _ => ?_) (fun z => absurd ef z)
  refine lv_iload hx hb dL_law_416 (lv_at hl 1 rfl) ?_
  refine lv_if_ne (tgt := 433) hx hb dL_law_418 (by decide) (fun _ => ?_) (fun z => ?_)
  · refine lv_goto (tgt := 1570) hx hb dL_law_433 (by decide) ?_
    exact kk g1 _ N H locs ls hIN hP hD hS (lv_sub hl [2, 3, 4, 5, 6] rfl)
  · refine lv_aload_n hx hb dL_law_421 rfl (lv_at hl 6 rfl) ?_
    refine lv_iconst (v := 0) hx hb dL_law_422 (by decide) ?_
    refine va_lald (f := g1) hx hb hK hP 12 1 rfl rfl (vp_in_nI (n := 0) (N := 1) (by decide) (by decide)) dL_law_423 ?_
    refine lv_iload hx hb dL_law_424 (lv_at hl 0 rfl) ?_
    refine lv_i2l (v := r2.toInt64) hx hb dL_law_426 rfl ?_
    refine W.lcmp hx hb dL_law_427 ?_
    refine lv_if_eq (tgt := 433) hx hb dL_law_428 (by decide) (fun _ => ?_) (fun c9 => absurd (eg z) (k_cne c9))
    refine lv_goto (tgt := 1570) hx hb dL_law_433 (by decide) ?_
    exact kk g1 _ N H locs ls hIN hP hD hS (lv_sub hl [2, 3, 4, 5, 6] rfl)
set_option maxHeartbeats 4000000 in
set_option maxRecDepth 100000 in
theorem law_4_store {p : Program} {l : Launch} {e : Env} {s : State} {m : MethodId} {below : List Frame} {meth : Method} {c : Code} {b L : Nat} {xs : Nat → Int32} {D : va_G} {h0 h1 : Nat → Nat} {cA cL : ClassId} {ao t : Nat} {Q : State → Prop} {cells slots : Nat} (C : lw_C p l s m c b L xs D cA cL) (hc : cells + 1 ≤ 1063) (hs : slots + 6 ≤ 9965) (ht : 3 * t + 3 ≤ L) (kk : lw_N p l e s m below meth c b D h0 h1 cA cL ao t (cells + 1) (slots + 6) Q) : lw_I p l e s m below meth c b D h0 h1 cA cL ao t cells slots Q 436 := by
  intro g rf M H locs ls hI hP hD hS hl
  obtain ⟨hx, hb, hml, hown, hts, hX, hbl, hlt, hE, hZ, hN, hK, hL⟩ := C
  have hA : ∀ q : Nat, s.heap.size ≤ q → (fun q : Nat => s.heap.size ≤ q) q := fun _ h => h
  have hbA : ¬ (fun q : Nat => s.heap.size ≤ q) b := Nat.not_le.mpr hbl
  have hcs0 : cells + 0 ≤ room_1.cells ∧ slots + 0 ≤ room_1.slots := ⟨show cells + 0 ≤ 1063 by omega, show slots + 0 ≤ 9965 by omega⟩
  have hcs1 : cells + 1 ≤ room_1.cells ∧ slots + 6 ≤ room_1.slots := ⟨hc, hs⟩
  have hcs2 : cells + 1 + 0 ≤ room_1.cells ∧ slots + 6 + 0 ≤ room_1.slots := ⟨hc, hs⟩
  refine lv_aload_n hx hb dL_law_436 rfl (lv_at hl 2 rfl) ?_
  refine lv_aload_n hx hb dL_law_437 rfl (lv_at hl 1 rfl) ?_
  refine lv_iload hx hb dL_law_438 (lv_at hl 0 rfl) ?_
  refine lv_iconst (v := nI 1) hx hb dL_law_440 (by decide) ?_
  refine lv_iadd hx hb dL_law_441 ?_
  refine lw_ld (j := 3 * t) (d := 1) hx hb hX hbl hbA hS (by omega) (by omega) dL_law_442 ?_
  refine lv_aload_n hx hb dL_law_443 rfl (lv_at hl 1 rfl) ?_
  refine lv_iload hx hb dL_law_444 (lv_at hl 0 rfl) ?_
  refine lv_iconst (v := nI 2) hx hb dL_law_446 (by decide) ?_
  refine lv_iadd hx hb dL_law_447 ?_
  refine lw_ld (j := 3 * t) (d := 2) hx hb hX hbl hbA hS (by omega) (by omega) dL_law_448 ?_
  refine lv_aload_n hx hb dL_law_449 rfl (lv_at hl 4 rfl) ?_
  refine g_calliW (wl := []) (wc := w0 h0 cA M ++ wO ao cL g) (wr := w1 h1 cA rf M) (wf := fun u : MM × (Nat → Int64) => w0 h0 cA u.1 ++ wO ao cL u.2) (vx_runSW (As := [.ref (h0 0), .int (xs (3 * t + 1)), .int (xs (3 * t + 2)), .ref ao]) (rest := []) ⟨hx, hb, hml, hown, hts⟩ (eL_store l hlt D h0 cA cL M hI.ok ao g (xs (3 * t + 1)) (xs (3 * t + 2)) H.size) (vx_cwSW 4 hts gL_law_L_store rfl rfl rfl (by decide +kernel) ⟨Nat.le_of_ble_eq_true rfl, Nat.le_of_ble_eq_true rfl⟩) ⟨l_fb, l_mk (p_left hP) hK (d_left hD) hE hZ hS hN⟩ rfl rfl hl.1 rfl (lv_room (Nat.le_of_ble_eq_true rfl)) dL_law_450 hcs1) rfl hP hD hS hA (fun r1 u1 H locs q1 hP hD hS => ?_)
  obtain ⟨u1, g1⟩ := u1
  have hP : va_P D vwCl ((w0 h0 cA u1 ++ wO ao cL g1) ++ w1 h1 cA rf M) H := hP
  have hD : va_D (fun q : Nat => s.heap.size ≤ q) ((w0 h0 cA u1 ++ wO ao cL g1) ++ w1 h1 cA rf M) := hD
  refine lv_istore (lv' := [(5, .int r1), (4, .int (nI (3 * t))), (0, .ref b), (1, .ref (h0 0)), (2, .ref (h1 0)), (3, .ref ao)]) hx hb dL_law_453 hl (by decide) rfl (fun ls hl => ?_)
  refine lv_aload_n hx hb dL_law_455 rfl (lv_at hl 4 rfl) ?_
  refine lv_aload_n hx hb dL_law_456 rfl (lv_at hl 2 rfl) ?_
  refine lv_iload hx hb dL_law_457 (lv_at hl 1 rfl) ?_
  refine lv_iconst (v := nI 1) hx hb dL_law_459 (by decide) ?_
  refine lv_iadd hx hb dL_law_460 ?_
  refine lw_ld (j := 3 * t) (d := 1) hx hb hX hbl hbA hS (by omega) (by omega) dL_law_461 ?_
  refine lv_aload_n hx hb dL_law_462 rfl (lv_at hl 2 rfl) ?_
  refine lv_iload hx hb dL_law_463 (lv_at hl 1 rfl) ?_
  refine lv_iconst (v := nI 2) hx hb dL_law_465 (by decide) ?_
  refine lv_iadd hx hb dL_law_466 ?_
  refine lw_ld (j := 3 * t) (d := 2) hx hb hX hbl hbA hS (by omega) (by omega) dL_law_467 ?_
  refine g_calliW (wl := w0 h0 cA u1 ++ wO ao cL g1) (wc := w1 h1 cA rf M) (wr := []) (wf := fun u : Int32 × MM => w1 h1 cA u.1 u.2) (va_runV (As := [.int (xs (3 * t + 1)), .int (xs (3 * t + 2))]) (rest := []) ⟨hx, hb, hml, hown, hts⟩ (c1_store l D h1 cA rf M hI.ok1 (xs (3 * t + 1)) (xs (3 * t + 2)) H.size) (cwV 2 hts gL_law_X1_store rfl rfl rfl (by decide +kernel) ⟨Nat.le_of_ble_eq_true rfl, Nat.le_of_ble_eq_true rfl⟩) ⟨pW_fb, va_recv hK hP (ci := 1) (q0 := 13) rfl rfl, pW_mk (p_right hP) (hK.sub [0] rfl) (d_right hD)⟩ rfl rfl hl.1 rfl (lv_room (Nat.le_of_ble_eq_true rfl)) dL_law_468 hcs2) (by rw [List.append_nil]) hP hD hS hA (fun r2 u2 H locs q2 hP hD hS => ?_)
  rw [List.append_nil] at hP hD
  obtain ⟨f2, u2⟩ := u2
  obtain ⟨N, hIN, e0, e1, ef, eg⟩ := lw_fin (s_store hI (xs (3 * t + 1)) (xs (3 * t + 2))) q1 q2
  have hP : va_P D vwCl ((w0 h0 cA N ++ wO ao cL g1) ++ w1 h1 cA f2 N) H := by rw [← e0 h0 cA, ← e1 h1 cA f2]; exact hP
  have hD : va_D (fun q : Nat => s.heap.size ≤ q) ((w0 h0 cA N ++ wO ao cL g1) ++ w1 h1 cA f2 N) := by rw [← e0 h0 cA, ← e1 h1 cA f2]; exact hD
  refine lv_istore (lv' := [(6, .int r2), (5, .int r1), (4, .int (nI (3 * t))), (0, .ref b), (1, .ref (h0 0)), (2, .ref (h1 0)), (3, .ref ao)]) hx hb dL_law_471 hl (by decide) rfl (fun ls hl => ?_)
  refine lv_aload_n hx hb dL_law_473 rfl (lv_at hl 5 rfl) ?_
  refine vp_callSi (W.runV (As := []) (rest := []) ⟨hx, hb, hml, hown, hts⟩ (c1_thrown l D h1 cA f2 N hIN.ok1) (cwV 0 hts gL_law_X1_thrown rfl rfl rfl (by decide +kernel) ⟨Nat.le_of_ble_eq_true rfl, Nat.le_of_ble_eq_true rfl⟩) ⟨pR_fb, va_recv hK hP (ci := 1) (q0 := 13) rfl rfl, pR_mk (p_right hP) (hK.sub [0] rfl)⟩ rfl rfl hl.1 rfl (lv_room (Nat.le_of_ble_eq_true rfl)) dL_law_474 hcs2) (fun r3 q3 => ?_)
  subst q3
  refine lv_iload hx hb dL_law_477 (lv_at hl 1 rfl) ?_
  refine lv_icmp_eq (tgt := 484) hx hb dL_law_479 (by decide) (fun _ => ?_) (fun z => absurd ef z)
  refine lv_iload hx hb dL_law_484 (lv_at hl 1 rfl) ?_
  refine lv_if_ne (tgt := 501) hx hb dL_law_486 (by decide) (fun _ => ?_) (fun z => ?_)
  · refine lv_goto (tgt := 1570) hx hb dL_law_501 (by decide) ?_
    exact kk g1 _ N H locs ls hIN hP hD hS (lv_sub hl [2, 3, 4, 5, 6] rfl)
  · refine lv_aload_n hx hb dL_law_489 rfl (lv_at hl 6 rfl) ?_
    refine lv_iconst (v := 0) hx hb dL_law_490 (by decide) ?_
    refine va_lald (f := g1) hx hb hK hP 12 1 rfl rfl (vp_in_nI (n := 0) (N := 1) (by decide) (by decide)) dL_law_491 ?_
    refine lv_iload hx hb dL_law_492 (lv_at hl 0 rfl) ?_
    refine lv_i2l (v := r2.toInt64) hx hb dL_law_494 rfl ?_
    refine W.lcmp hx hb dL_law_495 ?_
    refine lv_if_eq (tgt := 501) hx hb dL_law_496 (by decide) (fun _ => ?_) (fun c9 => absurd (eg z) (k_cne c9))
    refine lv_goto (tgt := 1570) hx hb dL_law_501 (by decide) ?_
    exact kk g1 _ N H locs ls hIN hP hD hS (lv_sub hl [2, 3, 4, 5, 6] rfl)
set_option maxHeartbeats 4000000 in
set_option maxRecDepth 100000 in
theorem law_5_place {p : Program} {l : Launch} {e : Env} {s : State} {m : MethodId} {below : List Frame} {meth : Method} {c : Code} {b L : Nat} {xs : Nat → Int32} {D : va_G} {h0 h1 : Nat → Nat} {cA cL : ClassId} {ao t : Nat} {Q : State → Prop} {cells slots : Nat} (C : lw_C p l s m c b L xs D cA cL) (hc : cells + 1 ≤ 1063) (hs : slots + 6 ≤ 9965) (ht : 3 * t + 3 ≤ L) (kk : lw_N p l e s m below meth c b D h0 h1 cA cL ao t (cells + 1) (slots + 6) Q) : lw_I p l e s m below meth c b D h0 h1 cA cL ao t cells slots Q 504 := by
  intro g rf M H locs ls hI hP hD hS hl
  obtain ⟨hx, hb, hml, hown, hts, hX, hbl, hlt, hE, hZ, hN, hK, hL⟩ := C
  have hA : ∀ q : Nat, s.heap.size ≤ q → (fun q : Nat => s.heap.size ≤ q) q := fun _ h => h
  have hbA : ¬ (fun q : Nat => s.heap.size ≤ q) b := Nat.not_le.mpr hbl
  have hcs0 : cells + 0 ≤ room_1.cells ∧ slots + 0 ≤ room_1.slots := ⟨show cells + 0 ≤ 1063 by omega, show slots + 0 ≤ 9965 by omega⟩
  have hcs1 : cells + 1 ≤ room_1.cells ∧ slots + 6 ≤ room_1.slots := ⟨hc, hs⟩
  have hcs2 : cells + 1 + 0 ≤ room_1.cells ∧ slots + 6 + 0 ≤ room_1.slots := ⟨hc, hs⟩
  refine lv_aload_n hx hb dL_law_504 rfl (lv_at hl 2 rfl) ?_
  refine lv_aload_n hx hb dL_law_505 rfl (lv_at hl 1 rfl) ?_
  refine lv_iload hx hb dL_law_506 (lv_at hl 0 rfl) ?_
  refine lv_iconst (v := nI 1) hx hb dL_law_508 (by decide) ?_
  refine lv_iadd hx hb dL_law_509 ?_
  refine lw_ld (j := 3 * t) (d := 1) hx hb hX hbl hbA hS (by omega) (by omega) dL_law_510 ?_
  refine lv_aload_n hx hb dL_law_511 rfl (lv_at hl 1 rfl) ?_
  refine lv_iload hx hb dL_law_512 (lv_at hl 0 rfl) ?_
  refine lv_iconst (v := nI 2) hx hb dL_law_514 (by decide) ?_
  refine lv_iadd hx hb dL_law_515 ?_
  refine lw_ld (j := 3 * t) (d := 2) hx hb hX hbl hbA hS (by omega) (by omega) dL_law_516 ?_
  refine lv_aload_n hx hb dL_law_517 rfl (lv_at hl 4 rfl) ?_
  refine g_calliW (wl := []) (wc := w0 h0 cA M ++ wO ao cL g) (wr := w1 h1 cA rf M) (wf := fun u : MM × (Nat → Int64) => w0 h0 cA u.1 ++ wO ao cL u.2) (vx_runSW (As := [.ref (h0 0), .int (xs (3 * t + 1)), .int (xs (3 * t + 2)), .ref ao]) (rest := []) ⟨hx, hb, hml, hown, hts⟩ (eL_place l hlt D h0 cA cL M hI.ok ao g (xs (3 * t + 1)) (xs (3 * t + 2)) H.size) (vx_cwSW 4 hts gL_law_L_place rfl rfl rfl (by decide +kernel) ⟨Nat.le_of_ble_eq_true rfl, Nat.le_of_ble_eq_true rfl⟩) ⟨l_fb, l_mk (p_left hP) hK (d_left hD) hE hZ hS hN⟩ rfl rfl hl.1 rfl (lv_room (Nat.le_of_ble_eq_true rfl)) dL_law_518 hcs1) rfl hP hD hS hA (fun r1 u1 H locs q1 hP hD hS => ?_)
  obtain ⟨u1, g1⟩ := u1
  have hP : va_P D vwCl ((w0 h0 cA u1 ++ wO ao cL g1) ++ w1 h1 cA rf M) H := hP
  have hD : va_D (fun q : Nat => s.heap.size ≤ q) ((w0 h0 cA u1 ++ wO ao cL g1) ++ w1 h1 cA rf M) := hD
  refine lv_istore (lv' := [(5, .int r1), (4, .int (nI (3 * t))), (0, .ref b), (1, .ref (h0 0)), (2, .ref (h1 0)), (3, .ref ao)]) hx hb dL_law_521 hl (by decide) rfl (fun ls hl => ?_)
  refine lv_aload_n hx hb dL_law_523 rfl (lv_at hl 4 rfl) ?_
  refine lv_aload_n hx hb dL_law_524 rfl (lv_at hl 2 rfl) ?_
  refine lv_iload hx hb dL_law_525 (lv_at hl 1 rfl) ?_
  refine lv_iconst (v := nI 1) hx hb dL_law_527 (by decide) ?_
  refine lv_iadd hx hb dL_law_528 ?_
  refine lw_ld (j := 3 * t) (d := 1) hx hb hX hbl hbA hS (by omega) (by omega) dL_law_529 ?_
  refine lv_aload_n hx hb dL_law_530 rfl (lv_at hl 2 rfl) ?_
  refine lv_iload hx hb dL_law_531 (lv_at hl 1 rfl) ?_
  refine lv_iconst (v := nI 2) hx hb dL_law_533 (by decide) ?_
  refine lv_iadd hx hb dL_law_534 ?_
  refine lw_ld (j := 3 * t) (d := 2) hx hb hX hbl hbA hS (by omega) (by omega) dL_law_535 ?_
  refine g_calliW (wl := w0 h0 cA u1 ++ wO ao cL g1) (wc := w1 h1 cA rf M) (wr := []) (wf := fun u : Int32 × MM => w1 h1 cA u.1 u.2) (va_runV (As := [.int (xs (3 * t + 1)), .int (xs (3 * t + 2))]) (rest := []) ⟨hx, hb, hml, hown, hts⟩ (c1_place l D h1 cA rf M hI.ok1 (xs (3 * t + 1)) (xs (3 * t + 2)) H.size) (cwV 2 hts gL_law_X1_place rfl rfl rfl (by decide +kernel) ⟨Nat.le_of_ble_eq_true rfl, Nat.le_of_ble_eq_true rfl⟩) ⟨pW_fb, va_recv hK hP (ci := 1) (q0 := 13) rfl rfl, pW_mk (p_right hP) (hK.sub [0] rfl) (d_right hD)⟩ rfl rfl hl.1 rfl (lv_room (Nat.le_of_ble_eq_true rfl)) dL_law_536 hcs2) (by rw [List.append_nil]) hP hD hS hA (fun r2 u2 H locs q2 hP hD hS => ?_)
  rw [List.append_nil] at hP hD
  obtain ⟨f2, u2⟩ := u2
  obtain ⟨N, hIN, e0, e1, ef, eg⟩ := lw_fin (s_place hI (xs (3 * t + 1)) (xs (3 * t + 2))) q1 q2
  have hP : va_P D vwCl ((w0 h0 cA N ++ wO ao cL g1) ++ w1 h1 cA f2 N) H := by rw [← e0 h0 cA, ← e1 h1 cA f2]; exact hP
  have hD : va_D (fun q : Nat => s.heap.size ≤ q) ((w0 h0 cA N ++ wO ao cL g1) ++ w1 h1 cA f2 N) := by rw [← e0 h0 cA, ← e1 h1 cA f2]; exact hD
  refine lv_istore (lv' := [(6, .int r2), (5, .int r1), (4, .int (nI (3 * t))), (0, .ref b), (1, .ref (h0 0)), (2, .ref (h1 0)), (3, .ref ao)]) hx hb dL_law_539 hl (by decide) rfl (fun ls hl => ?_)
  refine lv_aload_n hx hb dL_law_541 rfl (lv_at hl 5 rfl) ?_
  refine vp_callSi (W.runV (As := []) (rest := []) ⟨hx, hb, hml, hown, hts⟩ (c1_thrown l D h1 cA f2 N hIN.ok1) (cwV 0 hts gL_law_X1_thrown rfl rfl rfl (by decide +kernel) ⟨Nat.le_of_ble_eq_true rfl, Nat.le_of_ble_eq_true rfl⟩) ⟨pR_fb, va_recv hK hP (ci := 1) (q0 := 13) rfl rfl, pR_mk (p_right hP) (hK.sub [0] rfl)⟩ rfl rfl hl.1 rfl (lv_room (Nat.le_of_ble_eq_true rfl)) dL_law_542 hcs2) (fun r3 q3 => ?_)
  subst q3
  refine lv_iload hx hb dL_law_545 (lv_at hl 1 rfl) ?_
  refine lv_icmp_eq (tgt := 552) hx hb dL_law_547 (by decide) (fun _ => ?_) (fun z => absurd ef z)
  refine lv_iload hx hb dL_law_552 (lv_at hl 1 rfl) ?_
  refine lv_if_ne (tgt := 569) hx hb dL_law_554 (by decide) (fun _ => ?_) (fun z => ?_)
  · refine lv_goto (tgt := 1570) hx hb dL_law_569 (by decide) ?_
    exact kk g1 _ N H locs ls hIN hP hD hS (lv_sub hl [2, 3, 4, 5, 6] rfl)
  · refine lv_aload_n hx hb dL_law_557 rfl (lv_at hl 6 rfl) ?_
    refine lv_iconst (v := 0) hx hb dL_law_558 (by decide) ?_
    refine va_lald (f := g1) hx hb hK hP 12 1 rfl rfl (vp_in_nI (n := 0) (N := 1) (by decide) (by decide)) dL_law_559 ?_
    refine lv_iload hx hb dL_law_560 (lv_at hl 0 rfl) ?_
    refine lv_i2l (v := r2.toInt64) hx hb dL_law_562 rfl ?_
    refine W.lcmp hx hb dL_law_563 ?_
    refine lv_if_eq (tgt := 569) hx hb dL_law_564 (by decide) (fun _ => ?_) (fun c9 => absurd (eg z) (k_cne c9))
    refine lv_goto (tgt := 1570) hx hb dL_law_569 (by decide) ?_
    exact kk g1 _ N H locs ls hIN hP hD hS (lv_sub hl [2, 3, 4, 5, 6] rfl)
set_option maxHeartbeats 4000000 in
set_option maxRecDepth 100000 in
theorem law_6_setStep {p : Program} {l : Launch} {e : Env} {s : State} {m : MethodId} {below : List Frame} {meth : Method} {c : Code} {b L : Nat} {xs : Nat → Int32} {D : va_G} {h0 h1 : Nat → Nat} {cA cL : ClassId} {ao t : Nat} {Q : State → Prop} {cells slots : Nat} (C : lw_C p l s m c b L xs D cA cL) (hc : cells + 1 ≤ 1063) (hs : slots + 6 ≤ 9965) (ht : 3 * t + 3 ≤ L) (kk : lw_N p l e s m below meth c b D h0 h1 cA cL ao t (cells + 1) (slots + 6) Q) : lw_I p l e s m below meth c b D h0 h1 cA cL ao t cells slots Q 572 := by
  intro g rf M H locs ls hI hP hD hS hl
  obtain ⟨hx, hb, hml, hown, hts, hX, hbl, hlt, hE, hZ, hN, hK, hL⟩ := C
  have hA : ∀ q : Nat, s.heap.size ≤ q → (fun q : Nat => s.heap.size ≤ q) q := fun _ h => h
  have hbA : ¬ (fun q : Nat => s.heap.size ≤ q) b := Nat.not_le.mpr hbl
  have hcs0 : cells + 0 ≤ room_1.cells ∧ slots + 0 ≤ room_1.slots := ⟨show cells + 0 ≤ 1063 by omega, show slots + 0 ≤ 9965 by omega⟩
  have hcs1 : cells + 1 ≤ room_1.cells ∧ slots + 6 ≤ room_1.slots := ⟨hc, hs⟩
  have hcs2 : cells + 1 + 0 ≤ room_1.cells ∧ slots + 6 + 0 ≤ room_1.slots := ⟨hc, hs⟩
  refine lv_aload_n hx hb dL_law_572 rfl (lv_at hl 2 rfl) ?_
  refine lv_aload_n hx hb dL_law_573 rfl (lv_at hl 1 rfl) ?_
  refine lv_iload hx hb dL_law_574 (lv_at hl 0 rfl) ?_
  refine lv_iconst (v := nI 1) hx hb dL_law_576 (by decide) ?_
  refine lv_iadd hx hb dL_law_577 ?_
  refine lw_ld (j := 3 * t) (d := 1) hx hb hX hbl hbA hS (by omega) (by omega) dL_law_578 ?_
  refine lv_aload_n hx hb dL_law_579 rfl (lv_at hl 1 rfl) ?_
  refine lv_iload hx hb dL_law_580 (lv_at hl 0 rfl) ?_
  refine lv_iconst (v := nI 2) hx hb dL_law_582 (by decide) ?_
  refine lv_iadd hx hb dL_law_583 ?_
  refine lw_ld (j := 3 * t) (d := 2) hx hb hX hbl hbA hS (by omega) (by omega) dL_law_584 ?_
  refine lv_aload_n hx hb dL_law_585 rfl (lv_at hl 4 rfl) ?_
  refine g_calliW (wl := []) (wc := w0 h0 cA M ++ wO ao cL g) (wr := w1 h1 cA rf M) (wf := fun u : MM × (Nat → Int64) => w0 h0 cA u.1 ++ wO ao cL u.2) (vx_runSW (As := [.ref (h0 0), .int (xs (3 * t + 1)), .int (xs (3 * t + 2)), .ref ao]) (rest := []) ⟨hx, hb, hml, hown, hts⟩ (eL_setStep l hlt D h0 cA cL M hI.ok ao g (xs (3 * t + 1)) (xs (3 * t + 2)) H.size) (vx_cwSW 4 hts gL_law_L_setStep rfl rfl rfl (by decide +kernel) ⟨Nat.le_of_ble_eq_true rfl, Nat.le_of_ble_eq_true rfl⟩) ⟨l_fb, l_mk (p_left hP) hK (d_left hD) hE hZ hS hN⟩ rfl rfl hl.1 rfl (lv_room (Nat.le_of_ble_eq_true rfl)) dL_law_586 hcs1) rfl hP hD hS hA (fun r1 u1 H locs q1 hP hD hS => ?_)
  obtain ⟨u1, g1⟩ := u1
  have hP : va_P D vwCl ((w0 h0 cA u1 ++ wO ao cL g1) ++ w1 h1 cA rf M) H := hP
  have hD : va_D (fun q : Nat => s.heap.size ≤ q) ((w0 h0 cA u1 ++ wO ao cL g1) ++ w1 h1 cA rf M) := hD
  refine lv_istore (lv' := [(5, .int r1), (4, .int (nI (3 * t))), (0, .ref b), (1, .ref (h0 0)), (2, .ref (h1 0)), (3, .ref ao)]) hx hb dL_law_589 hl (by decide) rfl (fun ls hl => ?_)
  refine lv_aload_n hx hb dL_law_591 rfl (lv_at hl 4 rfl) ?_
  refine lv_aload_n hx hb dL_law_592 rfl (lv_at hl 2 rfl) ?_
  refine lv_iload hx hb dL_law_593 (lv_at hl 1 rfl) ?_
  refine lv_iconst (v := nI 1) hx hb dL_law_595 (by decide) ?_
  refine lv_iadd hx hb dL_law_596 ?_
  refine lw_ld (j := 3 * t) (d := 1) hx hb hX hbl hbA hS (by omega) (by omega) dL_law_597 ?_
  refine lv_aload_n hx hb dL_law_598 rfl (lv_at hl 2 rfl) ?_
  refine lv_iload hx hb dL_law_599 (lv_at hl 1 rfl) ?_
  refine lv_iconst (v := nI 2) hx hb dL_law_601 (by decide) ?_
  refine lv_iadd hx hb dL_law_602 ?_
  refine lw_ld (j := 3 * t) (d := 2) hx hb hX hbl hbA hS (by omega) (by omega) dL_law_603 ?_
  refine g_calliW (wl := w0 h0 cA u1 ++ wO ao cL g1) (wc := w1 h1 cA rf M) (wr := []) (wf := fun u : Int32 × MM => w1 h1 cA u.1 u.2) (va_runV (As := [.int (xs (3 * t + 1)), .int (xs (3 * t + 2))]) (rest := []) ⟨hx, hb, hml, hown, hts⟩ (c1_setStep l D h1 cA rf M hI.ok1 (xs (3 * t + 1)) (xs (3 * t + 2)) H.size) (cwV 2 hts gL_law_X1_setStep rfl rfl rfl (by decide +kernel) ⟨Nat.le_of_ble_eq_true rfl, Nat.le_of_ble_eq_true rfl⟩) ⟨pW_fb, va_recv hK hP (ci := 1) (q0 := 13) rfl rfl, pW_mk (p_right hP) (hK.sub [0] rfl) (d_right hD)⟩ rfl rfl hl.1 rfl (lv_room (Nat.le_of_ble_eq_true rfl)) dL_law_604 hcs2) (by rw [List.append_nil]) hP hD hS hA (fun r2 u2 H locs q2 hP hD hS => ?_)
  rw [List.append_nil] at hP hD
  obtain ⟨f2, u2⟩ := u2
  obtain ⟨N, hIN, e0, e1, ef, eg⟩ := lw_fin (s_setStep hI (xs (3 * t + 1)) (xs (3 * t + 2))) q1 q2
  have hP : va_P D vwCl ((w0 h0 cA N ++ wO ao cL g1) ++ w1 h1 cA f2 N) H := by rw [← e0 h0 cA, ← e1 h1 cA f2]; exact hP
  have hD : va_D (fun q : Nat => s.heap.size ≤ q) ((w0 h0 cA N ++ wO ao cL g1) ++ w1 h1 cA f2 N) := by rw [← e0 h0 cA, ← e1 h1 cA f2]; exact hD
  refine lv_istore (lv' := [(6, .int r2), (5, .int r1), (4, .int (nI (3 * t))), (0, .ref b), (1, .ref (h0 0)), (2, .ref (h1 0)), (3, .ref ao)]) hx hb dL_law_607 hl (by decide) rfl (fun ls hl => ?_)
  refine lv_aload_n hx hb dL_law_609 rfl (lv_at hl 5 rfl) ?_
  refine vp_callSi (W.runV (As := []) (rest := []) ⟨hx, hb, hml, hown, hts⟩ (c1_thrown l D h1 cA f2 N hIN.ok1) (cwV 0 hts gL_law_X1_thrown rfl rfl rfl (by decide +kernel) ⟨Nat.le_of_ble_eq_true rfl, Nat.le_of_ble_eq_true rfl⟩) ⟨pR_fb, va_recv hK hP (ci := 1) (q0 := 13) rfl rfl, pR_mk (p_right hP) (hK.sub [0] rfl)⟩ rfl rfl hl.1 rfl (lv_room (Nat.le_of_ble_eq_true rfl)) dL_law_610 hcs2) (fun r3 q3 => ?_)
  subst q3
  refine lv_iload hx hb dL_law_613 (lv_at hl 1 rfl) ?_
  refine lv_icmp_eq (tgt := 620) hx hb dL_law_615 (by decide) (fun _ => ?_) (fun z => absurd ef z)
  refine lv_iload hx hb dL_law_620 (lv_at hl 1 rfl) ?_
  refine lv_if_ne (tgt := 637) hx hb dL_law_622 (by decide) (fun _ => ?_) (fun z => ?_)
  · refine lv_goto (tgt := 1570) hx hb dL_law_637 (by decide) ?_
    exact kk g1 _ N H locs ls hIN hP hD hS (lv_sub hl [2, 3, 4, 5, 6] rfl)
  · refine lv_aload_n hx hb dL_law_625 rfl (lv_at hl 6 rfl) ?_
    refine lv_iconst (v := 0) hx hb dL_law_626 (by decide) ?_
    refine va_lald (f := g1) hx hb hK hP 12 1 rfl rfl (vp_in_nI (n := 0) (N := 1) (by decide) (by decide)) dL_law_627 ?_
    refine lv_iload hx hb dL_law_628 (lv_at hl 0 rfl) ?_
    refine lv_i2l (v := r2.toInt64) hx hb dL_law_630 rfl ?_
    refine W.lcmp hx hb dL_law_631 ?_
    refine lv_if_eq (tgt := 637) hx hb dL_law_632 (by decide) (fun _ => ?_) (fun c9 => absurd (eg z) (k_cne c9))
    refine lv_goto (tgt := 1570) hx hb dL_law_637 (by decide) ?_
    exact kk g1 _ N H locs ls hIN hP hD hS (lv_sub hl [2, 3, 4, 5, 6] rfl)
set_option maxHeartbeats 4000000 in
set_option maxRecDepth 100000 in
theorem law_7_dropStep {p : Program} {l : Launch} {e : Env} {s : State} {m : MethodId} {below : List Frame} {meth : Method} {c : Code} {b L : Nat} {xs : Nat → Int32} {D : va_G} {h0 h1 : Nat → Nat} {cA cL : ClassId} {ao t : Nat} {Q : State → Prop} {cells slots : Nat} (C : lw_C p l s m c b L xs D cA cL) (hc : cells + 1 ≤ 1063) (hs : slots + 6 ≤ 9965) (ht : 3 * t + 3 ≤ L) (kk : lw_N p l e s m below meth c b D h0 h1 cA cL ao t (cells + 1) (slots + 6) Q) : lw_I p l e s m below meth c b D h0 h1 cA cL ao t cells slots Q 640 := by
  intro g rf M H locs ls hI hP hD hS hl
  obtain ⟨hx, hb, hml, hown, hts, hX, hbl, hlt, hE, hZ, hN, hK, hL⟩ := C
  have hA : ∀ q : Nat, s.heap.size ≤ q → (fun q : Nat => s.heap.size ≤ q) q := fun _ h => h
  have hbA : ¬ (fun q : Nat => s.heap.size ≤ q) b := Nat.not_le.mpr hbl
  have hcs0 : cells + 0 ≤ room_1.cells ∧ slots + 0 ≤ room_1.slots := ⟨show cells + 0 ≤ 1063 by omega, show slots + 0 ≤ 9965 by omega⟩
  have hcs1 : cells + 1 ≤ room_1.cells ∧ slots + 6 ≤ room_1.slots := ⟨hc, hs⟩
  have hcs2 : cells + 1 + 0 ≤ room_1.cells ∧ slots + 6 + 0 ≤ room_1.slots := ⟨hc, hs⟩
  refine lv_aload_n hx hb dL_law_640 rfl (lv_at hl 2 rfl) ?_
  refine lv_aload_n hx hb dL_law_641 rfl (lv_at hl 1 rfl) ?_
  refine lv_iload hx hb dL_law_642 (lv_at hl 0 rfl) ?_
  refine lv_iconst (v := nI 1) hx hb dL_law_644 (by decide) ?_
  refine lv_iadd hx hb dL_law_645 ?_
  refine lw_ld (j := 3 * t) (d := 1) hx hb hX hbl hbA hS (by omega) (by omega) dL_law_646 ?_
  refine lv_aload_n hx hb dL_law_647 rfl (lv_at hl 4 rfl) ?_
  refine g_calliW (wl := []) (wc := w0 h0 cA M ++ wO ao cL g) (wr := w1 h1 cA rf M) (wf := fun u : MM × (Nat → Int64) => w0 h0 cA u.1 ++ wO ao cL u.2) (vx_runSW (As := [.ref (h0 0), .int (xs (3 * t + 1)), .ref ao]) (rest := []) ⟨hx, hb, hml, hown, hts⟩ (eL_dropStep l hlt D h0 cA cL M hI.ok ao g (xs (3 * t + 1)) H.size) (vx_cwSW 3 hts gL_law_L_dropStep rfl rfl rfl (by decide +kernel) ⟨Nat.le_of_ble_eq_true rfl, Nat.le_of_ble_eq_true rfl⟩) ⟨l_fb, l_mk (p_left hP) hK (d_left hD) hE hZ hS hN⟩ rfl rfl hl.1 rfl (lv_room (Nat.le_of_ble_eq_true rfl)) dL_law_648 hcs1) rfl hP hD hS hA (fun r1 u1 H locs q1 hP hD hS => ?_)
  obtain ⟨u1, g1⟩ := u1
  have hP : va_P D vwCl ((w0 h0 cA u1 ++ wO ao cL g1) ++ w1 h1 cA rf M) H := hP
  have hD : va_D (fun q : Nat => s.heap.size ≤ q) ((w0 h0 cA u1 ++ wO ao cL g1) ++ w1 h1 cA rf M) := hD
  refine lv_istore (lv' := [(5, .int r1), (4, .int (nI (3 * t))), (0, .ref b), (1, .ref (h0 0)), (2, .ref (h1 0)), (3, .ref ao)]) hx hb dL_law_651 hl (by decide) rfl (fun ls hl => ?_)
  refine lv_aload_n hx hb dL_law_653 rfl (lv_at hl 4 rfl) ?_
  refine lv_aload_n hx hb dL_law_654 rfl (lv_at hl 2 rfl) ?_
  refine lv_iload hx hb dL_law_655 (lv_at hl 1 rfl) ?_
  refine lv_iconst (v := nI 1) hx hb dL_law_657 (by decide) ?_
  refine lv_iadd hx hb dL_law_658 ?_
  refine lw_ld (j := 3 * t) (d := 1) hx hb hX hbl hbA hS (by omega) (by omega) dL_law_659 ?_
  refine g_calliW (wl := w0 h0 cA u1 ++ wO ao cL g1) (wc := w1 h1 cA rf M) (wr := []) (wf := fun u : Int32 × MM => w1 h1 cA u.1 u.2) (va_runV (As := [.int (xs (3 * t + 1))]) (rest := []) ⟨hx, hb, hml, hown, hts⟩ (c1_dropStep l D h1 cA rf M hI.ok1 (xs (3 * t + 1)) H.size) (cwV 1 hts gL_law_X1_dropStep rfl rfl rfl (by decide +kernel) ⟨Nat.le_of_ble_eq_true rfl, Nat.le_of_ble_eq_true rfl⟩) ⟨pW_fb, va_recv hK hP (ci := 1) (q0 := 13) rfl rfl, pW_mk (p_right hP) (hK.sub [0] rfl) (d_right hD)⟩ rfl rfl hl.1 rfl (lv_room (Nat.le_of_ble_eq_true rfl)) dL_law_660 hcs2) (by rw [List.append_nil]) hP hD hS hA (fun r2 u2 H locs q2 hP hD hS => ?_)
  rw [List.append_nil] at hP hD
  obtain ⟨f2, u2⟩ := u2
  obtain ⟨N, hIN, e0, e1, ef, eg⟩ := lw_fin (s_dropStep hI (xs (3 * t + 1))) q1 q2
  have hP : va_P D vwCl ((w0 h0 cA N ++ wO ao cL g1) ++ w1 h1 cA f2 N) H := by rw [← e0 h0 cA, ← e1 h1 cA f2]; exact hP
  have hD : va_D (fun q : Nat => s.heap.size ≤ q) ((w0 h0 cA N ++ wO ao cL g1) ++ w1 h1 cA f2 N) := by rw [← e0 h0 cA, ← e1 h1 cA f2]; exact hD
  refine lv_istore (lv' := [(6, .int r2), (5, .int r1), (4, .int (nI (3 * t))), (0, .ref b), (1, .ref (h0 0)), (2, .ref (h1 0)), (3, .ref ao)]) hx hb dL_law_663 hl (by decide) rfl (fun ls hl => ?_)
  refine lv_aload_n hx hb dL_law_665 rfl (lv_at hl 5 rfl) ?_
  refine vp_callSi (W.runV (As := []) (rest := []) ⟨hx, hb, hml, hown, hts⟩ (c1_thrown l D h1 cA f2 N hIN.ok1) (cwV 0 hts gL_law_X1_thrown rfl rfl rfl (by decide +kernel) ⟨Nat.le_of_ble_eq_true rfl, Nat.le_of_ble_eq_true rfl⟩) ⟨pR_fb, va_recv hK hP (ci := 1) (q0 := 13) rfl rfl, pR_mk (p_right hP) (hK.sub [0] rfl)⟩ rfl rfl hl.1 rfl (lv_room (Nat.le_of_ble_eq_true rfl)) dL_law_666 hcs2) (fun r3 q3 => ?_)
  subst q3
  refine lv_iload hx hb dL_law_669 (lv_at hl 1 rfl) ?_
  refine lv_icmp_eq (tgt := 676) hx hb dL_law_671 (by decide) (fun _ => ?_) (fun z => absurd ef z)
  refine lv_iload hx hb dL_law_676 (lv_at hl 1 rfl) ?_
  refine lv_if_ne (tgt := 693) hx hb dL_law_678 (by decide) (fun _ => ?_) (fun z => ?_)
  · refine lv_goto (tgt := 1570) hx hb dL_law_693 (by decide) ?_
    exact kk g1 _ N H locs ls hIN hP hD hS (lv_sub hl [2, 3, 4, 5, 6] rfl)
  · refine lv_aload_n hx hb dL_law_681 rfl (lv_at hl 6 rfl) ?_
    refine lv_iconst (v := 0) hx hb dL_law_682 (by decide) ?_
    refine va_lald (f := g1) hx hb hK hP 12 1 rfl rfl (vp_in_nI (n := 0) (N := 1) (by decide) (by decide)) dL_law_683 ?_
    refine lv_iload hx hb dL_law_684 (lv_at hl 0 rfl) ?_
    refine lv_i2l (v := r2.toInt64) hx hb dL_law_686 rfl ?_
    refine W.lcmp hx hb dL_law_687 ?_
    refine lv_if_eq (tgt := 693) hx hb dL_law_688 (by decide) (fun _ => ?_) (fun c9 => absurd (eg z) (k_cne c9))
    refine lv_goto (tgt := 1570) hx hb dL_law_693 (by decide) ?_
    exact kk g1 _ N H locs ls hIN hP hD hS (lv_sub hl [2, 3, 4, 5, 6] rfl)
