/-! THE LAW on the script 0, 11, 11 .. (17 ints), with room for 1000 cells: it ends, and more than 211 cells are new -/
theorem x_Ev_of {args : Array Value} {s : State} (h1 : (Cond.castable E_io E_io).before args s = true) (h2 : (Cond.castable E_ia E_ia).before args s = true) (h3 : (Cond.castable E_is E_is).before args s = true) (h4 : (x_dcl "java/lang/RuntimeException").before args s = true) (h5 : (x_dcl "java/lang/Exception").before args s = true) (h6 : (x_dcl "java/lang/Throwable").before args s = true) (hR : ∀ q ∈ x_str, (Cond.stringRef RX0 q.1 q.2).before args s = true) (hX : ∀ q ∈ x_str, (Cond.exactly (.string RX0 q.1) "java/lang/String").before args s = true) : x_Ev s := by
  refine ⟨va_Nw.of rfl h1, va_Nw.of rfl h2, va_Nw.of rfl h3, va_Nw.of rfl h4, va_Nw.of rfl h5, va_Nw.of rfl h6, fun q hq => ?_⟩
  obtain ⟨a, c, cell, k, q1, -⟩ := Cond.exactly_spec (args := args) (first := s) (o := none) (s := s) (idx := []) (t := .string RX0 q.1) (cls := "java/lang/String") (hX q hq)
  exact ⟨a, vk_R.of (hR q hq) q1⟩
def R_law : String := "ProgressBillingLaw"
def lw_At (p : Program) (s : State) (m : MethodId) (meth : Method) (c : Code) (b L : Nat) (xs : Nat → Int32) : Prop :=
  p.tables.exec = Jvm.exec ∧ c.code = code ∧ meth.sig.returnType = ret ∧ c.maxLocals = 10 ∧ s.vm.findClass R_law = some m.cls ∧ (∀ w ∈ lw_tbl, w.before #[Value.ref b] s = true) ∧ va_X b L xs s s.heap ∧ b < s.heap.size ∧ meth.locks = false ∧ (Jvm.Cond.and given_1 narrow_1).before #[Value.ref b] s = true
def R2 : Room := { frames := 13, cells := 1000, slots := 8000, locals := 468 }
def lx_Q (_ : Array Value) (s : State) (o : Outcome) (t : State) : Prop := o = .returned (some (.int 1)) ∧ s.heap.size + 212 ≤ t.heap.size
def lx_Z (below : List Frame) (a : Array Value) (s : State) : State → Prop := fun t => ∃ o, t.status = .running ∧ Ended t below o ∧ lx_Q a s o t
theorem lx_ret {p : Program} {l : Launch} {e : Env} {R : Room} {s : State} {m : MethodId} {below : List Frame} {meth : Method} {c : Code} {b : Nat} {locs : List Loc} {cells slots : Nat} (hx : p.tables.exec = Jvm.exec) (hb : c.code = code) (hr : meth.sig.returnType = ret) (hlocks : meth.locks = false) {pc : Nat} {H : Heap} {ls : Array Slot} (hdg : decode code pc = .ok (.ireturn, 1)) (hH : s.heap.size + 212 ≤ H.size) : W p l e R s m #[Value.ref b] below meth c H locs cells slots (lx_Z below #[Value.ref b] s) (F0 m pc ls [.int 1]) := by
  intro T hT X
  obtain ⟨fs, hret, hrun, hended, hW, hframe⟩ := X.leave (v := some (.int 1)) (hlocks := hlocks) (fun h => by rw [hr] at h; cases h)
  have hmeth' : T.vm.method? m = some meth := X.method'
  refine ⟨T.setFrames fs, ?_, .returned (some (.int 1)), hrun, hended, rfl, ?_⟩
  · jvm_step X.here [X.here.top, hx, hb, hdg, hmeth', hr, ret, narrow_b1]
    (try refine ⟨rfl, ?_⟩); (try refine ⟨rfl, ?_⟩)
    first | (intro acts; rw [hret _ acts rfl rfl rfl]) | rw [hret _ _ rfl rfl rfl]
    exact Steps.refl _
  · show s.heap.size + 212 ≤ T.heap.size
    rw [hT]; exact hH
theorem x_mk {b L : Nat} {xs : Nat → Int32} {s : State} {H : Heap} {locs : List Loc} {av : List Value} (hX : va_X b L xs s s.heap) (hbl : b < s.heap.size) (hS : va_S (fun q : Nat => s.heap.size ≤ q) s.heap H locs) : ∀ U : State, U.heap = H → s.WarmedH U.vm → va_Pc av (fun U => va_X b L xs U U.heap) av.toArray U := fun U hU hW => ⟨rfl, by show va_X b L xs U U.heap; rw [hU]; exact va_X.moved hW.alike (hX.kept (hS.2.1 b hbl (Nat.not_le.mpr hbl)))⟩
def lx_C (p : Program) (l : Launch) (s : State) (m : MethodId) (c : Code) (b L : Nat) (xs : Nat → Int32) (D : va_G) (cA : ClassId) : Prop :=
  p.tables.exec = Jvm.exec ∧ c.code = cL_law ∧ c.maxLocals = 10 ∧ s.vm.findClass RL = some m.cls ∧ (∀ w ∈ wsL_law, w.before #[Value.ref b] s = true) ∧ va_X b L xs s s.heap ∧ b < s.heap.size ∧ l.stackTraces = false ∧ x_Ev s ∧ x_Zz (fun q : Nat => s.heap.size ≤ q) s s.heap ∧ va_K D vwCl [(cA, .int)] s
set_option maxHeartbeats 4000000 in
set_option maxRecDepth 100000 in
theorem lx_loop {p : Program} {l : Launch} {e : Env} {s : State} {m : MethodId} {below : List Frame} {meth : Method} {c : Code} {b L : Nat} {xs : Nat → Int32} {D : va_G} {h1 h2 : Nat → Nat} {cA : ClassId} (hr : meth.sig.returnType = ret) (hlocks : meth.locks = false) (hL : L = 17) (hxs : ∀ k : Nat, k < 17 → xs k = if k = 0 then 0 else 11) (C : lx_C p l s m c b L xs D cA) (hD : va_D (fun q : Nat => s.heap.size ≤ q) (w0 h1 cA M0 ++ w0 h2 cA M0)) : ∀ (n t cells slots : Nat), 16 = t + n → cells = 24 + 54 * t → slots = 694 + 324 * t → ∀ (H : Heap) (locs : List Loc) (ls : Array Slot), va_P D vwCl (w0 h1 cA M0 ++ w0 h2 cA M0) H → va_S (fun q : Nat => s.heap.size ≤ q) s.heap H locs → s.heap.size + 54 * t ≤ H.size → lv_has ls 10 [(5, .int (nI t)), (0, .ref b), (1, .ref (h1 0)), (2, .ref (h2 0)), (3, .int (nI 16)), (4, .int 1)] → W p l e R2 s m #[Value.ref b] below meth c H locs cells slots (lx_Z below #[Value.ref b] s) (F0 m 34 ls []) := by
  obtain ⟨hx, hb, hml, hown, hts, hX, hbl, hlt, hE, hZ, hK⟩ := id C
  have hA : ∀ q : Nat, s.heap.size ≤ q → (fun q : Nat => s.heap.size ≤ q) q := fun _ h => h
  intro n
  induction n with
  | zero =>
    intro t cells slots ht ec es H locs ls hP hS hG hl
    obtain rfl : t = 16 := by omega
    subst ec; subst es
    refine lv_iload hx hb dL_law_34 (lv_at hl 0 rfl) ?_
    refine lv_iload_n hx hb dL_law_36 rfl (lv_at hl 4 rfl) ?_
    refine lv_icmp_ge (tgt := 146) hx hb dL_law_37 (by decide) (fun _ => ?_) (fun z => absurd z (by decide +kernel))
    refine lv_aload_n hx hb dL_law_146 rfl (lv_at hl 3 rfl) ?_
    refine vp_callSi (W.runV (As := []) (rest := []) ⟨hx, hb, hml, hown, hts⟩ (c0_lines l D h2 cA M0 ok0) (cwV 0 hts gL_law_X0_lines rfl rfl rfl (by decide +kernel) ⟨Nat.le_of_ble_eq_true rfl, Nat.le_of_ble_eq_true rfl⟩) ⟨pR_fb, va_recv hK hP (ci := 0) (q0 := 12) rfl rfl, pR_mk (p_right hP) hK⟩ rfl rfl hl.1 rfl (lv_room (Nat.le_of_ble_eq_true rfl)) dL_law_147 ⟨by show _ ≤ 1000; omega, by show _ ≤ 8000; omega⟩) (fun r1 qr1 => ?_)
    obtain rfl : r1 = 0 := qr1.trans (by decide +kernel)
    refine lv_istore (lv' := [(5, .int 0), (0, .ref b), (1, .ref (h1 0)), (2, .ref (h2 0)), (3, .int (nI 16)), (4, .int 1)]) hx hb dL_law_150 hl (by decide) rfl (fun ls hl => ?_)
    refine lv_iconst (v := 0) hx hb dL_law_152 (by decide) ?_
    refine lv_istore (lv' := [(6, .int 0), (5, .int 0), (0, .ref b), (1, .ref (h1 0)), (2, .ref (h2 0)), (3, .int (nI 16)), (4, .int 1)]) hx hb dL_law_153 hl (by decide) rfl (fun ls hl => ?_)
    refine lv_iload hx hb dL_law_155 (lv_at hl 0 rfl) ?_
    refine lv_iload hx hb dL_law_157 (lv_at hl 1 rfl) ?_
    refine lv_icmp_ge (tgt := 318) hx hb dL_law_159 (by decide) (fun _ => ?_) (fun z => absurd z (by decide +kernel))
    refine lv_aload_n hx hb dL_law_318 rfl (lv_at hl 4 rfl) ?_
    refine vp_callSi (W.runV (As := []) (rest := []) ⟨hx, hb, hml, hown, hts⟩ (c0_nextAmount l D h2 cA M0 ok0) (cwV 0 hts gL_law_X0_nextAmount rfl rfl rfl (by decide +kernel) ⟨Nat.le_of_ble_eq_true rfl, Nat.le_of_ble_eq_true rfl⟩) ⟨pR_fb, va_recv hK hP (ci := 0) (q0 := 12) rfl rfl, pR_mk (p_right hP) hK⟩ rfl rfl hl.1 rfl (lv_room (Nat.le_of_ble_eq_true rfl)) dL_law_319 ⟨by show _ ≤ 1000; omega, by show _ ≤ 8000; omega⟩) (fun r2 qr2 => ?_)
    obtain rfl : r2 = 0 := qr2.trans (by decide +kernel)
    refine lv_istore (lv' := [(6, .int 0), (5, .int 0), (0, .ref b), (1, .ref (h1 0)), (2, .ref (h2 0)), (3, .int (nI 16)), (4, .int 1)]) hx hb dL_law_322 hl (by decide) rfl (fun ls hl => ?_)
    refine lv_iload hx hb dL_law_324 (lv_at hl 0 rfl) ?_
    refine lv_aload_n hx hb dL_law_326 rfl (lv_at hl 3 rfl) ?_
    refine vp_callSi (W.runV (As := []) (rest := [.int 0]) ⟨hx, hb, hml, hown, hts⟩ (c0_nextAmount l D h1 cA M0 ok0) (cwV 0 hts gL_law_X0_nextAmount rfl rfl rfl (by decide +kernel) ⟨Nat.le_of_ble_eq_true rfl, Nat.le_of_ble_eq_true rfl⟩) ⟨pR_fb, va_recv hK hP (ci := 0) (q0 := 0) rfl rfl, pR_mk (p_left hP) hK⟩ rfl rfl hl.1 rfl (lv_room (Nat.le_of_ble_eq_true rfl)) dL_law_327 ⟨by show _ ≤ 1000; omega, by show _ ≤ 8000; omega⟩) (fun r3 qr3 => ?_)
    obtain rfl : r3 = 0 := qr3.trans (by decide +kernel)
    refine lv_isub hx hb dL_law_330 ?_
    refine lv_topi (fun y4 ey4 => ?_)
    obtain rfl : y4 = 0 := ey4.trans (by decide +kernel)
    refine lv_istore (lv' := [(7, .int 0), (6, .int 0), (5, .int 0), (0, .ref b), (1, .ref (h1 0)), (2, .ref (h2 0)), (3, .int (nI 16)), (4, .int 1)]) hx hb dL_law_331 hl (by decide) rfl (fun ls hl => ?_)
    refine lv_iload hx hb dL_law_333 (lv_at hl 7 rfl) ?_
    refine lv_if_eq (tgt := 412) hx hb dL_law_335 (by decide) (fun z => absurd z (by decide +kernel)) (fun _ => ?_)
    refine lv_iload hx hb dL_law_338 (lv_at hl 0 rfl) ?_
    refine lv_bipush (v := 16) hx hb dL_law_340 (by decide) ?_
    refine lv_icmp_gt (tgt := 412) hx hb dL_law_342 (by decide) (fun z => absurd z (by decide +kernel)) (fun _ => ?_)
    refine lv_iload hx hb dL_law_345 (lv_at hl 0 rfl) ?_
    refine lv_bipush (v := -16) hx hb dL_law_347 (by decide) ?_
    refine lv_icmp_lt (tgt := 412) hx hb dL_law_349 (by decide) (fun z => absurd z (by decide +kernel)) (fun _ => ?_)
    refine lv_iload hx hb dL_law_352 (lv_at hl 2 rfl) ?_
    refine lv_if_eq (tgt := 408) hx hb dL_law_354 (by decide) (fun _ => ?_) (fun z => absurd z (by decide +kernel))
    refine lv_iconst (v := 1) hx hb dL_law_408 (by decide) ?_
    refine lv_goto (tgt := 413) hx hb dL_law_409 (by decide) ?_
    exact lx_ret hx hb hr hlocks dL_law_413 (by omega)
  | succ n ih =>
    intro t cells slots ht ec es H locs ls hP hS hG hl
    subst ec; subst es
    refine lv_iload hx hb dL_law_34 (lv_at hl 0 rfl) ?_
    refine lv_iload_n hx hb dL_law_36 rfl (lv_at hl 4 rfl) ?_
    refine lv_icmp_ge (tgt := 146) hx hb dL_law_37 (by decide) (fun z => absurd z (Int32.not_le.mpr (nI_lt (a := t) (b := 16) (by omega) (by decide)))) (fun _ => ?_)
    refine lv_iload hx hb dL_law_40 (lv_at hl 5 rfl) ?_
    refine lv_if_eq (tgt := 146) hx hb dL_law_42 (by decide) (fun z => absurd z (by decide +kernel)) (fun _ => ?_)
    refine lv_aload_n hx hb dL_law_45 rfl (lv_at hl 1 rfl) ?_
    refine lv_iconst (v := nI 1) hx hb dL_law_46 (by decide) ?_
    refine lv_iload hx hb dL_law_47 (lv_at hl 0 rfl) ?_
    refine lv_iadd hx hb dL_law_49 ?_
    refine lv_topi (fun y0 ey0 => ?_)
    obtain rfl : y0 = nI (1 + t) := ey0.trans (nI_add ..)
    refine vp_callSi (W.runS (As := [.ref b, .int (nI (1 + t))]) (rest := []) ⟨hx, hb, hml, hown, hts⟩ (eL_drawn l b L xs (1 + t) 11 (by omega) (by omega) (by rw [hxs _ (by omega), if_neg (by omega)]; decide +kernel)) (va_cwS 2 hts gL_law_L_drawn rfl rfl rfl (by decide +kernel) ⟨Nat.le_of_ble_eq_true rfl, Nat.le_of_ble_eq_true rfl⟩) ⟨x_fb, x_mk hX hbl hS⟩ rfl rfl hl.1 rfl (lv_room (Nat.le_of_ble_eq_true rfl)) dL_law_50 ⟨by show _ ≤ 1000; omega, by show _ ≤ 8000; omega⟩) (fun r0 qr0 => ?_)
    obtain rfl : r0 = 11 := qr0
    refine lv_istore (lv' := [(6, .int 11), (5, .int (nI t)), (0, .ref b), (1, .ref (h1 0)), (2, .ref (h2 0)), (3, .int (nI 16)), (4, .int 1)]) hx hb dL_law_53 hl (by decide) rfl (fun ls hl => ?_)
    refine lv_aload_n hx hb dL_law_55 rfl (lv_at hl 4 rfl) ?_
    refine lv_iload hx hb dL_law_56 (lv_at hl 0 rfl) ?_
    refine lv_sipush (v := 9973) hx hb dL_law_58 (by decide) ?_
    refine lv_irem hx hb dL_law_61 (by decide) ?_
    refine lv_topi (fun y1 ey1 => ?_)
    obtain rfl : y1 = 11 := ey1.trans (by decide +kernel)
    refine g_new (va_runS (As := [.ref (h2 0), .int 11]) (rest := []) ⟨hx, hb, hml, hown, hts⟩ (eL_refuses l hlt D h2 cA H.size) (va_cwS 2 hts gL_law_L_refuses rfl rfl rfl (by decide +kernel) ⟨Nat.le_of_ble_eq_true rfl, Nat.le_of_ble_eq_true rfl⟩) ⟨pE_fb pW_fb, e_mkL (p_right hP) hK (d_right hD) hE hZ hS⟩ rfl rfl hl.1 rfl (lv_room (Nat.le_of_ble_eq_true rfl)) dL_law_62 ⟨by show _ ≤ 1000; omega, by show _ ≤ 8000; omega⟩) hP hS hA hG (fun r2 H locs qr2 hP hS hG => ?_)
    obtain rfl : r2 = 1 := qr2
    refine lv_if_eq (tgt := 137) hx hb dL_law_65 (by decide) (fun z => absurd z (by decide +kernel)) (fun _ => ?_)
    refine lv_aload_n hx hb dL_law_68 rfl (lv_at hl 3 rfl) ?_
    refine lv_iload hx hb dL_law_69 (lv_at hl 0 rfl) ?_
    refine g_new (va_runS (As := [.ref (h1 0), .int 11]) (rest := []) ⟨hx, hb, hml, hown, hts⟩ (eL_act l hlt D h1 cA H.size) (va_cwS 2 hts gL_law_L_act rfl rfl rfl (by decide +kernel) ⟨Nat.le_of_ble_eq_true rfl, Nat.le_of_ble_eq_true rfl⟩) ⟨pE_fb pW_fb, e_mkL (p_left hP) hK (d_left hD) hE hZ hS⟩ rfl rfl hl.1 rfl (lv_room (Nat.le_of_ble_eq_true rfl)) dL_law_71 ⟨by show _ ≤ 1000; omega, by show _ ≤ 8000; omega⟩) hP hS hA hG (fun r3 H locs qr3 hP hS hG => ?_)
    obtain rfl : r3 = (-2000000003) := qr3
    refine lv_aload_n hx hb dL_law_74 rfl (lv_at hl 4 rfl) ?_
    refine lv_iload hx hb dL_law_75 (lv_at hl 0 rfl) ?_
    refine g_new (va_runS (As := [.ref (h2 0), .int 11]) (rest := [.int (-2000000003)]) ⟨hx, hb, hml, hown, hts⟩ (eL_act l hlt D h2 cA H.size) (va_cwS 2 hts gL_law_L_act rfl rfl rfl (by decide +kernel) ⟨Nat.le_of_ble_eq_true rfl, Nat.le_of_ble_eq_true rfl⟩) ⟨pE_fb pW_fb, e_mkL (p_right hP) hK (d_right hD) hE hZ hS⟩ rfl rfl hl.1 rfl (lv_room (Nat.le_of_ble_eq_true rfl)) dL_law_77 ⟨by show _ ≤ 1000; omega, by show _ ≤ 8000; omega⟩) hP hS hA hG (fun r4 H locs qr4 hP hS hG => ?_)
    obtain rfl : r4 = (-2000000003) := qr4
    refine lv_icmp_ne (tgt := 137) hx hb dL_law_80 (by decide) (fun z => absurd z (by decide +kernel)) (fun _ => ?_)
    refine lv_aload_n hx hb dL_law_83 rfl (lv_at hl 4 rfl) ?_
    refine lv_iload hx hb dL_law_84 (lv_at hl 0 rfl) ?_
    refine lv_sipush (v := 499) hx hb dL_law_86 (by decide) ?_
    refine lv_irem hx hb dL_law_89 (by decide) ?_
    refine lv_topi (fun y5 ey5 => ?_)
    obtain rfl : y5 = 11 := ey5.trans (by decide +kernel)
    refine g_new (va_runS (As := [.ref (h2 0), .int 11]) (rest := []) ⟨hx, hb, hml, hown, hts⟩ (eL_refuses l hlt D h2 cA H.size) (va_cwS 2 hts gL_law_L_refuses rfl rfl rfl (by decide +kernel) ⟨Nat.le_of_ble_eq_true rfl, Nat.le_of_ble_eq_true rfl⟩) ⟨pE_fb pW_fb, e_mkL (p_right hP) hK (d_right hD) hE hZ hS⟩ rfl rfl hl.1 rfl (lv_room (Nat.le_of_ble_eq_true rfl)) dL_law_90 ⟨by show _ ≤ 1000; omega, by show _ ≤ 8000; omega⟩) hP hS hA hG (fun r6 H locs qr6 hP hS hG => ?_)
    obtain rfl : r6 = 1 := qr6
    refine lv_if_eq (tgt := 137) hx hb dL_law_93 (by decide) (fun z => absurd z (by decide +kernel)) (fun _ => ?_)
    refine lv_aload_n hx hb dL_law_96 rfl (lv_at hl 3 rfl) ?_
    refine lv_aload_n hx hb dL_law_97 rfl (lv_at hl 4 rfl) ?_
    refine vp_callSi (W.runS (As := [.ref (h1 0), .ref (h2 0)]) (rest := []) ⟨hx, hb, hml, hown, hts⟩ (eL_alike l D h1 h2 cA) (va_cwS 2 hts gL_law_L_alike rfl rfl rfl (by decide +kernel) ⟨Nat.le_of_ble_eq_true rfl, Nat.le_of_ble_eq_true rfl⟩) ⟨pR_fb, pR_mk hP hK⟩ rfl rfl hl.1 rfl (lv_room (Nat.le_of_ble_eq_true rfl)) dL_law_98 ⟨by show _ ≤ 1000; omega, by show _ ≤ 8000; omega⟩) (fun r7 qr7 => ?_)
    obtain rfl : r7 = 1 := qr7
    refine lv_if_eq (tgt := 137) hx hb dL_law_101 (by decide) (fun z => absurd z (by decide +kernel)) (fun _ => ?_)
    refine lv_aload_n hx hb dL_law_104 rfl (lv_at hl 3 rfl) ?_
    refine vp_callSi (W.runV (As := []) (rest := []) ⟨hx, hb, hml, hown, hts⟩ (c0_nextAmount l D h1 cA M0 ok0) (cwV 0 hts gL_law_X0_nextAmount rfl rfl rfl (by decide +kernel) ⟨Nat.le_of_ble_eq_true rfl, Nat.le_of_ble_eq_true rfl⟩) ⟨pR_fb, va_recv hK hP (ci := 0) (q0 := 0) rfl rfl, pR_mk (p_left hP) hK⟩ rfl rfl hl.1 rfl (lv_room (Nat.le_of_ble_eq_true rfl)) dL_law_105 ⟨by show _ ≤ 1000; omega, by show _ ≤ 8000; omega⟩) (fun r8 qr8 => ?_)
    obtain rfl : r8 = 0 := qr8.trans (by decide +kernel)
    refine lv_aload_n hx hb dL_law_108 rfl (lv_at hl 4 rfl) ?_
    refine vp_callSi (W.runV (As := []) (rest := [.int 0]) ⟨hx, hb, hml, hown, hts⟩ (c0_nextAmount l D h2 cA M0 ok0) (cwV 0 hts gL_law_X0_nextAmount rfl rfl rfl (by decide +kernel) ⟨Nat.le_of_ble_eq_true rfl, Nat.le_of_ble_eq_true rfl⟩) ⟨pR_fb, va_recv hK hP (ci := 0) (q0 := 12) rfl rfl, pR_mk (p_right hP) hK⟩ rfl rfl hl.1 rfl (lv_room (Nat.le_of_ble_eq_true rfl)) dL_law_109 ⟨by show _ ≤ 1000; omega, by show _ ≤ 8000; omega⟩) (fun r9 qr9 => ?_)
    obtain rfl : r9 = 0 := qr9.trans (by decide +kernel)
    refine lv_icmp_ne (tgt := 137) hx hb dL_law_112 (by decide) (fun z => absurd z (by decide +kernel)) (fun _ => ?_)
    refine lv_aload_n hx hb dL_law_115 rfl (lv_at hl 3 rfl) ?_
    refine vp_callSi (W.runV (As := []) (rest := []) ⟨hx, hb, hml, hown, hts⟩ (c0_paid l D h1 cA M0 ok0) (cwV 0 hts gL_law_X0_paid rfl rfl rfl (by decide +kernel) ⟨Nat.le_of_ble_eq_true rfl, Nat.le_of_ble_eq_true rfl⟩) ⟨pR_fb, va_recv hK hP (ci := 0) (q0 := 0) rfl rfl, pR_mk (p_left hP) hK⟩ rfl rfl hl.1 rfl (lv_room (Nat.le_of_ble_eq_true rfl)) dL_law_116 ⟨by show _ ≤ 1000; omega, by show _ ≤ 8000; omega⟩) (fun r10 qr10 => ?_)
    obtain rfl : r10 = 0 := qr10.trans (by decide +kernel)
    refine lv_aload_n hx hb dL_law_119 rfl (lv_at hl 4 rfl) ?_
    refine vp_callSi (W.runV (As := []) (rest := [.int 0]) ⟨hx, hb, hml, hown, hts⟩ (c0_paid l D h2 cA M0 ok0) (cwV 0 hts gL_law_X0_paid rfl rfl rfl (by decide +kernel) ⟨Nat.le_of_ble_eq_true rfl, Nat.le_of_ble_eq_true rfl⟩) ⟨pR_fb, va_recv hK hP (ci := 0) (q0 := 12) rfl rfl, pR_mk (p_right hP) hK⟩ rfl rfl hl.1 rfl (lv_room (Nat.le_of_ble_eq_true rfl)) dL_law_120 ⟨by show _ ≤ 1000; omega, by show _ ≤ 8000; omega⟩) (fun r11 qr11 => ?_)
    obtain rfl : r11 = 0 := qr11.trans (by decide +kernel)
    refine lv_icmp_ne (tgt := 137) hx hb dL_law_123 (by decide) (fun z => absurd z (by decide +kernel)) (fun _ => ?_)
    refine lv_aload_n hx hb dL_law_126 rfl (lv_at hl 4 rfl) ?_
    refine vp_callSi (W.runS (As := [.ref (h2 0)]) (rest := []) ⟨hx, hb, hml, hown, hts⟩ (eL_holds l D h2 cA) (va_cwS 1 hts gL_law_L_holds rfl rfl rfl (by decide +kernel) ⟨Nat.le_of_ble_eq_true rfl, Nat.le_of_ble_eq_true rfl⟩) ⟨pR_fb, pR_mk (p_right hP) hK⟩ rfl rfl hl.1 rfl (lv_room (Nat.le_of_ble_eq_true rfl)) dL_law_127 ⟨by show _ ≤ 1000; omega, by show _ ≤ 8000; omega⟩) (fun r12 qr12 => ?_)
    obtain rfl : r12 = 1 := qr12
    refine lv_if_eq (tgt := 137) hx hb dL_law_130 (by decide) (fun z => absurd z (by decide +kernel)) (fun _ => ?_)
    refine lv_iconst (v := 1) hx hb dL_law_133 (by decide) ?_
    refine lv_goto (tgt := 138) hx hb dL_law_134 (by decide) ?_
    refine lv_istore (lv' := [(4, .int 1), (6, .int 11), (5, .int (nI t)), (0, .ref b), (1, .ref (h1 0)), (2, .ref (h2 0)), (3, .int (nI 16))]) hx hb dL_law_138 hl (by decide) rfl (fun ls hl => ?_)
    refine lv_iinc (v := nI (t + 1)) (lv' := [(5, .int (nI (t + 1))), (4, .int 1), (6, .int 11), (0, .ref b), (1, .ref (h1 0)), (2, .ref (h2 0)), (3, .int (nI 16))]) hx hb dL_law_140 hl (k := 2) rfl (by rw [show Int32.ofInt 1 = nI 1 from by decide, nI_add]) (by decide) rfl (fun ls hl => ?_)
    refine lv_goto (tgt := 34) hx hb dL_law_143 (by decide) ?_
    exact ih (t + 1) _ _ (by omega) (by omega) (by omega) H locs ls hP hS (by omega) (lv_sub hl [0, 3, 4, 5, 6, 1] rfl)
