/-! THE LAW: more of its cases -/
set_option maxHeartbeats 4000000 in
set_option maxRecDepth 100000 in
theorem law_16_applications {p : Program} {l : Launch} {e : Env} {s : State} {m : MethodId} {below : List Frame} {meth : Method} {c : Code} {b L : Nat} {xs : Nat → Int32} {D : va_G} {h0 h1 : Nat → Nat} {cA cL : ClassId} {ao t : Nat} {Q : State → Prop} {cells slots : Nat} (C : lw_C p l s m c b L xs D cA cL) (hc : cells + 1 ≤ 1063) (hs : slots + 6 ≤ 9965) (ht : 3 * t + 3 ≤ L) (kk : lw_N p l e s m below meth c b D h0 h1 cA cL ao t (cells + 1) (slots + 6) Q) : lw_I p l e s m below meth c b D h0 h1 cA cL ao t cells slots Q 945 := by
  intro g rf M H locs ls hI hP hD hS hl
  obtain ⟨hx, hb, hml, hown, hts, hX, hbl, hlt, hE, hZ, hN, hK, hL⟩ := C
  have hA : ∀ q : Nat, s.heap.size ≤ q → (fun q : Nat => s.heap.size ≤ q) q := fun _ h => h
  have hbA : ¬ (fun q : Nat => s.heap.size ≤ q) b := Nat.not_le.mpr hbl
  have hcs0 : cells + 0 ≤ room_1.cells ∧ slots + 0 ≤ room_1.slots := ⟨show cells + 0 ≤ 1063 by omega, show slots + 0 ≤ 9965 by omega⟩
  have hcs1 : cells + 1 ≤ room_1.cells ∧ slots + 6 ≤ room_1.slots := ⟨hc, hs⟩
  have hcs2 : cells + 1 + 0 ≤ room_1.cells ∧ slots + 6 + 0 ≤ room_1.slots := ⟨hc, hs⟩
  refine W.widen (k := cells + 1) (n := slots + 6) (by omega) (by omega) ?_
  refine lv_aload_n hx hb dL_law_945 rfl (lv_at hl 2 rfl) ?_
  refine vp_callSi (W.runV (As := []) (rest := []) ⟨hx, hb, hml, hown, hts⟩ (c0_applications l D h0 cA M hI.ok) (cwV 0 hts gL_law_X0_applications rfl rfl rfl (by decide +kernel) ⟨Nat.le_of_ble_eq_true rfl, Nat.le_of_ble_eq_true rfl⟩) ⟨pR_fb, va_recv hK hP (ci := 0) (q0 := 0) rfl rfl, pR_mk (p_left (p_left hP)) (hK.sub [0] rfl)⟩ rfl rfl hl.1 rfl (lv_room (Nat.le_of_ble_eq_true rfl)) dL_law_946 hcs2) (fun r1 q1 => ?_)
  refine lv_aload_n hx hb dL_law_949 rfl (lv_at hl 3 rfl) ?_
  refine g_calliW (wl := w0 h0 cA M ++ wO ao cL g) (wc := w1 h1 cA rf M) (wr := []) (wf := fun u : Int32 × MM => w1 h1 cA u.1 u.2) (va_runV (As := []) (rest := [.int r1]) ⟨hx, hb, hml, hown, hts⟩ (c1_applications l D h1 cA rf M hI.ok1 H.size) (cwV 0 hts gL_law_X1_applications rfl rfl rfl (by decide +kernel) ⟨Nat.le_of_ble_eq_true rfl, Nat.le_of_ble_eq_true rfl⟩) ⟨pW_fb, va_recv hK hP (ci := 1) (q0 := 13) rfl rfl, pW_mk (p_right hP) (hK.sub [0] rfl) (d_right hD)⟩ rfl rfl hl.1 rfl (lv_room (Nat.le_of_ble_eq_true rfl)) dL_law_950 hcs2) (by rw [List.append_nil]) hP hD hS hA (fun r2 u2 H locs q2 hP hD hS => ?_)
  rw [List.append_nil] at hP hD
  obtain ⟨q2, rfl⟩ := q2
  refine lv_icmp_eq (tgt := 1570) hx hb dL_law_953 (by decide) (fun _ => ?_) (fun z => absurd (q1.trans (Eq.trans (rfl) q2.symm)) z)
  exact kk g _ M H locs ls hI hP hD hS hl
set_option maxHeartbeats 4000000 in
set_option maxRecDepth 100000 in
theorem law_17_state {p : Program} {l : Launch} {e : Env} {s : State} {m : MethodId} {below : List Frame} {meth : Method} {c : Code} {b L : Nat} {xs : Nat → Int32} {D : va_G} {h0 h1 : Nat → Nat} {cA cL : ClassId} {ao t : Nat} {Q : State → Prop} {cells slots : Nat} (C : lw_C p l s m c b L xs D cA cL) (hc : cells + 1 ≤ 1063) (hs : slots + 6 ≤ 9965) (ht : 3 * t + 3 ≤ L) (kk : lw_N p l e s m below meth c b D h0 h1 cA cL ao t (cells + 1) (slots + 6) Q) : lw_I p l e s m below meth c b D h0 h1 cA cL ao t cells slots Q 958 := by
  intro g rf M H locs ls hI hP hD hS hl
  obtain ⟨hx, hb, hml, hown, hts, hX, hbl, hlt, hE, hZ, hN, hK, hL⟩ := C
  have hA : ∀ q : Nat, s.heap.size ≤ q → (fun q : Nat => s.heap.size ≤ q) q := fun _ h => h
  have hbA : ¬ (fun q : Nat => s.heap.size ≤ q) b := Nat.not_le.mpr hbl
  have hcs0 : cells + 0 ≤ room_1.cells ∧ slots + 0 ≤ room_1.slots := ⟨show cells + 0 ≤ 1063 by omega, show slots + 0 ≤ 9965 by omega⟩
  have hcs1 : cells + 1 ≤ room_1.cells ∧ slots + 6 ≤ room_1.slots := ⟨hc, hs⟩
  have hcs2 : cells + 1 + 0 ≤ room_1.cells ∧ slots + 6 + 0 ≤ room_1.slots := ⟨hc, hs⟩
  refine lv_aload_n hx hb dL_law_958 rfl (lv_at hl 2 rfl) ?_
  refine lv_aload_n hx hb dL_law_959 rfl (lv_at hl 1 rfl) ?_
  refine lv_iload hx hb dL_law_960 (lv_at hl 0 rfl) ?_
  refine lv_iconst (v := nI 1) hx hb dL_law_962 (by decide) ?_
  refine lv_iadd hx hb dL_law_963 ?_
  refine lw_ld (j := 3 * t) (d := 1) hx hb hX hbl hbA hS (by omega) (by omega) dL_law_964 ?_
  refine lv_aload_n hx hb dL_law_965 rfl (lv_at hl 4 rfl) ?_
  refine g_calliW (wl := []) (wc := w0 h0 cA M ++ wO ao cL g) (wr := w1 h1 cA rf M) (wf := fun u : MM × (Nat → Int64) => w0 h0 cA u.1 ++ wO ao cL u.2) (vx_runSW (As := [.ref (h0 0), .int (xs (3 * t + 1)), .ref ao]) (rest := []) ⟨hx, hb, hml, hown, hts⟩ (eL_state l hlt D h0 cA cL M hI.ok ao g (xs (3 * t + 1)) H.size) (vx_cwSW 3 hts gL_law_L_state rfl rfl rfl (by decide +kernel) ⟨Nat.le_of_ble_eq_true rfl, Nat.le_of_ble_eq_true rfl⟩) ⟨l_fb, l_mk (p_left hP) hK (d_left hD) hE hZ hS hN⟩ rfl rfl hl.1 rfl (lv_room (Nat.le_of_ble_eq_true rfl)) dL_law_966 hcs1) rfl hP hD hS hA (fun r1 u1 H locs q1 hP hD hS => ?_)
  obtain ⟨u1, g1⟩ := u1
  have hP : va_P D vwCl ((w0 h0 cA u1 ++ wO ao cL g1) ++ w1 h1 cA rf M) H := hP
  have hD : va_D (fun q : Nat => s.heap.size ≤ q) ((w0 h0 cA u1 ++ wO ao cL g1) ++ w1 h1 cA rf M) := hD
  refine lv_istore (lv' := [(5, .int r1), (4, .int (nI (3 * t))), (0, .ref b), (1, .ref (h0 0)), (2, .ref (h1 0)), (3, .ref ao)]) hx hb dL_law_969 hl (by decide) rfl (fun ls hl => ?_)
  refine lv_aload_n hx hb dL_law_971 rfl (lv_at hl 4 rfl) ?_
  refine lv_aload_n hx hb dL_law_972 rfl (lv_at hl 2 rfl) ?_
  refine lv_iload hx hb dL_law_973 (lv_at hl 1 rfl) ?_
  refine lv_iconst (v := nI 1) hx hb dL_law_975 (by decide) ?_
  refine lv_iadd hx hb dL_law_976 ?_
  refine lw_ld (j := 3 * t) (d := 1) hx hb hX hbl hbA hS (by omega) (by omega) dL_law_977 ?_
  refine g_calliW (wl := w0 h0 cA u1 ++ wO ao cL g1) (wc := w1 h1 cA rf M) (wr := []) (wf := fun u : Int32 × MM => w1 h1 cA u.1 u.2) (va_runV (As := [.int (xs (3 * t + 1))]) (rest := []) ⟨hx, hb, hml, hown, hts⟩ (c1_state l D h1 cA rf M hI.ok1 (xs (3 * t + 1)) H.size) (cwV 1 hts gL_law_X1_state rfl rfl rfl (by decide +kernel) ⟨Nat.le_of_ble_eq_true rfl, Nat.le_of_ble_eq_true rfl⟩) ⟨pW_fb, va_recv hK hP (ci := 1) (q0 := 13) rfl rfl, pW_mk (p_right hP) (hK.sub [0] rfl) (d_right hD)⟩ rfl rfl hl.1 rfl (lv_room (Nat.le_of_ble_eq_true rfl)) dL_law_978 hcs2) (by rw [List.append_nil]) hP hD hS hA (fun r2 u2 H locs q2 hP hD hS => ?_)
  rw [List.append_nil] at hP hD
  obtain ⟨f2, u2⟩ := u2
  obtain ⟨N, hIN, e0, e1, ef, eg⟩ := lw_fin (s_row hI (m_an M) (m_as M) (xs (3 * t + 1))) q1 q2
  have hP : va_P D vwCl ((w0 h0 cA N ++ wO ao cL g1) ++ w1 h1 cA f2 N) H := by rw [← e0 h0 cA, ← e1 h1 cA f2]; exact hP
  have hD : va_D (fun q : Nat => s.heap.size ≤ q) ((w0 h0 cA N ++ wO ao cL g1) ++ w1 h1 cA f2 N) := by rw [← e0 h0 cA, ← e1 h1 cA f2]; exact hD
  refine lv_istore (lv' := [(6, .int r2), (5, .int r1), (4, .int (nI (3 * t))), (0, .ref b), (1, .ref (h0 0)), (2, .ref (h1 0)), (3, .ref ao)]) hx hb dL_law_981 hl (by decide) rfl (fun ls hl => ?_)
  refine lv_aload_n hx hb dL_law_983 rfl (lv_at hl 5 rfl) ?_
  refine vp_callSi (W.runV (As := []) (rest := []) ⟨hx, hb, hml, hown, hts⟩ (c1_thrown l D h1 cA f2 N hIN.ok1) (cwV 0 hts gL_law_X1_thrown rfl rfl rfl (by decide +kernel) ⟨Nat.le_of_ble_eq_true rfl, Nat.le_of_ble_eq_true rfl⟩) ⟨pR_fb, va_recv hK hP (ci := 1) (q0 := 13) rfl rfl, pR_mk (p_right hP) (hK.sub [0] rfl)⟩ rfl rfl hl.1 rfl (lv_room (Nat.le_of_ble_eq_true rfl)) dL_law_984 hcs2) (fun r3 q3 => ?_)
  subst q3
  refine lv_iload hx hb dL_law_987 (lv_at hl 1 rfl) ?_
  refine lv_icmp_eq (tgt := 994) hx hb dL_law_989 (by decide) (fun _ => ?_) (fun z => absurd ef z)
  refine lv_iload hx hb dL_law_994 (lv_at hl 1 rfl) ?_
  refine lv_if_ne (tgt := 1011) hx hb dL_law_996 (by decide) (fun _ => ?_) (fun z => ?_)
  · refine lv_goto (tgt := 1570) hx hb dL_law_1011 (by decide) ?_
    exact kk g1 _ N H locs ls hIN hP hD hS (lv_sub hl [2, 3, 4, 5, 6] rfl)
  · refine lv_aload_n hx hb dL_law_999 rfl (lv_at hl 6 rfl) ?_
    refine lv_iconst (v := 0) hx hb dL_law_1000 (by decide) ?_
    refine va_lald (f := g1) hx hb hK hP 12 1 rfl rfl (vp_in_nI (n := 0) (N := 1) (by decide) (by decide)) dL_law_1001 ?_
    refine lv_iload hx hb dL_law_1002 (lv_at hl 0 rfl) ?_
    refine lv_i2l (v := r2.toInt64) hx hb dL_law_1004 rfl ?_
    refine W.lcmp hx hb dL_law_1005 ?_
    refine lv_if_eq (tgt := 1011) hx hb dL_law_1006 (by decide) (fun _ => ?_) (fun c9 => absurd (eg z) (k_cne c9))
    refine lv_goto (tgt := 1570) hx hb dL_law_1011 (by decide) ?_
    exact kk g1 _ N H locs ls hIN hP hD hS (lv_sub hl [2, 3, 4, 5, 6] rfl)
set_option maxHeartbeats 4000000 in
set_option maxRecDepth 100000 in
theorem law_18_amount {p : Program} {l : Launch} {e : Env} {s : State} {m : MethodId} {below : List Frame} {meth : Method} {c : Code} {b L : Nat} {xs : Nat → Int32} {D : va_G} {h0 h1 : Nat → Nat} {cA cL : ClassId} {ao t : Nat} {Q : State → Prop} {cells slots : Nat} (C : lw_C p l s m c b L xs D cA cL) (hc : cells + 1 ≤ 1063) (hs : slots + 6 ≤ 9965) (ht : 3 * t + 3 ≤ L) (kk : lw_N p l e s m below meth c b D h0 h1 cA cL ao t (cells + 1) (slots + 6) Q) : lw_I p l e s m below meth c b D h0 h1 cA cL ao t cells slots Q 1014 := by
  intro g rf M H locs ls hI hP hD hS hl
  obtain ⟨hx, hb, hml, hown, hts, hX, hbl, hlt, hE, hZ, hN, hK, hL⟩ := C
  have hA : ∀ q : Nat, s.heap.size ≤ q → (fun q : Nat => s.heap.size ≤ q) q := fun _ h => h
  have hbA : ¬ (fun q : Nat => s.heap.size ≤ q) b := Nat.not_le.mpr hbl
  have hcs0 : cells + 0 ≤ room_1.cells ∧ slots + 0 ≤ room_1.slots := ⟨show cells + 0 ≤ 1063 by omega, show slots + 0 ≤ 9965 by omega⟩
  have hcs1 : cells + 1 ≤ room_1.cells ∧ slots + 6 ≤ room_1.slots := ⟨hc, hs⟩
  have hcs2 : cells + 1 + 0 ≤ room_1.cells ∧ slots + 6 + 0 ≤ room_1.slots := ⟨hc, hs⟩
  refine lv_aload_n hx hb dL_law_1014 rfl (lv_at hl 2 rfl) ?_
  refine lv_aload_n hx hb dL_law_1015 rfl (lv_at hl 1 rfl) ?_
  refine lv_iload hx hb dL_law_1016 (lv_at hl 0 rfl) ?_
  refine lv_iconst (v := nI 1) hx hb dL_law_1018 (by decide) ?_
  refine lv_iadd hx hb dL_law_1019 ?_
  refine lw_ld (j := 3 * t) (d := 1) hx hb hX hbl hbA hS (by omega) (by omega) dL_law_1020 ?_
  refine lv_aload_n hx hb dL_law_1021 rfl (lv_at hl 4 rfl) ?_
  refine g_calliW (wl := []) (wc := w0 h0 cA M ++ wO ao cL g) (wr := w1 h1 cA rf M) (wf := fun u : MM × (Nat → Int64) => w0 h0 cA u.1 ++ wO ao cL u.2) (vx_runSW (As := [.ref (h0 0), .int (xs (3 * t + 1)), .ref ao]) (rest := []) ⟨hx, hb, hml, hown, hts⟩ (eL_amount l hlt D h0 cA cL M hI.ok ao g (xs (3 * t + 1)) H.size) (vx_cwSW 3 hts gL_law_L_amount rfl rfl rfl (by decide +kernel) ⟨Nat.le_of_ble_eq_true rfl, Nat.le_of_ble_eq_true rfl⟩) ⟨l_fb, l_mk (p_left hP) hK (d_left hD) hE hZ hS hN⟩ rfl rfl hl.1 rfl (lv_room (Nat.le_of_ble_eq_true rfl)) dL_law_1022 hcs1) rfl hP hD hS hA (fun r1 u1 H locs q1 hP hD hS => ?_)
  obtain ⟨u1, g1⟩ := u1
  have hP : va_P D vwCl ((w0 h0 cA u1 ++ wO ao cL g1) ++ w1 h1 cA rf M) H := hP
  have hD : va_D (fun q : Nat => s.heap.size ≤ q) ((w0 h0 cA u1 ++ wO ao cL g1) ++ w1 h1 cA rf M) := hD
  refine lv_istore (lv' := [(5, .int r1), (4, .int (nI (3 * t))), (0, .ref b), (1, .ref (h0 0)), (2, .ref (h1 0)), (3, .ref ao)]) hx hb dL_law_1025 hl (by decide) rfl (fun ls hl => ?_)
  refine lv_aload_n hx hb dL_law_1027 rfl (lv_at hl 4 rfl) ?_
  refine lv_aload_n hx hb dL_law_1028 rfl (lv_at hl 2 rfl) ?_
  refine lv_iload hx hb dL_law_1029 (lv_at hl 1 rfl) ?_
  refine lv_iconst (v := nI 1) hx hb dL_law_1031 (by decide) ?_
  refine lv_iadd hx hb dL_law_1032 ?_
  refine lw_ld (j := 3 * t) (d := 1) hx hb hX hbl hbA hS (by omega) (by omega) dL_law_1033 ?_
  refine g_calliW (wl := w0 h0 cA u1 ++ wO ao cL g1) (wc := w1 h1 cA rf M) (wr := []) (wf := fun u : Int32 × MM => w1 h1 cA u.1 u.2) (va_runV (As := [.int (xs (3 * t + 1))]) (rest := []) ⟨hx, hb, hml, hown, hts⟩ (c1_amount l D h1 cA rf M hI.ok1 (xs (3 * t + 1)) H.size) (cwV 1 hts gL_law_X1_amount rfl rfl rfl (by decide +kernel) ⟨Nat.le_of_ble_eq_true rfl, Nat.le_of_ble_eq_true rfl⟩) ⟨pW_fb, va_recv hK hP (ci := 1) (q0 := 13) rfl rfl, pW_mk (p_right hP) (hK.sub [0] rfl) (d_right hD)⟩ rfl rfl hl.1 rfl (lv_room (Nat.le_of_ble_eq_true rfl)) dL_law_1034 hcs2) (by rw [List.append_nil]) hP hD hS hA (fun r2 u2 H locs q2 hP hD hS => ?_)
  rw [List.append_nil] at hP hD
  obtain ⟨f2, u2⟩ := u2
  obtain ⟨N, hIN, e0, e1, ef, eg⟩ := lw_fin (s_row hI (m_an M) (m_aa M) (xs (3 * t + 1))) q1 q2
  have hP : va_P D vwCl ((w0 h0 cA N ++ wO ao cL g1) ++ w1 h1 cA f2 N) H := by rw [← e0 h0 cA, ← e1 h1 cA f2]; exact hP
  have hD : va_D (fun q : Nat => s.heap.size ≤ q) ((w0 h0 cA N ++ wO ao cL g1) ++ w1 h1 cA f2 N) := by rw [← e0 h0 cA, ← e1 h1 cA f2]; exact hD
  refine lv_istore (lv' := [(6, .int r2), (5, .int r1), (4, .int (nI (3 * t))), (0, .ref b), (1, .ref (h0 0)), (2, .ref (h1 0)), (3, .ref ao)]) hx hb dL_law_1037 hl (by decide) rfl (fun ls hl => ?_)
  refine lv_aload_n hx hb dL_law_1039 rfl (lv_at hl 5 rfl) ?_
  refine vp_callSi (W.runV (As := []) (rest := []) ⟨hx, hb, hml, hown, hts⟩ (c1_thrown l D h1 cA f2 N hIN.ok1) (cwV 0 hts gL_law_X1_thrown rfl rfl rfl (by decide +kernel) ⟨Nat.le_of_ble_eq_true rfl, Nat.le_of_ble_eq_true rfl⟩) ⟨pR_fb, va_recv hK hP (ci := 1) (q0 := 13) rfl rfl, pR_mk (p_right hP) (hK.sub [0] rfl)⟩ rfl rfl hl.1 rfl (lv_room (Nat.le_of_ble_eq_true rfl)) dL_law_1040 hcs2) (fun r3 q3 => ?_)
  subst q3
  refine lv_iload hx hb dL_law_1043 (lv_at hl 1 rfl) ?_
  refine lv_icmp_eq (tgt := 1050) hx hb dL_law_1045 (by decide) (fun _ => ?_) (fun z => absurd ef z)
  refine lv_iload hx hb dL_law_1050 (lv_at hl 1 rfl) ?_
  refine lv_if_ne (tgt := 1067) hx hb dL_law_1052 (by decide) (fun _ => ?_) (fun z => ?_)
  · refine lv_goto (tgt := 1570) hx hb dL_law_1067 (by decide) ?_
    exact kk g1 _ N H locs ls hIN hP hD hS (lv_sub hl [2, 3, 4, 5, 6] rfl)
  · refine lv_aload_n hx hb dL_law_1055 rfl (lv_at hl 6 rfl) ?_
    refine lv_iconst (v := 0) hx hb dL_law_1056 (by decide) ?_
    refine va_lald (f := g1) hx hb hK hP 12 1 rfl rfl (vp_in_nI (n := 0) (N := 1) (by decide) (by decide)) dL_law_1057 ?_
    refine lv_iload hx hb dL_law_1058 (lv_at hl 0 rfl) ?_
    refine lv_i2l (v := r2.toInt64) hx hb dL_law_1060 rfl ?_
    refine W.lcmp hx hb dL_law_1061 ?_
    refine lv_if_eq (tgt := 1067) hx hb dL_law_1062 (by decide) (fun _ => ?_) (fun c9 => absurd (eg z) (k_cne c9))
    refine lv_goto (tgt := 1570) hx hb dL_law_1067 (by decide) ?_
    exact kk g1 _ N H locs ls hIN hP hD hS (lv_sub hl [2, 3, 4, 5, 6] rfl)
set_option maxHeartbeats 4000000 in
set_option maxRecDepth 100000 in
theorem law_19_billedBehind {p : Program} {l : Launch} {e : Env} {s : State} {m : MethodId} {below : List Frame} {meth : Method} {c : Code} {b L : Nat} {xs : Nat → Int32} {D : va_G} {h0 h1 : Nat → Nat} {cA cL : ClassId} {ao t : Nat} {Q : State → Prop} {cells slots : Nat} (C : lw_C p l s m c b L xs D cA cL) (hc : cells + 1 ≤ 1063) (hs : slots + 6 ≤ 9965) (ht : 3 * t + 3 ≤ L) (kk : lw_N p l e s m below meth c b D h0 h1 cA cL ao t (cells + 1) (slots + 6) Q) : lw_I p l e s m below meth c b D h0 h1 cA cL ao t cells slots Q 1070 := by
  intro g rf M H locs ls hI hP hD hS hl
  obtain ⟨hx, hb, hml, hown, hts, hX, hbl, hlt, hE, hZ, hN, hK, hL⟩ := C
  have hA : ∀ q : Nat, s.heap.size ≤ q → (fun q : Nat => s.heap.size ≤ q) q := fun _ h => h
  have hbA : ¬ (fun q : Nat => s.heap.size ≤ q) b := Nat.not_le.mpr hbl
  have hcs0 : cells + 0 ≤ room_1.cells ∧ slots + 0 ≤ room_1.slots := ⟨show cells + 0 ≤ 1063 by omega, show slots + 0 ≤ 9965 by omega⟩
  have hcs1 : cells + 1 ≤ room_1.cells ∧ slots + 6 ≤ room_1.slots := ⟨hc, hs⟩
  have hcs2 : cells + 1 + 0 ≤ room_1.cells ∧ slots + 6 + 0 ≤ room_1.slots := ⟨hc, hs⟩
  refine lv_aload_n hx hb dL_law_1070 rfl (lv_at hl 2 rfl) ?_
  refine lv_aload_n hx hb dL_law_1071 rfl (lv_at hl 1 rfl) ?_
  refine lv_iload hx hb dL_law_1072 (lv_at hl 0 rfl) ?_
  refine lv_iconst (v := nI 1) hx hb dL_law_1074 (by decide) ?_
  refine lv_iadd hx hb dL_law_1075 ?_
  refine lw_ld (j := 3 * t) (d := 1) hx hb hX hbl hbA hS (by omega) (by omega) dL_law_1076 ?_
  refine lv_aload_n hx hb dL_law_1077 rfl (lv_at hl 4 rfl) ?_
  refine g_calliW (wl := []) (wc := w0 h0 cA M ++ wO ao cL g) (wr := w1 h1 cA rf M) (wf := fun u : MM × (Nat → Int64) => w0 h0 cA u.1 ++ wO ao cL u.2) (vx_runSW (As := [.ref (h0 0), .int (xs (3 * t + 1)), .ref ao]) (rest := []) ⟨hx, hb, hml, hown, hts⟩ (eL_billedBehind l hlt D h0 cA cL M hI.ok ao g (xs (3 * t + 1)) H.size) (vx_cwSW 3 hts gL_law_L_billedBehind rfl rfl rfl (by decide +kernel) ⟨Nat.le_of_ble_eq_true rfl, Nat.le_of_ble_eq_true rfl⟩) ⟨l_fb, l_mk (p_left hP) hK (d_left hD) hE hZ hS hN⟩ rfl rfl hl.1 rfl (lv_room (Nat.le_of_ble_eq_true rfl)) dL_law_1078 hcs1) rfl hP hD hS hA (fun r1 u1 H locs q1 hP hD hS => ?_)
  obtain ⟨u1, g1⟩ := u1
  have hP : va_P D vwCl ((w0 h0 cA u1 ++ wO ao cL g1) ++ w1 h1 cA rf M) H := hP
  have hD : va_D (fun q : Nat => s.heap.size ≤ q) ((w0 h0 cA u1 ++ wO ao cL g1) ++ w1 h1 cA rf M) := hD
  refine lv_istore (lv' := [(5, .int r1), (4, .int (nI (3 * t))), (0, .ref b), (1, .ref (h0 0)), (2, .ref (h1 0)), (3, .ref ao)]) hx hb dL_law_1081 hl (by decide) rfl (fun ls hl => ?_)
  refine lv_aload_n hx hb dL_law_1083 rfl (lv_at hl 4 rfl) ?_
  refine lv_aload_n hx hb dL_law_1084 rfl (lv_at hl 2 rfl) ?_
  refine lv_iload hx hb dL_law_1085 (lv_at hl 1 rfl) ?_
  refine lv_iconst (v := nI 1) hx hb dL_law_1087 (by decide) ?_
  refine lv_iadd hx hb dL_law_1088 ?_
  refine lw_ld (j := 3 * t) (d := 1) hx hb hX hbl hbA hS (by omega) (by omega) dL_law_1089 ?_
  refine g_calliW (wl := w0 h0 cA u1 ++ wO ao cL g1) (wc := w1 h1 cA rf M) (wr := []) (wf := fun u : Int32 × MM => w1 h1 cA u.1 u.2) (va_runV (As := [.int (xs (3 * t + 1))]) (rest := []) ⟨hx, hb, hml, hown, hts⟩ (c1_billedBehind l D h1 cA rf M hI.ok1 (xs (3 * t + 1)) H.size) (cwV 1 hts gL_law_X1_billedBehind rfl rfl rfl (by decide +kernel) ⟨Nat.le_of_ble_eq_true rfl, Nat.le_of_ble_eq_true rfl⟩) ⟨pW_fb, va_recv hK hP (ci := 1) (q0 := 13) rfl rfl, pW_mk (p_right hP) (hK.sub [0] rfl) (d_right hD)⟩ rfl rfl hl.1 rfl (lv_room (Nat.le_of_ble_eq_true rfl)) dL_law_1090 hcs2) (by rw [List.append_nil]) hP hD hS hA (fun r2 u2 H locs q2 hP hD hS => ?_)
  rw [List.append_nil] at hP hD
  obtain ⟨f2, u2⟩ := u2
  obtain ⟨N, hIN, e0, e1, ef, eg⟩ := lw_fin (s_row hI (m_an M) (m_ab M) (xs (3 * t + 1))) q1 q2
  have hP : va_P D vwCl ((w0 h0 cA N ++ wO ao cL g1) ++ w1 h1 cA f2 N) H := by rw [← e0 h0 cA, ← e1 h1 cA f2]; exact hP
  have hD : va_D (fun q : Nat => s.heap.size ≤ q) ((w0 h0 cA N ++ wO ao cL g1) ++ w1 h1 cA f2 N) := by rw [← e0 h0 cA, ← e1 h1 cA f2]; exact hD
  refine lv_istore (lv' := [(6, .int r2), (5, .int r1), (4, .int (nI (3 * t))), (0, .ref b), (1, .ref (h0 0)), (2, .ref (h1 0)), (3, .ref ao)]) hx hb dL_law_1093 hl (by decide) rfl (fun ls hl => ?_)
  refine lv_aload_n hx hb dL_law_1095 rfl (lv_at hl 5 rfl) ?_
  refine vp_callSi (W.runV (As := []) (rest := []) ⟨hx, hb, hml, hown, hts⟩ (c1_thrown l D h1 cA f2 N hIN.ok1) (cwV 0 hts gL_law_X1_thrown rfl rfl rfl (by decide +kernel) ⟨Nat.le_of_ble_eq_true rfl, Nat.le_of_ble_eq_true rfl⟩) ⟨pR_fb, va_recv hK hP (ci := 1) (q0 := 13) rfl rfl, pR_mk (p_right hP) (hK.sub [0] rfl)⟩ rfl rfl hl.1 rfl (lv_room (Nat.le_of_ble_eq_true rfl)) dL_law_1096 hcs2) (fun r3 q3 => ?_)
  subst q3
  refine lv_iload hx hb dL_law_1099 (lv_at hl 1 rfl) ?_
  refine lv_icmp_eq (tgt := 1106) hx hb dL_law_1101 (by decide) (fun _ => ?_) (fun z => absurd ef z)
  refine lv_iload hx hb dL_law_1106 (lv_at hl 1 rfl) ?_
  refine lv_if_ne (tgt := 1123) hx hb dL_law_1108 (by decide) (fun _ => ?_) (fun z => ?_)
  · refine lv_goto (tgt := 1570) hx hb dL_law_1123 (by decide) ?_
    exact kk g1 _ N H locs ls hIN hP hD hS (lv_sub hl [2, 3, 4, 5, 6] rfl)
  · refine lv_aload_n hx hb dL_law_1111 rfl (lv_at hl 6 rfl) ?_
    refine lv_iconst (v := 0) hx hb dL_law_1112 (by decide) ?_
    refine va_lald (f := g1) hx hb hK hP 12 1 rfl rfl (vp_in_nI (n := 0) (N := 1) (by decide) (by decide)) dL_law_1113 ?_
    refine lv_iload hx hb dL_law_1114 (lv_at hl 0 rfl) ?_
    refine lv_i2l (v := r2.toInt64) hx hb dL_law_1116 rfl ?_
    refine W.lcmp hx hb dL_law_1117 ?_
    refine lv_if_eq (tgt := 1123) hx hb dL_law_1118 (by decide) (fun _ => ?_) (fun c9 => absurd (eg z) (k_cne c9))
    refine lv_goto (tgt := 1570) hx hb dL_law_1123 (by decide) ?_
    exact kk g1 _ N H locs ls hIN hP hD hS (lv_sub hl [2, 3, 4, 5, 6] rfl)
set_option maxHeartbeats 4000000 in
set_option maxRecDepth 100000 in
theorem law_20_heldBehind {p : Program} {l : Launch} {e : Env} {s : State} {m : MethodId} {below : List Frame} {meth : Method} {c : Code} {b L : Nat} {xs : Nat → Int32} {D : va_G} {h0 h1 : Nat → Nat} {cA cL : ClassId} {ao t : Nat} {Q : State → Prop} {cells slots : Nat} (C : lw_C p l s m c b L xs D cA cL) (hc : cells + 1 ≤ 1063) (hs : slots + 6 ≤ 9965) (ht : 3 * t + 3 ≤ L) (kk : lw_N p l e s m below meth c b D h0 h1 cA cL ao t (cells + 1) (slots + 6) Q) : lw_I p l e s m below meth c b D h0 h1 cA cL ao t cells slots Q 1126 := by
  intro g rf M H locs ls hI hP hD hS hl
  obtain ⟨hx, hb, hml, hown, hts, hX, hbl, hlt, hE, hZ, hN, hK, hL⟩ := C
  have hA : ∀ q : Nat, s.heap.size ≤ q → (fun q : Nat => s.heap.size ≤ q) q := fun _ h => h
  have hbA : ¬ (fun q : Nat => s.heap.size ≤ q) b := Nat.not_le.mpr hbl
  have hcs0 : cells + 0 ≤ room_1.cells ∧ slots + 0 ≤ room_1.slots := ⟨show cells + 0 ≤ 1063 by omega, show slots + 0 ≤ 9965 by omega⟩
  have hcs1 : cells + 1 ≤ room_1.cells ∧ slots + 6 ≤ room_1.slots := ⟨hc, hs⟩
  have hcs2 : cells + 1 + 0 ≤ room_1.cells ∧ slots + 6 + 0 ≤ room_1.slots := ⟨hc, hs⟩
  refine lv_aload_n hx hb dL_law_1126 rfl (lv_at hl 2 rfl) ?_
  refine lv_aload_n hx hb dL_law_1127 rfl (lv_at hl 1 rfl) ?_
  refine lv_iload hx hb dL_law_1128 (lv_at hl 0 rfl) ?_
  refine lv_iconst (v := nI 1) hx hb dL_law_1130 (by decide) ?_
  refine lv_iadd hx hb dL_law_1131 ?_
  refine lw_ld (j := 3 * t) (d := 1) hx hb hX hbl hbA hS (by omega) (by omega) dL_law_1132 ?_
  refine lv_aload_n hx hb dL_law_1133 rfl (lv_at hl 4 rfl) ?_
  refine g_calliW (wl := []) (wc := w0 h0 cA M ++ wO ao cL g) (wr := w1 h1 cA rf M) (wf := fun u : MM × (Nat → Int64) => w0 h0 cA u.1 ++ wO ao cL u.2) (vx_runSW (As := [.ref (h0 0), .int (xs (3 * t + 1)), .ref ao]) (rest := []) ⟨hx, hb, hml, hown, hts⟩ (eL_heldBehind l hlt D h0 cA cL M hI.ok ao g (xs (3 * t + 1)) H.size) (vx_cwSW 3 hts gL_law_L_heldBehind rfl rfl rfl (by decide +kernel) ⟨Nat.le_of_ble_eq_true rfl, Nat.le_of_ble_eq_true rfl⟩) ⟨l_fb, l_mk (p_left hP) hK (d_left hD) hE hZ hS hN⟩ rfl rfl hl.1 rfl (lv_room (Nat.le_of_ble_eq_true rfl)) dL_law_1134 hcs1) rfl hP hD hS hA (fun r1 u1 H locs q1 hP hD hS => ?_)
  obtain ⟨u1, g1⟩ := u1
  have hP : va_P D vwCl ((w0 h0 cA u1 ++ wO ao cL g1) ++ w1 h1 cA rf M) H := hP
  have hD : va_D (fun q : Nat => s.heap.size ≤ q) ((w0 h0 cA u1 ++ wO ao cL g1) ++ w1 h1 cA rf M) := hD
  refine lv_istore (lv' := [(5, .int r1), (4, .int (nI (3 * t))), (0, .ref b), (1, .ref (h0 0)), (2, .ref (h1 0)), (3, .ref ao)]) hx hb dL_law_1137 hl (by decide) rfl (fun ls hl => ?_)
  refine lv_aload_n hx hb dL_law_1139 rfl (lv_at hl 4 rfl) ?_
  refine lv_aload_n hx hb dL_law_1140 rfl (lv_at hl 2 rfl) ?_
  refine lv_iload hx hb dL_law_1141 (lv_at hl 1 rfl) ?_
  refine lv_iconst (v := nI 1) hx hb dL_law_1143 (by decide) ?_
  refine lv_iadd hx hb dL_law_1144 ?_
  refine lw_ld (j := 3 * t) (d := 1) hx hb hX hbl hbA hS (by omega) (by omega) dL_law_1145 ?_
  refine g_calliW (wl := w0 h0 cA u1 ++ wO ao cL g1) (wc := w1 h1 cA rf M) (wr := []) (wf := fun u : Int32 × MM => w1 h1 cA u.1 u.2) (va_runV (As := [.int (xs (3 * t + 1))]) (rest := []) ⟨hx, hb, hml, hown, hts⟩ (c1_heldBehind l D h1 cA rf M hI.ok1 (xs (3 * t + 1)) H.size) (cwV 1 hts gL_law_X1_heldBehind rfl rfl rfl (by decide +kernel) ⟨Nat.le_of_ble_eq_true rfl, Nat.le_of_ble_eq_true rfl⟩) ⟨pW_fb, va_recv hK hP (ci := 1) (q0 := 13) rfl rfl, pW_mk (p_right hP) (hK.sub [0] rfl) (d_right hD)⟩ rfl rfl hl.1 rfl (lv_room (Nat.le_of_ble_eq_true rfl)) dL_law_1146 hcs2) (by rw [List.append_nil]) hP hD hS hA (fun r2 u2 H locs q2 hP hD hS => ?_)
  rw [List.append_nil] at hP hD
  obtain ⟨f2, u2⟩ := u2
  obtain ⟨N, hIN, e0, e1, ef, eg⟩ := lw_fin (s_row hI (m_an M) (m_ah M) (xs (3 * t + 1))) q1 q2
  have hP : va_P D vwCl ((w0 h0 cA N ++ wO ao cL g1) ++ w1 h1 cA f2 N) H := by rw [← e0 h0 cA, ← e1 h1 cA f2]; exact hP
  have hD : va_D (fun q : Nat => s.heap.size ≤ q) ((w0 h0 cA N ++ wO ao cL g1) ++ w1 h1 cA f2 N) := by rw [← e0 h0 cA, ← e1 h1 cA f2]; exact hD
  refine lv_istore (lv' := [(6, .int r2), (5, .int r1), (4, .int (nI (3 * t))), (0, .ref b), (1, .ref (h0 0)), (2, .ref (h1 0)), (3, .ref ao)]) hx hb dL_law_1149 hl (by decide) rfl (fun ls hl => ?_)
  refine lv_aload_n hx hb dL_law_1151 rfl (lv_at hl 5 rfl) ?_
  refine vp_callSi (W.runV (As := []) (rest := []) ⟨hx, hb, hml, hown, hts⟩ (c1_thrown l D h1 cA f2 N hIN.ok1) (cwV 0 hts gL_law_X1_thrown rfl rfl rfl (by decide +kernel) ⟨Nat.le_of_ble_eq_true rfl, Nat.le_of_ble_eq_true rfl⟩) ⟨pR_fb, va_recv hK hP (ci := 1) (q0 := 13) rfl rfl, pR_mk (p_right hP) (hK.sub [0] rfl)⟩ rfl rfl hl.1 rfl (lv_room (Nat.le_of_ble_eq_true rfl)) dL_law_1152 hcs2) (fun r3 q3 => ?_)
  subst q3
  refine lv_iload hx hb dL_law_1155 (lv_at hl 1 rfl) ?_
  refine lv_icmp_eq (tgt := 1162) hx hb dL_law_1157 (by decide) (fun _ => ?_) (fun z => absurd ef z)
  refine lv_iload hx hb dL_law_1162 (lv_at hl 1 rfl) ?_
  refine lv_if_ne (tgt := 1179) hx hb dL_law_1164 (by decide) (fun _ => ?_) (fun z => ?_)
  · refine lv_goto (tgt := 1570) hx hb dL_law_1179 (by decide) ?_
    exact kk g1 _ N H locs ls hIN hP hD hS (lv_sub hl [2, 3, 4, 5, 6] rfl)
  · refine lv_aload_n hx hb dL_law_1167 rfl (lv_at hl 6 rfl) ?_
    refine lv_iconst (v := 0) hx hb dL_law_1168 (by decide) ?_
    refine va_lald (f := g1) hx hb hK hP 12 1 rfl rfl (vp_in_nI (n := 0) (N := 1) (by decide) (by decide)) dL_law_1169 ?_
    refine lv_iload hx hb dL_law_1170 (lv_at hl 0 rfl) ?_
    refine lv_i2l (v := r2.toInt64) hx hb dL_law_1172 rfl ?_
    refine W.lcmp hx hb dL_law_1173 ?_
    refine lv_if_eq (tgt := 1179) hx hb dL_law_1174 (by decide) (fun _ => ?_) (fun c9 => absurd (eg z) (k_cne c9))
    refine lv_goto (tgt := 1570) hx hb dL_law_1179 (by decide) ?_
    exact kk g1 _ N H locs ls hIN hP hD hS (lv_sub hl [2, 3, 4, 5, 6] rfl)
set_option maxHeartbeats 4000000 in
set_option maxRecDepth 100000 in
theorem law_21_lines {p : Program} {l : Launch} {e : Env} {s : State} {m : MethodId} {below : List Frame} {meth : Method} {c : Code} {b L : Nat} {xs : Nat → Int32} {D : va_G} {h0 h1 : Nat → Nat} {cA cL : ClassId} {ao t : Nat} {Q : State → Prop} {cells slots : Nat} (C : lw_C p l s m c b L xs D cA cL) (hc : cells + 1 ≤ 1063) (hs : slots + 6 ≤ 9965) (ht : 3 * t + 3 ≤ L) (kk : lw_N p l e s m below meth c b D h0 h1 cA cL ao t (cells + 1) (slots + 6) Q) : lw_I p l e s m below meth c b D h0 h1 cA cL ao t cells slots Q 1182 := by
  intro g rf M H locs ls hI hP hD hS hl
  obtain ⟨hx, hb, hml, hown, hts, hX, hbl, hlt, hE, hZ, hN, hK, hL⟩ := C
  have hA : ∀ q : Nat, s.heap.size ≤ q → (fun q : Nat => s.heap.size ≤ q) q := fun _ h => h
  have hbA : ¬ (fun q : Nat => s.heap.size ≤ q) b := Nat.not_le.mpr hbl
  have hcs0 : cells + 0 ≤ room_1.cells ∧ slots + 0 ≤ room_1.slots := ⟨show cells + 0 ≤ 1063 by omega, show slots + 0 ≤ 9965 by omega⟩
  have hcs1 : cells + 1 ≤ room_1.cells ∧ slots + 6 ≤ room_1.slots := ⟨hc, hs⟩
  have hcs2 : cells + 1 + 0 ≤ room_1.cells ∧ slots + 6 + 0 ≤ room_1.slots := ⟨hc, hs⟩
  refine W.widen (k := cells + 1) (n := slots + 6) (by omega) (by omega) ?_
  refine lv_aload_n hx hb dL_law_1182 rfl (lv_at hl 2 rfl) ?_
  refine vp_callSi (W.runV (As := []) (rest := []) ⟨hx, hb, hml, hown, hts⟩ (c0_lines l D h0 cA M hI.ok) (cwV 0 hts gL_law_X0_lines rfl rfl rfl (by decide +kernel) ⟨Nat.le_of_ble_eq_true rfl, Nat.le_of_ble_eq_true rfl⟩) ⟨pR_fb, va_recv hK hP (ci := 0) (q0 := 0) rfl rfl, pR_mk (p_left (p_left hP)) (hK.sub [0] rfl)⟩ rfl rfl hl.1 rfl (lv_room (Nat.le_of_ble_eq_true rfl)) dL_law_1183 hcs2) (fun r1 q1 => ?_)
  refine lv_aload_n hx hb dL_law_1186 rfl (lv_at hl 3 rfl) ?_
  refine g_calliW (wl := w0 h0 cA M ++ wO ao cL g) (wc := w1 h1 cA rf M) (wr := []) (wf := fun u : Int32 × MM => w1 h1 cA u.1 u.2) (va_runV (As := []) (rest := [.int r1]) ⟨hx, hb, hml, hown, hts⟩ (c1_lines l D h1 cA rf M hI.ok1 H.size) (cwV 0 hts gL_law_X1_lines rfl rfl rfl (by decide +kernel) ⟨Nat.le_of_ble_eq_true rfl, Nat.le_of_ble_eq_true rfl⟩) ⟨pW_fb, va_recv hK hP (ci := 1) (q0 := 13) rfl rfl, pW_mk (p_right hP) (hK.sub [0] rfl) (d_right hD)⟩ rfl rfl hl.1 rfl (lv_room (Nat.le_of_ble_eq_true rfl)) dL_law_1187 hcs2) (by rw [List.append_nil]) hP hD hS hA (fun r2 u2 H locs q2 hP hD hS => ?_)
  rw [List.append_nil] at hP hD
  obtain ⟨q2, rfl⟩ := q2
  refine lv_icmp_eq (tgt := 1570) hx hb dL_law_1190 (by decide) (fun _ => ?_) (fun z => absurd (q1.trans (Eq.trans (rfl) q2.symm)) z)
  exact kk g _ M H locs ls hI hP hD hS hl
set_option maxHeartbeats 4000000 in
set_option maxRecDepth 100000 in
theorem law_22_value {p : Program} {l : Launch} {e : Env} {s : State} {m : MethodId} {below : List Frame} {meth : Method} {c : Code} {b L : Nat} {xs : Nat → Int32} {D : va_G} {h0 h1 : Nat → Nat} {cA cL : ClassId} {ao t : Nat} {Q : State → Prop} {cells slots : Nat} (C : lw_C p l s m c b L xs D cA cL) (hc : cells + 1 ≤ 1063) (hs : slots + 6 ≤ 9965) (ht : 3 * t + 3 ≤ L) (kk : lw_N p l e s m below meth c b D h0 h1 cA cL ao t (cells + 1) (slots + 6) Q) : lw_I p l e s m below meth c b D h0 h1 cA cL ao t cells slots Q 1195 := by
  intro g rf M H locs ls hI hP hD hS hl
  obtain ⟨hx, hb, hml, hown, hts, hX, hbl, hlt, hE, hZ, hN, hK, hL⟩ := C
  have hA : ∀ q : Nat, s.heap.size ≤ q → (fun q : Nat => s.heap.size ≤ q) q := fun _ h => h
  have hbA : ¬ (fun q : Nat => s.heap.size ≤ q) b := Nat.not_le.mpr hbl
  have hcs0 : cells + 0 ≤ room_1.cells ∧ slots + 0 ≤ room_1.slots := ⟨show cells + 0 ≤ 1063 by omega, show slots + 0 ≤ 9965 by omega⟩
  have hcs1 : cells + 1 ≤ room_1.cells ∧ slots + 6 ≤ room_1.slots := ⟨hc, hs⟩
  have hcs2 : cells + 1 + 0 ≤ room_1.cells ∧ slots + 6 + 0 ≤ room_1.slots := ⟨hc, hs⟩
  refine lv_aload_n hx hb dL_law_1195 rfl (lv_at hl 2 rfl) ?_
  refine lv_aload_n hx hb dL_law_1196 rfl (lv_at hl 1 rfl) ?_
  refine lv_iload hx hb dL_law_1197 (lv_at hl 0 rfl) ?_
  refine lv_iconst (v := nI 1) hx hb dL_law_1199 (by decide) ?_
  refine lv_iadd hx hb dL_law_1200 ?_
  refine lw_ld (j := 3 * t) (d := 1) hx hb hX hbl hbA hS (by omega) (by omega) dL_law_1201 ?_
  refine lv_aload_n hx hb dL_law_1202 rfl (lv_at hl 4 rfl) ?_
  refine g_calliW (wl := []) (wc := w0 h0 cA M ++ wO ao cL g) (wr := w1 h1 cA rf M) (wf := fun u : MM × (Nat → Int64) => w0 h0 cA u.1 ++ wO ao cL u.2) (vx_runSW (As := [.ref (h0 0), .int (xs (3 * t + 1)), .ref ao]) (rest := []) ⟨hx, hb, hml, hown, hts⟩ (eL_value l hlt D h0 cA cL M hI.ok ao g (xs (3 * t + 1)) H.size) (vx_cwSW 3 hts gL_law_L_value rfl rfl rfl (by decide +kernel) ⟨Nat.le_of_ble_eq_true rfl, Nat.le_of_ble_eq_true rfl⟩) ⟨l_fb, l_mk (p_left hP) hK (d_left hD) hE hZ hS hN⟩ rfl rfl hl.1 rfl (lv_room (Nat.le_of_ble_eq_true rfl)) dL_law_1203 hcs1) rfl hP hD hS hA (fun r1 u1 H locs q1 hP hD hS => ?_)
  obtain ⟨u1, g1⟩ := u1
  have hP : va_P D vwCl ((w0 h0 cA u1 ++ wO ao cL g1) ++ w1 h1 cA rf M) H := hP
  have hD : va_D (fun q : Nat => s.heap.size ≤ q) ((w0 h0 cA u1 ++ wO ao cL g1) ++ w1 h1 cA rf M) := hD
  refine lv_istore (lv' := [(5, .int r1), (4, .int (nI (3 * t))), (0, .ref b), (1, .ref (h0 0)), (2, .ref (h1 0)), (3, .ref ao)]) hx hb dL_law_1206 hl (by decide) rfl (fun ls hl => ?_)
  refine lv_aload_n hx hb dL_law_1208 rfl (lv_at hl 4 rfl) ?_
  refine lv_aload_n hx hb dL_law_1209 rfl (lv_at hl 2 rfl) ?_
  refine lv_iload hx hb dL_law_1210 (lv_at hl 1 rfl) ?_
  refine lv_iconst (v := nI 1) hx hb dL_law_1212 (by decide) ?_
  refine lv_iadd hx hb dL_law_1213 ?_
  refine lw_ld (j := 3 * t) (d := 1) hx hb hX hbl hbA hS (by omega) (by omega) dL_law_1214 ?_
  refine g_calliW (wl := w0 h0 cA u1 ++ wO ao cL g1) (wc := w1 h1 cA rf M) (wr := []) (wf := fun u : Int32 × MM => w1 h1 cA u.1 u.2) (va_runV (As := [.int (xs (3 * t + 1))]) (rest := []) ⟨hx, hb, hml, hown, hts⟩ (c1_value l D h1 cA rf M hI.ok1 (xs (3 * t + 1)) H.size) (cwV 1 hts gL_law_X1_value rfl rfl rfl (by decide +kernel) ⟨Nat.le_of_ble_eq_true rfl, Nat.le_of_ble_eq_true rfl⟩) ⟨pW_fb, va_recv hK hP (ci := 1) (q0 := 13) rfl rfl, pW_mk (p_right hP) (hK.sub [0] rfl) (d_right hD)⟩ rfl rfl hl.1 rfl (lv_room (Nat.le_of_ble_eq_true rfl)) dL_law_1215 hcs2) (by rw [List.append_nil]) hP hD hS hA (fun r2 u2 H locs q2 hP hD hS => ?_)
  rw [List.append_nil] at hP hD
  obtain ⟨f2, u2⟩ := u2
  obtain ⟨N, hIN, e0, e1, ef, eg⟩ := lw_fin (s_row hI (m_ln M) (m_lv M) (xs (3 * t + 1))) q1 q2
  have hP : va_P D vwCl ((w0 h0 cA N ++ wO ao cL g1) ++ w1 h1 cA f2 N) H := by rw [← e0 h0 cA, ← e1 h1 cA f2]; exact hP
  have hD : va_D (fun q : Nat => s.heap.size ≤ q) ((w0 h0 cA N ++ wO ao cL g1) ++ w1 h1 cA f2 N) := by rw [← e0 h0 cA, ← e1 h1 cA f2]; exact hD
  refine lv_istore (lv' := [(6, .int r2), (5, .int r1), (4, .int (nI (3 * t))), (0, .ref b), (1, .ref (h0 0)), (2, .ref (h1 0)), (3, .ref ao)]) hx hb dL_law_1218 hl (by decide) rfl (fun ls hl => ?_)
  refine lv_aload_n hx hb dL_law_1220 rfl (lv_at hl 5 rfl) ?_
  refine vp_callSi (W.runV (As := []) (rest := []) ⟨hx, hb, hml, hown, hts⟩ (c1_thrown l D h1 cA f2 N hIN.ok1) (cwV 0 hts gL_law_X1_thrown rfl rfl rfl (by decide +kernel) ⟨Nat.le_of_ble_eq_true rfl, Nat.le_of_ble_eq_true rfl⟩) ⟨pR_fb, va_recv hK hP (ci := 1) (q0 := 13) rfl rfl, pR_mk (p_right hP) (hK.sub [0] rfl)⟩ rfl rfl hl.1 rfl (lv_room (Nat.le_of_ble_eq_true rfl)) dL_law_1221 hcs2) (fun r3 q3 => ?_)
  subst q3
  refine lv_iload hx hb dL_law_1224 (lv_at hl 1 rfl) ?_
  refine lv_icmp_eq (tgt := 1231) hx hb dL_law_1226 (by decide) (fun _ => ?_) (fun z => absurd ef z)
  refine lv_iload hx hb dL_law_1231 (lv_at hl 1 rfl) ?_
  refine lv_if_ne (tgt := 1248) hx hb dL_law_1233 (by decide) (fun _ => ?_) (fun z => ?_)
  · refine lv_goto (tgt := 1570) hx hb dL_law_1248 (by decide) ?_
    exact kk g1 _ N H locs ls hIN hP hD hS (lv_sub hl [2, 3, 4, 5, 6] rfl)
  · refine lv_aload_n hx hb dL_law_1236 rfl (lv_at hl 6 rfl) ?_
    refine lv_iconst (v := 0) hx hb dL_law_1237 (by decide) ?_
    refine va_lald (f := g1) hx hb hK hP 12 1 rfl rfl (vp_in_nI (n := 0) (N := 1) (by decide) (by decide)) dL_law_1238 ?_
    refine lv_iload hx hb dL_law_1239 (lv_at hl 0 rfl) ?_
    refine lv_i2l (v := r2.toInt64) hx hb dL_law_1241 rfl ?_
    refine W.lcmp hx hb dL_law_1242 ?_
    refine lv_if_eq (tgt := 1248) hx hb dL_law_1243 (by decide) (fun _ => ?_) (fun c9 => absurd (eg z) (k_cne c9))
    refine lv_goto (tgt := 1570) hx hb dL_law_1248 (by decide) ?_
    exact kk g1 _ N H locs ls hIN hP hD hS (lv_sub hl [2, 3, 4, 5, 6] rfl)
set_option maxHeartbeats 4000000 in
set_option maxRecDepth 100000 in
theorem law_23_work {p : Program} {l : Launch} {e : Env} {s : State} {m : MethodId} {below : List Frame} {meth : Method} {c : Code} {b L : Nat} {xs : Nat → Int32} {D : va_G} {h0 h1 : Nat → Nat} {cA cL : ClassId} {ao t : Nat} {Q : State → Prop} {cells slots : Nat} (C : lw_C p l s m c b L xs D cA cL) (hc : cells + 1 ≤ 1063) (hs : slots + 6 ≤ 9965) (ht : 3 * t + 3 ≤ L) (kk : lw_N p l e s m below meth c b D h0 h1 cA cL ao t (cells + 1) (slots + 6) Q) : lw_I p l e s m below meth c b D h0 h1 cA cL ao t cells slots Q 1251 := by
  intro g rf M H locs ls hI hP hD hS hl
  obtain ⟨hx, hb, hml, hown, hts, hX, hbl, hlt, hE, hZ, hN, hK, hL⟩ := C
  have hA : ∀ q : Nat, s.heap.size ≤ q → (fun q : Nat => s.heap.size ≤ q) q := fun _ h => h
  have hbA : ¬ (fun q : Nat => s.heap.size ≤ q) b := Nat.not_le.mpr hbl
  have hcs0 : cells + 0 ≤ room_1.cells ∧ slots + 0 ≤ room_1.slots := ⟨show cells + 0 ≤ 1063 by omega, show slots + 0 ≤ 9965 by omega⟩
  have hcs1 : cells + 1 ≤ room_1.cells ∧ slots + 6 ≤ room_1.slots := ⟨hc, hs⟩
  have hcs2 : cells + 1 + 0 ≤ room_1.cells ∧ slots + 6 + 0 ≤ room_1.slots := ⟨hc, hs⟩
  refine lv_aload_n hx hb dL_law_1251 rfl (lv_at hl 2 rfl) ?_
  refine lv_aload_n hx hb dL_law_1252 rfl (lv_at hl 1 rfl) ?_
  refine lv_iload hx hb dL_law_1253 (lv_at hl 0 rfl) ?_
  refine lv_iconst (v := nI 1) hx hb dL_law_1255 (by decide) ?_
  refine lv_iadd hx hb dL_law_1256 ?_
  refine lw_ld (j := 3 * t) (d := 1) hx hb hX hbl hbA hS (by omega) (by omega) dL_law_1257 ?_
  refine lv_aload_n hx hb dL_law_1258 rfl (lv_at hl 4 rfl) ?_
  refine g_calliW (wl := []) (wc := w0 h0 cA M ++ wO ao cL g) (wr := w1 h1 cA rf M) (wf := fun u : MM × (Nat → Int64) => w0 h0 cA u.1 ++ wO ao cL u.2) (vx_runSW (As := [.ref (h0 0), .int (xs (3 * t + 1)), .ref ao]) (rest := []) ⟨hx, hb, hml, hown, hts⟩ (eL_work l hlt D h0 cA cL M hI.ok ao g (xs (3 * t + 1)) H.size) (vx_cwSW 3 hts gL_law_L_work rfl rfl rfl (by decide +kernel) ⟨Nat.le_of_ble_eq_true rfl, Nat.le_of_ble_eq_true rfl⟩) ⟨l_fb, l_mk (p_left hP) hK (d_left hD) hE hZ hS hN⟩ rfl rfl hl.1 rfl (lv_room (Nat.le_of_ble_eq_true rfl)) dL_law_1259 hcs1) rfl hP hD hS hA (fun r1 u1 H locs q1 hP hD hS => ?_)
  obtain ⟨u1, g1⟩ := u1
  have hP : va_P D vwCl ((w0 h0 cA u1 ++ wO ao cL g1) ++ w1 h1 cA rf M) H := hP
  have hD : va_D (fun q : Nat => s.heap.size ≤ q) ((w0 h0 cA u1 ++ wO ao cL g1) ++ w1 h1 cA rf M) := hD
  refine lv_istore (lv' := [(5, .int r1), (4, .int (nI (3 * t))), (0, .ref b), (1, .ref (h0 0)), (2, .ref (h1 0)), (3, .ref ao)]) hx hb dL_law_1262 hl (by decide) rfl (fun ls hl => ?_)
  refine lv_aload_n hx hb dL_law_1264 rfl (lv_at hl 4 rfl) ?_
  refine lv_aload_n hx hb dL_law_1265 rfl (lv_at hl 2 rfl) ?_
  refine lv_iload hx hb dL_law_1266 (lv_at hl 1 rfl) ?_
  refine lv_iconst (v := nI 1) hx hb dL_law_1268 (by decide) ?_
  refine lv_iadd hx hb dL_law_1269 ?_
  refine lw_ld (j := 3 * t) (d := 1) hx hb hX hbl hbA hS (by omega) (by omega) dL_law_1270 ?_
  refine g_calliW (wl := w0 h0 cA u1 ++ wO ao cL g1) (wc := w1 h1 cA rf M) (wr := []) (wf := fun u : Int32 × MM => w1 h1 cA u.1 u.2) (va_runV (As := [.int (xs (3 * t + 1))]) (rest := []) ⟨hx, hb, hml, hown, hts⟩ (c1_work l D h1 cA rf M hI.ok1 (xs (3 * t + 1)) H.size) (cwV 1 hts gL_law_X1_work rfl rfl rfl (by decide +kernel) ⟨Nat.le_of_ble_eq_true rfl, Nat.le_of_ble_eq_true rfl⟩) ⟨pW_fb, va_recv hK hP (ci := 1) (q0 := 13) rfl rfl, pW_mk (p_right hP) (hK.sub [0] rfl) (d_right hD)⟩ rfl rfl hl.1 rfl (lv_room (Nat.le_of_ble_eq_true rfl)) dL_law_1271 hcs2) (by rw [List.append_nil]) hP hD hS hA (fun r2 u2 H locs q2 hP hD hS => ?_)
  rw [List.append_nil] at hP hD
  obtain ⟨f2, u2⟩ := u2
  obtain ⟨N, hIN, e0, e1, ef, eg⟩ := lw_fin (s_row hI (m_ln M) (m_lw M) (xs (3 * t + 1))) q1 q2
  have hP : va_P D vwCl ((w0 h0 cA N ++ wO ao cL g1) ++ w1 h1 cA f2 N) H := by rw [← e0 h0 cA, ← e1 h1 cA f2]; exact hP
  have hD : va_D (fun q : Nat => s.heap.size ≤ q) ((w0 h0 cA N ++ wO ao cL g1) ++ w1 h1 cA f2 N) := by rw [← e0 h0 cA, ← e1 h1 cA f2]; exact hD
  refine lv_istore (lv' := [(6, .int r2), (5, .int r1), (4, .int (nI (3 * t))), (0, .ref b), (1, .ref (h0 0)), (2, .ref (h1 0)), (3, .ref ao)]) hx hb dL_law_1274 hl (by decide) rfl (fun ls hl => ?_)
  refine lv_aload_n hx hb dL_law_1276 rfl (lv_at hl 5 rfl) ?_
  refine vp_callSi (W.runV (As := []) (rest := []) ⟨hx, hb, hml, hown, hts⟩ (c1_thrown l D h1 cA f2 N hIN.ok1) (cwV 0 hts gL_law_X1_thrown rfl rfl rfl (by decide +kernel) ⟨Nat.le_of_ble_eq_true rfl, Nat.le_of_ble_eq_true rfl⟩) ⟨pR_fb, va_recv hK hP (ci := 1) (q0 := 13) rfl rfl, pR_mk (p_right hP) (hK.sub [0] rfl)⟩ rfl rfl hl.1 rfl (lv_room (Nat.le_of_ble_eq_true rfl)) dL_law_1277 hcs2) (fun r3 q3 => ?_)
  subst q3
  refine lv_iload hx hb dL_law_1280 (lv_at hl 1 rfl) ?_
  refine lv_icmp_eq (tgt := 1287) hx hb dL_law_1282 (by decide) (fun _ => ?_) (fun z => absurd ef z)
  refine lv_iload hx hb dL_law_1287 (lv_at hl 1 rfl) ?_
  refine lv_if_ne (tgt := 1304) hx hb dL_law_1289 (by decide) (fun _ => ?_) (fun z => ?_)
  · refine lv_goto (tgt := 1570) hx hb dL_law_1304 (by decide) ?_
    exact kk g1 _ N H locs ls hIN hP hD hS (lv_sub hl [2, 3, 4, 5, 6] rfl)
  · refine lv_aload_n hx hb dL_law_1292 rfl (lv_at hl 6 rfl) ?_
    refine lv_iconst (v := 0) hx hb dL_law_1293 (by decide) ?_
    refine va_lald (f := g1) hx hb hK hP 12 1 rfl rfl (vp_in_nI (n := 0) (N := 1) (by decide) (by decide)) dL_law_1294 ?_
    refine lv_iload hx hb dL_law_1295 (lv_at hl 0 rfl) ?_
    refine lv_i2l (v := r2.toInt64) hx hb dL_law_1297 rfl ?_
    refine W.lcmp hx hb dL_law_1298 ?_
    refine lv_if_eq (tgt := 1304) hx hb dL_law_1299 (by decide) (fun _ => ?_) (fun c9 => absurd (eg z) (k_cne c9))
    refine lv_goto (tgt := 1570) hx hb dL_law_1304 (by decide) ?_
    exact kk g1 _ N H locs ls hIN hP hD hS (lv_sub hl [2, 3, 4, 5, 6] rfl)
