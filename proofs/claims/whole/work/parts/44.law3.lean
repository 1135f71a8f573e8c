/-! THE LAW: the last of its cases -/
set_option maxHeartbeats 4000000 in
set_option maxRecDepth 100000 in
theorem law_24_goods {p : Program} {l : Launch} {e : Env} {s : State} {m : MethodId} {below : List Frame} {meth : Method} {c : Code} {b L : Nat} {xs : Nat → Int32} {D : va_G} {h0 h1 : Nat → Nat} {cA cL : ClassId} {ao t : Nat} {Q : State → Prop} {cells slots : Nat} (C : lw_C p l s m c b L xs D cA cL) (hc : cells + 1 ≤ 1063) (hs : slots + 6 ≤ 9965) (ht : 3 * t + 3 ≤ L) (kk : lw_N p l e s m below meth c b D h0 h1 cA cL ao t (cells + 1) (slots + 6) Q) : lw_I p l e s m below meth c b D h0 h1 cA cL ao t cells slots Q 1307 := by
  intro g rf M H locs ls hI hP hD hS hl
  obtain ⟨hx, hb, hml, hown, hts, hX, hbl, hlt, hE, hZ, hN, hK, hL⟩ := C
  have hA : ∀ q : Nat, s.heap.size ≤ q → (fun q : Nat => s.heap.size ≤ q) q := fun _ h => h
  have hbA : ¬ (fun q : Nat => s.heap.size ≤ q) b := Nat.not_le.mpr hbl
  have hcs0 : cells + 0 ≤ room_1.cells ∧ slots + 0 ≤ room_1.slots := ⟨show cells + 0 ≤ 1063 by omega, show slots + 0 ≤ 9965 by omega⟩
  have hcs1 : cells + 1 ≤ room_1.cells ∧ slots + 6 ≤ room_1.slots := ⟨hc, hs⟩
  have hcs2 : cells + 1 + 0 ≤ room_1.cells ∧ slots + 6 + 0 ≤ room_1.slots := ⟨hc, hs⟩
  refine lv_aload_n hx hb dL_law_1307 rfl (lv_at hl 2 rfl) ?_
  refine lv_aload_n hx hb dL_law_1308 rfl (lv_at hl 1 rfl) ?_
  refine lv_iload hx hb dL_law_1309 (lv_at hl 0 rfl) ?_
  refine lv_iconst (v := nI 1) hx hb dL_law_1311 (by decide) ?_
  refine lv_iadd hx hb dL_law_1312 ?_
  refine lw_ld (j := 3 * t) (d := 1) hx hb hX hbl hbA hS (by omega) (by omega) dL_law_1313 ?_
  refine lv_aload_n hx hb dL_law_1314 rfl (lv_at hl 4 rfl) ?_
  refine g_calliW (wl := []) (wc := w0 h0 cA M ++ wO ao cL g) (wr := w1 h1 cA rf M) (wf := fun u : MM × (Nat → Int64) => w0 h0 cA u.1 ++ wO ao cL u.2) (vx_runSW (As := [.ref (h0 0), .int (xs (3 * t + 1)), .ref ao]) (rest := []) ⟨hx, hb, hml, hown, hts⟩ (eL_goods l hlt D h0 cA cL M hI.ok ao g (xs (3 * t + 1)) H.size) (vx_cwSW 3 hts gL_law_L_goods rfl rfl rfl (by decide +kernel) ⟨Nat.le_of_ble_eq_true rfl, Nat.le_of_ble_eq_true rfl⟩) ⟨l_fb, l_mk (p_left hP) hK (d_left hD) hE hZ hS hN⟩ rfl rfl hl.1 rfl (lv_room (Nat.le_of_ble_eq_true rfl)) dL_law_1315 hcs1) rfl hP hD hS hA (fun r1 u1 H locs q1 hP hD hS => ?_)
  obtain ⟨u1, g1⟩ := u1
  have hP : va_P D vwCl ((w0 h0 cA u1 ++ wO ao cL g1) ++ w1 h1 cA rf M) H := hP
  have hD : va_D (fun q : Nat => s.heap.size ≤ q) ((w0 h0 cA u1 ++ wO ao cL g1) ++ w1 h1 cA rf M) := hD
  refine lv_istore (lv' := [(5, .int r1), (4, .int (nI (3 * t))), (0, .ref b), (1, .ref (h0 0)), (2, .ref (h1 0)), (3, .ref ao)]) hx hb dL_law_1318 hl (by decide) rfl (fun ls hl => ?_)
  refine lv_aload_n hx hb dL_law_1320 rfl (lv_at hl 4 rfl) ?_
  refine lv_aload_n hx hb dL_law_1321 rfl (lv_at hl 2 rfl) ?_
  refine lv_iload hx hb dL_law_1322 (lv_at hl 1 rfl) ?_
  refine lv_iconst (v := nI 1) hx hb dL_law_1324 (by decide) ?_
  refine lv_iadd hx hb dL_law_1325 ?_
  refine lw_ld (j := 3 * t) (d := 1) hx hb hX hbl hbA hS (by omega) (by omega) dL_law_1326 ?_
  refine g_calliW (wl := w0 h0 cA u1 ++ wO ao cL g1) (wc := w1 h1 cA rf M) (wr := []) (wf := fun u : Int32 × MM => w1 h1 cA u.1 u.2) (va_runV (As := [.int (xs (3 * t + 1))]) (rest := []) ⟨hx, hb, hml, hown, hts⟩ (c1_goods l D h1 cA rf M hI.ok1 (xs (3 * t + 1)) H.size) (cwV 1 hts gL_law_X1_goods rfl rfl rfl (by decide +kernel) ⟨Nat.le_of_ble_eq_true rfl, Nat.le_of_ble_eq_true rfl⟩) ⟨pW_fb, va_recv hK hP (ci := 1) (q0 := 13) rfl rfl, pW_mk (p_right hP) (hK.sub [0] rfl) (d_right hD)⟩ rfl rfl hl.1 rfl (lv_room (Nat.le_of_ble_eq_true rfl)) dL_law_1327 hcs2) (by rw [List.append_nil]) hP hD hS hA (fun r2 u2 H locs q2 hP hD hS => ?_)
  rw [List.append_nil] at hP hD
  obtain ⟨f2, u2⟩ := u2
  obtain ⟨N, hIN, e0, e1, ef, eg⟩ := lw_fin (s_row hI (m_ln M) (fun i => m_le M i - m_lw M i) (xs (3 * t + 1))) q1 q2
  have hP : va_P D vwCl ((w0 h0 cA N ++ wO ao cL g1) ++ w1 h1 cA f2 N) H := by rw [← e0 h0 cA, ← e1 h1 cA f2]; exact hP
  have hD : va_D (fun q : Nat => s.heap.size ≤ q) ((w0 h0 cA N ++ wO ao cL g1) ++ w1 h1 cA f2 N) := by rw [← e0 h0 cA, ← e1 h1 cA f2]; exact hD
  refine lv_istore (lv' := [(6, .int r2), (5, .int r1), (4, .int (nI (3 * t))), (0, .ref b), (1, .ref (h0 0)), (2, .ref (h1 0)), (3, .ref ao)]) hx hb dL_law_1330 hl (by decide) rfl (fun ls hl => ?_)
  refine lv_aload_n hx hb dL_law_1332 rfl (lv_at hl 5 rfl) ?_
  refine vp_callSi (W.runV (As := []) (rest := []) ⟨hx, hb, hml, hown, hts⟩ (c1_thrown l D h1 cA f2 N hIN.ok1) (cwV 0 hts gL_law_X1_thrown rfl rfl rfl (by decide +kernel) ⟨Nat.le_of_ble_eq_true rfl, Nat.le_of_ble_eq_true rfl⟩) ⟨pR_fb, va_recv hK hP (ci := 1) (q0 := 13) rfl rfl, pR_mk (p_right hP) (hK.sub [0] rfl)⟩ rfl rfl hl.1 rfl (lv_room (Nat.le_of_ble_eq_true rfl)) dL_law_1333 hcs2) (fun r3 q3 => ?_)
  subst q3
  refine lv_iload hx hb dL_law_1336 (lv_at hl 1 rfl) ?_
  refine lv_icmp_eq (tgt := 1343) hx hb dL_law_1338 (by decide) (fun _ => ?_) (fun z => absurd ef z)
  refine lv_iload hx hb dL_law_1343 (lv_at hl 1 rfl) ?_
  refine lv_if_ne (tgt := 1360) hx hb dL_law_1345 (by decide) (fun _ => ?_) (fun z => ?_)
  · refine lv_goto (tgt := 1570) hx hb dL_law_1360 (by decide) ?_
    exact kk g1 _ N H locs ls hIN hP hD hS (lv_sub hl [2, 3, 4, 5, 6] rfl)
  · refine lv_aload_n hx hb dL_law_1348 rfl (lv_at hl 6 rfl) ?_
    refine lv_iconst (v := 0) hx hb dL_law_1349 (by decide) ?_
    refine va_lald (f := g1) hx hb hK hP 12 1 rfl rfl (vp_in_nI (n := 0) (N := 1) (by decide) (by decide)) dL_law_1350 ?_
    refine lv_iload hx hb dL_law_1351 (lv_at hl 0 rfl) ?_
    refine lv_i2l (v := r2.toInt64) hx hb dL_law_1353 rfl ?_
    refine W.lcmp hx hb dL_law_1354 ?_
    refine lv_if_eq (tgt := 1360) hx hb dL_law_1355 (by decide) (fun _ => ?_) (fun c9 => absurd (eg z) (k_cne c9))
    refine lv_goto (tgt := 1570) hx hb dL_law_1360 (by decide) ?_
    exact kk g1 _ N H locs ls hIN hP hD hS (lv_sub hl [2, 3, 4, 5, 6] rfl)
set_option maxHeartbeats 4000000 in
set_option maxRecDepth 100000 in
theorem law_25_billed {p : Program} {l : Launch} {e : Env} {s : State} {m : MethodId} {below : List Frame} {meth : Method} {c : Code} {b L : Nat} {xs : Nat → Int32} {D : va_G} {h0 h1 : Nat → Nat} {cA cL : ClassId} {ao t : Nat} {Q : State → Prop} {cells slots : Nat} (C : lw_C p l s m c b L xs D cA cL) (hc : cells + 1 ≤ 1063) (hs : slots + 6 ≤ 9965) (ht : 3 * t + 3 ≤ L) (kk : lw_N p l e s m below meth c b D h0 h1 cA cL ao t (cells + 1) (slots + 6) Q) : lw_I p l e s m below meth c b D h0 h1 cA cL ao t cells slots Q 1363 := by
  intro g rf M H locs ls hI hP hD hS hl
  obtain ⟨hx, hb, hml, hown, hts, hX, hbl, hlt, hE, hZ, hN, hK, hL⟩ := C
  have hA : ∀ q : Nat, s.heap.size ≤ q → (fun q : Nat => s.heap.size ≤ q) q := fun _ h => h
  have hbA : ¬ (fun q : Nat => s.heap.size ≤ q) b := Nat.not_le.mpr hbl
  have hcs0 : cells + 0 ≤ room_1.cells ∧ slots + 0 ≤ room_1.slots := ⟨show cells + 0 ≤ 1063 by omega, show slots + 0 ≤ 9965 by omega⟩
  have hcs1 : cells + 1 ≤ room_1.cells ∧ slots + 6 ≤ room_1.slots := ⟨hc, hs⟩
  have hcs2 : cells + 1 + 0 ≤ room_1.cells ∧ slots + 6 + 0 ≤ room_1.slots := ⟨hc, hs⟩
  refine lv_aload_n hx hb dL_law_1363 rfl (lv_at hl 2 rfl) ?_
  refine lv_aload_n hx hb dL_law_1364 rfl (lv_at hl 1 rfl) ?_
  refine lv_iload hx hb dL_law_1365 (lv_at hl 0 rfl) ?_
  refine lv_iconst (v := nI 1) hx hb dL_law_1367 (by decide) ?_
  refine lv_iadd hx hb dL_law_1368 ?_
  refine lw_ld (j := 3 * t) (d := 1) hx hb hX hbl hbA hS (by omega) (by omega) dL_law_1369 ?_
  refine lv_aload_n hx hb dL_law_1370 rfl (lv_at hl 4 rfl) ?_
  refine g_calliW (wl := []) (wc := w0 h0 cA M ++ wO ao cL g) (wr := w1 h1 cA rf M) (wf := fun u : MM × (Nat → Int64) => w0 h0 cA u.1 ++ wO ao cL u.2) (vx_runSW (As := [.ref (h0 0), .int (xs (3 * t + 1)), .ref ao]) (rest := []) ⟨hx, hb, hml, hown, hts⟩ (eL_billed l hlt D h0 cA cL M hI.ok ao g (xs (3 * t + 1)) H.size) (vx_cwSW 3 hts gL_law_L_billed rfl rfl rfl (by decide +kernel) ⟨Nat.le_of_ble_eq_true rfl, Nat.le_of_ble_eq_true rfl⟩) ⟨l_fb, l_mk (p_left hP) hK (d_left hD) hE hZ hS hN⟩ rfl rfl hl.1 rfl (lv_room (Nat.le_of_ble_eq_true rfl)) dL_law_1371 hcs1) rfl hP hD hS hA (fun r1 u1 H locs q1 hP hD hS => ?_)
  obtain ⟨u1, g1⟩ := u1
  have hP : va_P D vwCl ((w0 h0 cA u1 ++ wO ao cL g1) ++ w1 h1 cA rf M) H := hP
  have hD : va_D (fun q : Nat => s.heap.size ≤ q) ((w0 h0 cA u1 ++ wO ao cL g1) ++ w1 h1 cA rf M) := hD
  refine lv_istore (lv' := [(5, .int r1), (4, .int (nI (3 * t))), (0, .ref b), (1, .ref (h0 0)), (2, .ref (h1 0)), (3, .ref ao)]) hx hb dL_law_1374 hl (by decide) rfl (fun ls hl => ?_)
  refine lv_aload_n hx hb dL_law_1376 rfl (lv_at hl 4 rfl) ?_
  refine lv_aload_n hx hb dL_law_1377 rfl (lv_at hl 2 rfl) ?_
  refine lv_iload hx hb dL_law_1378 (lv_at hl 1 rfl) ?_
  refine lv_iconst (v := nI 1) hx hb dL_law_1380 (by decide) ?_
  refine lv_iadd hx hb dL_law_1381 ?_
  refine lw_ld (j := 3 * t) (d := 1) hx hb hX hbl hbA hS (by omega) (by omega) dL_law_1382 ?_
  refine g_calliW (wl := w0 h0 cA u1 ++ wO ao cL g1) (wc := w1 h1 cA rf M) (wr := []) (wf := fun u : Int32 × MM => w1 h1 cA u.1 u.2) (va_runV (As := [.int (xs (3 * t + 1))]) (rest := []) ⟨hx, hb, hml, hown, hts⟩ (c1_billed l D h1 cA rf M hI.ok1 (xs (3 * t + 1)) H.size) (cwV 1 hts gL_law_X1_billed rfl rfl rfl (by decide +kernel) ⟨Nat.le_of_ble_eq_true rfl, Nat.le_of_ble_eq_true rfl⟩) ⟨pW_fb, va_recv hK hP (ci := 1) (q0 := 13) rfl rfl, pW_mk (p_right hP) (hK.sub [0] rfl) (d_right hD)⟩ rfl rfl hl.1 rfl (lv_room (Nat.le_of_ble_eq_true rfl)) dL_law_1383 hcs2) (by rw [List.append_nil]) hP hD hS hA (fun r2 u2 H locs q2 hP hD hS => ?_)
  rw [List.append_nil] at hP hD
  obtain ⟨f2, u2⟩ := u2
  obtain ⟨N, hIN, e0, e1, ef, eg⟩ := lw_fin (s_row hI (m_ln M) (m_lb M) (xs (3 * t + 1))) q1 q2
  have hP : va_P D vwCl ((w0 h0 cA N ++ wO ao cL g1) ++ w1 h1 cA f2 N) H := by rw [← e0 h0 cA, ← e1 h1 cA f2]; exact hP
  have hD : va_D (fun q : Nat => s.heap.size ≤ q) ((w0 h0 cA N ++ wO ao cL g1) ++ w1 h1 cA f2 N) := by rw [← e0 h0 cA, ← e1 h1 cA f2]; exact hD
  refine lv_istore (lv' := [(6, .int r2), (5, .int r1), (4, .int (nI (3 * t))), (0, .ref b), (1, .ref (h0 0)), (2, .ref (h1 0)), (3, .ref ao)]) hx hb dL_law_1386 hl (by decide) rfl (fun ls hl => ?_)
  refine lv_aload_n hx hb dL_law_1388 rfl (lv_at hl 5 rfl) ?_
  refine vp_callSi (W.runV (As := []) (rest := []) ⟨hx, hb, hml, hown, hts⟩ (c1_thrown l D h1 cA f2 N hIN.ok1) (cwV 0 hts gL_law_X1_thrown rfl rfl rfl (by decide +kernel) ⟨Nat.le_of_ble_eq_true rfl, Nat.le_of_ble_eq_true rfl⟩) ⟨pR_fb, va_recv hK hP (ci := 1) (q0 := 13) rfl rfl, pR_mk (p_right hP) (hK.sub [0] rfl)⟩ rfl rfl hl.1 rfl (lv_room (Nat.le_of_ble_eq_true rfl)) dL_law_1389 hcs2) (fun r3 q3 => ?_)
  subst q3
  refine lv_iload hx hb dL_law_1392 (lv_at hl 1 rfl) ?_
  refine lv_icmp_eq (tgt := 1399) hx hb dL_law_1394 (by decide) (fun _ => ?_) (fun z => absurd ef z)
  refine lv_iload hx hb dL_law_1399 (lv_at hl 1 rfl) ?_
  refine lv_if_ne (tgt := 1416) hx hb dL_law_1401 (by decide) (fun _ => ?_) (fun z => ?_)
  · refine lv_goto (tgt := 1570) hx hb dL_law_1416 (by decide) ?_
    exact kk g1 _ N H locs ls hIN hP hD hS (lv_sub hl [2, 3, 4, 5, 6] rfl)
  · refine lv_aload_n hx hb dL_law_1404 rfl (lv_at hl 6 rfl) ?_
    refine lv_iconst (v := 0) hx hb dL_law_1405 (by decide) ?_
    refine va_lald (f := g1) hx hb hK hP 12 1 rfl rfl (vp_in_nI (n := 0) (N := 1) (by decide) (by decide)) dL_law_1406 ?_
    refine lv_iload hx hb dL_law_1407 (lv_at hl 0 rfl) ?_
    refine lv_i2l (v := r2.toInt64) hx hb dL_law_1409 rfl ?_
    refine W.lcmp hx hb dL_law_1410 ?_
    refine lv_if_eq (tgt := 1416) hx hb dL_law_1411 (by decide) (fun _ => ?_) (fun c9 => absurd (eg z) (k_cne c9))
    refine lv_goto (tgt := 1570) hx hb dL_law_1416 (by decide) ?_
    exact kk g1 _ N H locs ls hIN hP hD hS (lv_sub hl [2, 3, 4, 5, 6] rfl)
set_option maxHeartbeats 4000000 in
set_option maxRecDepth 100000 in
theorem law_26_held {p : Program} {l : Launch} {e : Env} {s : State} {m : MethodId} {below : List Frame} {meth : Method} {c : Code} {b L : Nat} {xs : Nat → Int32} {D : va_G} {h0 h1 : Nat → Nat} {cA cL : ClassId} {ao t : Nat} {Q : State → Prop} {cells slots : Nat} (C : lw_C p l s m c b L xs D cA cL) (hc : cells + 1 ≤ 1063) (hs : slots + 6 ≤ 9965) (ht : 3 * t + 3 ≤ L) (kk : lw_N p l e s m below meth c b D h0 h1 cA cL ao t (cells + 1) (slots + 6) Q) : lw_I p l e s m below meth c b D h0 h1 cA cL ao t cells slots Q 1419 := by
  intro g rf M H locs ls hI hP hD hS hl
  obtain ⟨hx, hb, hml, hown, hts, hX, hbl, hlt, hE, hZ, hN, hK, hL⟩ := C
  have hA : ∀ q : Nat, s.heap.size ≤ q → (fun q : Nat => s.heap.size ≤ q) q := fun _ h => h
  have hbA : ¬ (fun q : Nat => s.heap.size ≤ q) b := Nat.not_le.mpr hbl
  have hcs0 : cells + 0 ≤ room_1.cells ∧ slots + 0 ≤ room_1.slots := ⟨show cells + 0 ≤ 1063 by omega, show slots + 0 ≤ 9965 by omega⟩
  have hcs1 : cells + 1 ≤ room_1.cells ∧ slots + 6 ≤ room_1.slots := ⟨hc, hs⟩
  have hcs2 : cells + 1 + 0 ≤ room_1.cells ∧ slots + 6 + 0 ≤ room_1.slots := ⟨hc, hs⟩
  refine lv_aload_n hx hb dL_law_1419 rfl (lv_at hl 2 rfl) ?_
  refine lv_aload_n hx hb dL_law_1420 rfl (lv_at hl 1 rfl) ?_
  refine lv_iload hx hb dL_law_1421 (lv_at hl 0 rfl) ?_
  refine lv_iconst (v := nI 1) hx hb dL_law_1423 (by decide) ?_
  refine lv_iadd hx hb dL_law_1424 ?_
  refine lw_ld (j := 3 * t) (d := 1) hx hb hX hbl hbA hS (by omega) (by omega) dL_law_1425 ?_
  refine lv_aload_n hx hb dL_law_1426 rfl (lv_at hl 4 rfl) ?_
  refine g_calliW (wl := []) (wc := w0 h0 cA M ++ wO ao cL g) (wr := w1 h1 cA rf M) (wf := fun u : MM × (Nat → Int64) => w0 h0 cA u.1 ++ wO ao cL u.2) (vx_runSW (As := [.ref (h0 0), .int (xs (3 * t + 1)), .ref ao]) (rest := []) ⟨hx, hb, hml, hown, hts⟩ (eL_held l hlt D h0 cA cL M hI.ok ao g (xs (3 * t + 1)) H.size) (vx_cwSW 3 hts gL_law_L_held rfl rfl rfl (by decide +kernel) ⟨Nat.le_of_ble_eq_true rfl, Nat.le_of_ble_eq_true rfl⟩) ⟨l_fb, l_mk (p_left hP) hK (d_left hD) hE hZ hS hN⟩ rfl rfl hl.1 rfl (lv_room (Nat.le_of_ble_eq_true rfl)) dL_law_1427 hcs1) rfl hP hD hS hA (fun r1 u1 H locs q1 hP hD hS => ?_)
  obtain ⟨u1, g1⟩ := u1
  have hP : va_P D vwCl ((w0 h0 cA u1 ++ wO ao cL g1) ++ w1 h1 cA rf M) H := hP
  have hD : va_D (fun q : Nat => s.heap.size ≤ q) ((w0 h0 cA u1 ++ wO ao cL g1) ++ w1 h1 cA rf M) := hD
  refine lv_istore (lv' := [(5, .int r1), (4, .int (nI (3 * t))), (0, .ref b), (1, .ref (h0 0)), (2, .ref (h1 0)), (3, .ref ao)]) hx hb dL_law_1430 hl (by decide) rfl (fun ls hl => ?_)
  refine lv_aload_n hx hb dL_law_1432 rfl (lv_at hl 4 rfl) ?_
  refine lv_aload_n hx hb dL_law_1433 rfl (lv_at hl 2 rfl) ?_
  refine lv_iload hx hb dL_law_1434 (lv_at hl 1 rfl) ?_
  refine lv_iconst (v := nI 1) hx hb dL_law_1436 (by decide) ?_
  refine lv_iadd hx hb dL_law_1437 ?_
  refine lw_ld (j := 3 * t) (d := 1) hx hb hX hbl hbA hS (by omega) (by omega) dL_law_1438 ?_
  refine g_calliW (wl := w0 h0 cA u1 ++ wO ao cL g1) (wc := w1 h1 cA rf M) (wr := []) (wf := fun u : Int32 × MM => w1 h1 cA u.1 u.2) (va_runV (As := [.int (xs (3 * t + 1))]) (rest := []) ⟨hx, hb, hml, hown, hts⟩ (c1_held l D h1 cA rf M hI.ok1 (xs (3 * t + 1)) H.size) (cwV 1 hts gL_law_X1_held rfl rfl rfl (by decide +kernel) ⟨Nat.le_of_ble_eq_true rfl, Nat.le_of_ble_eq_true rfl⟩) ⟨pW_fb, va_recv hK hP (ci := 1) (q0 := 13) rfl rfl, pW_mk (p_right hP) (hK.sub [0] rfl) (d_right hD)⟩ rfl rfl hl.1 rfl (lv_room (Nat.le_of_ble_eq_true rfl)) dL_law_1439 hcs2) (by rw [List.append_nil]) hP hD hS hA (fun r2 u2 H locs q2 hP hD hS => ?_)
  rw [List.append_nil] at hP hD
  obtain ⟨f2, u2⟩ := u2
  obtain ⟨N, hIN, e0, e1, ef, eg⟩ := lw_fin (s_row hI (m_ln M) (m_lh M) (xs (3 * t + 1))) q1 q2
  have hP : va_P D vwCl ((w0 h0 cA N ++ wO ao cL g1) ++ w1 h1 cA f2 N) H := by rw [← e0 h0 cA, ← e1 h1 cA f2]; exact hP
  have hD : va_D (fun q : Nat => s.heap.size ≤ q) ((w0 h0 cA N ++ wO ao cL g1) ++ w1 h1 cA f2 N) := by rw [← e0 h0 cA, ← e1 h1 cA f2]; exact hD
  refine lv_istore (lv' := [(6, .int r2), (5, .int r1), (4, .int (nI (3 * t))), (0, .ref b), (1, .ref (h0 0)), (2, .ref (h1 0)), (3, .ref ao)]) hx hb dL_law_1442 hl (by decide) rfl (fun ls hl => ?_)
  refine lv_aload_n hx hb dL_law_1444 rfl (lv_at hl 5 rfl) ?_
  refine vp_callSi (W.runV (As := []) (rest := []) ⟨hx, hb, hml, hown, hts⟩ (c1_thrown l D h1 cA f2 N hIN.ok1) (cwV 0 hts gL_law_X1_thrown rfl rfl rfl (by decide +kernel) ⟨Nat.le_of_ble_eq_true rfl, Nat.le_of_ble_eq_true rfl⟩) ⟨pR_fb, va_recv hK hP (ci := 1) (q0 := 13) rfl rfl, pR_mk (p_right hP) (hK.sub [0] rfl)⟩ rfl rfl hl.1 rfl (lv_room (Nat.le_of_ble_eq_true rfl)) dL_law_1445 hcs2) (fun r3 q3 => ?_)
  subst q3
  refine lv_iload hx hb dL_law_1448 (lv_at hl 1 rfl) ?_
  refine lv_icmp_eq (tgt := 1455) hx hb dL_law_1450 (by decide) (fun _ => ?_) (fun z => absurd ef z)
  refine lv_iload hx hb dL_law_1455 (lv_at hl 1 rfl) ?_
  refine lv_if_ne (tgt := 1472) hx hb dL_law_1457 (by decide) (fun _ => ?_) (fun z => ?_)
  · refine lv_goto (tgt := 1570) hx hb dL_law_1472 (by decide) ?_
    exact kk g1 _ N H locs ls hIN hP hD hS (lv_sub hl [2, 3, 4, 5, 6] rfl)
  · refine lv_aload_n hx hb dL_law_1460 rfl (lv_at hl 6 rfl) ?_
    refine lv_iconst (v := 0) hx hb dL_law_1461 (by decide) ?_
    refine va_lald (f := g1) hx hb hK hP 12 1 rfl rfl (vp_in_nI (n := 0) (N := 1) (by decide) (by decide)) dL_law_1462 ?_
    refine lv_iload hx hb dL_law_1463 (lv_at hl 0 rfl) ?_
    refine lv_i2l (v := r2.toInt64) hx hb dL_law_1465 rfl ?_
    refine W.lcmp hx hb dL_law_1466 ?_
    refine lv_if_eq (tgt := 1472) hx hb dL_law_1467 (by decide) (fun _ => ?_) (fun c9 => absurd (eg z) (k_cne c9))
    refine lv_goto (tgt := 1570) hx hb dL_law_1472 (by decide) ?_
    exact kk g1 _ N H locs ls hIN hP hD hS (lv_sub hl [2, 3, 4, 5, 6] rfl)
set_option maxHeartbeats 4000000 in
set_option maxRecDepth 100000 in
theorem law_27_lineByShare {p : Program} {l : Launch} {e : Env} {s : State} {m : MethodId} {below : List Frame} {meth : Method} {c : Code} {b L : Nat} {xs : Nat → Int32} {D : va_G} {h0 h1 : Nat → Nat} {cA cL : ClassId} {ao t : Nat} {Q : State → Prop} {cells slots : Nat} (C : lw_C p l s m c b L xs D cA cL) (hc : cells + 1 ≤ 1063) (hs : slots + 6 ≤ 9965) (ht : 3 * t + 3 ≤ L) (kk : lw_N p l e s m below meth c b D h0 h1 cA cL ao t (cells + 1) (slots + 6) Q) : lw_I p l e s m below meth c b D h0 h1 cA cL ao t cells slots Q 1475 := by
  intro g rf M H locs ls hI hP hD hS hl
  obtain ⟨hx, hb, hml, hown, hts, hX, hbl, hlt, hE, hZ, hN, hK, hL⟩ := C
  have hA : ∀ q : Nat, s.heap.size ≤ q → (fun q : Nat => s.heap.size ≤ q) q := fun _ h => h
  have hbA : ¬ (fun q : Nat => s.heap.size ≤ q) b := Nat.not_le.mpr hbl
  have hcs0 : cells + 0 ≤ room_1.cells ∧ slots + 0 ≤ room_1.slots := ⟨show cells + 0 ≤ 1063 by omega, show slots + 0 ≤ 9965 by omega⟩
  have hcs1 : cells + 1 ≤ room_1.cells ∧ slots + 6 ≤ room_1.slots := ⟨hc, hs⟩
  have hcs2 : cells + 1 + 0 ≤ room_1.cells ∧ slots + 6 + 0 ≤ room_1.slots := ⟨hc, hs⟩
  refine lv_aload_n hx hb dL_law_1475 rfl (lv_at hl 2 rfl) ?_
  refine lv_aload_n hx hb dL_law_1476 rfl (lv_at hl 1 rfl) ?_
  refine lv_iload hx hb dL_law_1477 (lv_at hl 0 rfl) ?_
  refine lv_iconst (v := nI 1) hx hb dL_law_1479 (by decide) ?_
  refine lv_iadd hx hb dL_law_1480 ?_
  refine lw_ld (j := 3 * t) (d := 1) hx hb hX hbl hbA hS (by omega) (by omega) dL_law_1481 ?_
  refine lv_aload_n hx hb dL_law_1482 rfl (lv_at hl 4 rfl) ?_
  refine g_calliW (wl := []) (wc := w0 h0 cA M ++ wO ao cL g) (wr := w1 h1 cA rf M) (wf := fun u : MM × (Nat → Int64) => w0 h0 cA u.1 ++ wO ao cL u.2) (vx_runSW (As := [.ref (h0 0), .int (xs (3 * t + 1)), .ref ao]) (rest := []) ⟨hx, hb, hml, hown, hts⟩ (eL_lineByShare l hlt D h0 cA cL M hI.ok ao g (xs (3 * t + 1)) H.size) (vx_cwSW 3 hts gL_law_L_lineByShare rfl rfl rfl (by decide +kernel) ⟨Nat.le_of_ble_eq_true rfl, Nat.le_of_ble_eq_true rfl⟩) ⟨l_fb, l_mk (p_left hP) hK (d_left hD) hE hZ hS hN⟩ rfl rfl hl.1 rfl (lv_room (Nat.le_of_ble_eq_true rfl)) dL_law_1483 hcs1) rfl hP hD hS hA (fun r1 u1 H locs q1 hP hD hS => ?_)
  obtain ⟨u1, g1⟩ := u1
  have hP : va_P D vwCl ((w0 h0 cA u1 ++ wO ao cL g1) ++ w1 h1 cA rf M) H := hP
  have hD : va_D (fun q : Nat => s.heap.size ≤ q) ((w0 h0 cA u1 ++ wO ao cL g1) ++ w1 h1 cA rf M) := hD
  refine lv_istore (lv' := [(5, .int r1), (4, .int (nI (3 * t))), (0, .ref b), (1, .ref (h0 0)), (2, .ref (h1 0)), (3, .ref ao)]) hx hb dL_law_1486 hl (by decide) rfl (fun ls hl => ?_)
  refine lv_aload_n hx hb dL_law_1488 rfl (lv_at hl 4 rfl) ?_
  refine lv_aload_n hx hb dL_law_1489 rfl (lv_at hl 2 rfl) ?_
  refine lv_iload hx hb dL_law_1490 (lv_at hl 1 rfl) ?_
  refine lv_iconst (v := nI 1) hx hb dL_law_1492 (by decide) ?_
  refine lv_iadd hx hb dL_law_1493 ?_
  refine lw_ld (j := 3 * t) (d := 1) hx hb hX hbl hbA hS (by omega) (by omega) dL_law_1494 ?_
  refine g_calliW (wl := w0 h0 cA u1 ++ wO ao cL g1) (wc := w1 h1 cA rf M) (wr := []) (wf := fun u : Int32 × MM => w1 h1 cA u.1 u.2) (va_runV (As := [.int (xs (3 * t + 1))]) (rest := []) ⟨hx, hb, hml, hown, hts⟩ (c1_lineByShare l D h1 cA rf M hI.ok1 (xs (3 * t + 1)) H.size) (cwV 1 hts gL_law_X1_lineByShare rfl rfl rfl (by decide +kernel) ⟨Nat.le_of_ble_eq_true rfl, Nat.le_of_ble_eq_true rfl⟩) ⟨pW_fb, va_recv hK hP (ci := 1) (q0 := 13) rfl rfl, pW_mk (p_right hP) (hK.sub [0] rfl) (d_right hD)⟩ rfl rfl hl.1 rfl (lv_room (Nat.le_of_ble_eq_true rfl)) dL_law_1495 hcs2) (by rw [List.append_nil]) hP hD hS hA (fun r2 u2 H locs q2 hP hD hS => ?_)
  rw [List.append_nil] at hP hD
  obtain ⟨f2, u2⟩ := u2
  obtain ⟨N, hIN, e0, e1, ef, eg⟩ := lw_fin (s_lbs hI (xs (3 * t + 1))) q1 q2
  have hP : va_P D vwCl ((w0 h0 cA N ++ wO ao cL g1) ++ w1 h1 cA f2 N) H := by rw [← e0 h0 cA, ← e1 h1 cA f2]; exact hP
  have hD : va_D (fun q : Nat => s.heap.size ≤ q) ((w0 h0 cA N ++ wO ao cL g1) ++ w1 h1 cA f2 N) := by rw [← e0 h0 cA, ← e1 h1 cA f2]; exact hD
  refine lv_istore (lv' := [(6, .int r2), (5, .int r1), (4, .int (nI (3 * t))), (0, .ref b), (1, .ref (h0 0)), (2, .ref (h1 0)), (3, .ref ao)]) hx hb dL_law_1498 hl (by decide) rfl (fun ls hl => ?_)
  refine lv_aload_n hx hb dL_law_1500 rfl (lv_at hl 5 rfl) ?_
  refine vp_callSi (W.runV (As := []) (rest := []) ⟨hx, hb, hml, hown, hts⟩ (c1_thrown l D h1 cA f2 N hIN.ok1) (cwV 0 hts gL_law_X1_thrown rfl rfl rfl (by decide +kernel) ⟨Nat.le_of_ble_eq_true rfl, Nat.le_of_ble_eq_true rfl⟩) ⟨pR_fb, va_recv hK hP (ci := 1) (q0 := 13) rfl rfl, pR_mk (p_right hP) (hK.sub [0] rfl)⟩ rfl rfl hl.1 rfl (lv_room (Nat.le_of_ble_eq_true rfl)) dL_law_1501 hcs2) (fun r3 q3 => ?_)
  subst q3
  refine lv_iload hx hb dL_law_1504 (lv_at hl 1 rfl) ?_
  refine lv_icmp_eq (tgt := 1511) hx hb dL_law_1506 (by decide) (fun _ => ?_) (fun z => absurd ef z)
  refine lv_iload hx hb dL_law_1511 (lv_at hl 1 rfl) ?_
  refine lv_if_ne (tgt := 1528) hx hb dL_law_1513 (by decide) (fun _ => ?_) (fun z => ?_)
  · refine lv_goto (tgt := 1570) hx hb dL_law_1528 (by decide) ?_
    exact kk g1 _ N H locs ls hIN hP hD hS (lv_sub hl [2, 3, 4, 5, 6] rfl)
  · refine lv_aload_n hx hb dL_law_1516 rfl (lv_at hl 6 rfl) ?_
    refine lv_iconst (v := 0) hx hb dL_law_1517 (by decide) ?_
    refine va_lald (f := g1) hx hb hK hP 12 1 rfl rfl (vp_in_nI (n := 0) (N := 1) (by decide) (by decide)) dL_law_1518 ?_
    refine lv_iload hx hb dL_law_1519 (lv_at hl 0 rfl) ?_
    refine lv_i2l (v := r2.toInt64) hx hb dL_law_1521 rfl ?_
    refine W.lcmp hx hb dL_law_1522 ?_
    refine lv_if_eq (tgt := 1528) hx hb dL_law_1523 (by decide) (fun _ => ?_) (fun c9 => absurd (eg z) (k_cne c9))
    refine lv_goto (tgt := 1570) hx hb dL_law_1528 (by decide) ?_
    exact kk g1 _ N H locs ls hIN hP hD hS (lv_sub hl [2, 3, 4, 5, 6] rfl)
set_option maxHeartbeats 4000000 in
set_option maxRecDepth 100000 in
theorem law_28_contractSum {p : Program} {l : Launch} {e : Env} {s : State} {m : MethodId} {below : List Frame} {meth : Method} {c : Code} {b L : Nat} {xs : Nat → Int32} {D : va_G} {h0 h1 : Nat → Nat} {cA cL : ClassId} {ao t : Nat} {Q : State → Prop} {cells slots : Nat} (C : lw_C p l s m c b L xs D cA cL) (hc : cells + 1 ≤ 1063) (hs : slots + 6 ≤ 9965) (ht : 3 * t + 3 ≤ L) (kk : lw_N p l e s m below meth c b D h0 h1 cA cL ao t (cells + 1) (slots + 6) Q) : lw_I p l e s m below meth c b D h0 h1 cA cL ao t cells slots Q 1531 := by
  intro g rf M H locs ls hI hP hD hS hl
  obtain ⟨hx, hb, hml, hown, hts, hX, hbl, hlt, hE, hZ, hN, hK, hL⟩ := C
  have hA : ∀ q : Nat, s.heap.size ≤ q → (fun q : Nat => s.heap.size ≤ q) q := fun _ h => h
  have hbA : ¬ (fun q : Nat => s.heap.size ≤ q) b := Nat.not_le.mpr hbl
  have hcs0 : cells + 0 ≤ room_1.cells ∧ slots + 0 ≤ room_1.slots := ⟨show cells + 0 ≤ 1063 by omega, show slots + 0 ≤ 9965 by omega⟩
  have hcs1 : cells + 1 ≤ room_1.cells ∧ slots + 6 ≤ room_1.slots := ⟨hc, hs⟩
  have hcs2 : cells + 1 + 0 ≤ room_1.cells ∧ slots + 6 + 0 ≤ room_1.slots := ⟨hc, hs⟩
  refine W.widen (k := cells + 1) (n := slots + 6) (by omega) (by omega) ?_
  refine lv_aload_n hx hb dL_law_1531 rfl (lv_at hl 2 rfl) ?_
  refine vp_callSi (W.runV (As := []) (rest := []) ⟨hx, hb, hml, hown, hts⟩ (c0_contractSum l D h0 cA M hI.ok) (cwV 0 hts gL_law_X0_contractSum rfl rfl rfl (by decide +kernel) ⟨Nat.le_of_ble_eq_true rfl, Nat.le_of_ble_eq_true rfl⟩) ⟨pR_fb, va_recv hK hP (ci := 0) (q0 := 0) rfl rfl, pR_mk (p_left (p_left hP)) (hK.sub [0] rfl)⟩ rfl rfl hl.1 rfl (lv_room (Nat.le_of_ble_eq_true rfl)) dL_law_1532 hcs2) (fun r1 q1 => ?_)
  refine lv_aload_n hx hb dL_law_1535 rfl (lv_at hl 3 rfl) ?_
  refine g_calliW (wl := w0 h0 cA M ++ wO ao cL g) (wc := w1 h1 cA rf M) (wr := []) (wf := fun u : Int32 × MM => w1 h1 cA u.1 u.2) (va_runV (As := []) (rest := [.int r1]) ⟨hx, hb, hml, hown, hts⟩ (c1_contractSum l D h1 cA rf M hI.ok1 H.size) (cwV 0 hts gL_law_X1_contractSum rfl rfl rfl (by decide +kernel) ⟨Nat.le_of_ble_eq_true rfl, Nat.le_of_ble_eq_true rfl⟩) ⟨pW_fb, va_recv hK hP (ci := 1) (q0 := 13) rfl rfl, pW_mk (p_right hP) (hK.sub [0] rfl) (d_right hD)⟩ rfl rfl hl.1 rfl (lv_room (Nat.le_of_ble_eq_true rfl)) dL_law_1536 hcs2) (by rw [List.append_nil]) hP hD hS hA (fun r2 u2 H locs q2 hP hD hS => ?_)
  rw [List.append_nil] at hP hD
  obtain ⟨q2, rfl⟩ := q2
  refine lv_icmp_eq (tgt := 1570) hx hb dL_law_1539 (by decide) (fun _ => ?_) (fun z => absurd (q1.trans (Eq.trans (rfl) q2.symm)) z)
  exact kk g _ M H locs ls hI hP hD hS hl
set_option maxHeartbeats 4000000 in
set_option maxRecDepth 100000 in
theorem law_29_paid {p : Program} {l : Launch} {e : Env} {s : State} {m : MethodId} {below : List Frame} {meth : Method} {c : Code} {b L : Nat} {xs : Nat → Int32} {D : va_G} {h0 h1 : Nat → Nat} {cA cL : ClassId} {ao t : Nat} {Q : State → Prop} {cells slots : Nat} (C : lw_C p l s m c b L xs D cA cL) (hc : cells + 1 ≤ 1063) (hs : slots + 6 ≤ 9965) (ht : 3 * t + 3 ≤ L) (kk : lw_N p l e s m below meth c b D h0 h1 cA cL ao t (cells + 1) (slots + 6) Q) : lw_I p l e s m below meth c b D h0 h1 cA cL ao t cells slots Q 1544 := by
  intro g rf M H locs ls hI hP hD hS hl
  obtain ⟨hx, hb, hml, hown, hts, hX, hbl, hlt, hE, hZ, hN, hK, hL⟩ := C
  have hA : ∀ q : Nat, s.heap.size ≤ q → (fun q : Nat => s.heap.size ≤ q) q := fun _ h => h
  have hbA : ¬ (fun q : Nat => s.heap.size ≤ q) b := Nat.not_le.mpr hbl
  have hcs0 : cells + 0 ≤ room_1.cells ∧ slots + 0 ≤ room_1.slots := ⟨show cells + 0 ≤ 1063 by omega, show slots + 0 ≤ 9965 by omega⟩
  have hcs1 : cells + 1 ≤ room_1.cells ∧ slots + 6 ≤ room_1.slots := ⟨hc, hs⟩
  have hcs2 : cells + 1 + 0 ≤ room_1.cells ∧ slots + 6 + 0 ≤ room_1.slots := ⟨hc, hs⟩
  refine W.widen (k := cells + 1) (n := slots + 6) (by omega) (by omega) ?_
  refine lv_aload_n hx hb dL_law_1544 rfl (lv_at hl 2 rfl) ?_
  refine vp_callSi (W.runV (As := []) (rest := []) ⟨hx, hb, hml, hown, hts⟩ (c0_paid l D h0 cA M hI.ok) (cwV 0 hts gL_law_X0_paid rfl rfl rfl (by decide +kernel) ⟨Nat.le_of_ble_eq_true rfl, Nat.le_of_ble_eq_true rfl⟩) ⟨pR_fb, va_recv hK hP (ci := 0) (q0 := 0) rfl rfl, pR_mk (p_left (p_left hP)) (hK.sub [0] rfl)⟩ rfl rfl hl.1 rfl (lv_room (Nat.le_of_ble_eq_true rfl)) dL_law_1545 hcs2) (fun r1 q1 => ?_)
  refine lv_aload_n hx hb dL_law_1548 rfl (lv_at hl 3 rfl) ?_
  refine g_calliW (wl := w0 h0 cA M ++ wO ao cL g) (wc := w1 h1 cA rf M) (wr := []) (wf := fun u : Int32 × MM => w1 h1 cA u.1 u.2) (va_runV (As := []) (rest := [.int r1]) ⟨hx, hb, hml, hown, hts⟩ (c1_paid l D h1 cA rf M hI.ok1 H.size) (cwV 0 hts gL_law_X1_paid rfl rfl rfl (by decide +kernel) ⟨Nat.le_of_ble_eq_true rfl, Nat.le_of_ble_eq_true rfl⟩) ⟨pW_fb, va_recv hK hP (ci := 1) (q0 := 13) rfl rfl, pW_mk (p_right hP) (hK.sub [0] rfl) (d_right hD)⟩ rfl rfl hl.1 rfl (lv_room (Nat.le_of_ble_eq_true rfl)) dL_law_1549 hcs2) (by rw [List.append_nil]) hP hD hS hA (fun r2 u2 H locs q2 hP hD hS => ?_)
  rw [List.append_nil] at hP hD
  obtain ⟨q2, rfl⟩ := q2
  refine lv_icmp_eq (tgt := 1570) hx hb dL_law_1552 (by decide) (fun _ => ?_) (fun z => absurd (q1.trans (Eq.trans ((t_paid M).symm) q2.symm)) z)
  exact kk g _ M H locs ls hI hP hD hS hl
set_option maxHeartbeats 4000000 in
set_option maxRecDepth 100000 in
theorem law_30_toCome {p : Program} {l : Launch} {e : Env} {s : State} {m : MethodId} {below : List Frame} {meth : Method} {c : Code} {b L : Nat} {xs : Nat → Int32} {D : va_G} {h0 h1 : Nat → Nat} {cA cL : ClassId} {ao t : Nat} {Q : State → Prop} {cells slots : Nat} (C : lw_C p l s m c b L xs D cA cL) (hc : cells + 1 ≤ 1063) (hs : slots + 6 ≤ 9965) (ht : 3 * t + 3 ≤ L) (kk : lw_N p l e s m below meth c b D h0 h1 cA cL ao t (cells + 1) (slots + 6) Q) : lw_I p l e s m below meth c b D h0 h1 cA cL ao t cells slots Q 1557 := by
  intro g rf M H locs ls hI hP hD hS hl
  obtain ⟨hx, hb, hml, hown, hts, hX, hbl, hlt, hE, hZ, hN, hK, hL⟩ := C
  have hA : ∀ q : Nat, s.heap.size ≤ q → (fun q : Nat => s.heap.size ≤ q) q := fun _ h => h
  have hbA : ¬ (fun q : Nat => s.heap.size ≤ q) b := Nat.not_le.mpr hbl
  have hcs0 : cells + 0 ≤ room_1.cells ∧ slots + 0 ≤ room_1.slots := ⟨show cells + 0 ≤ 1063 by omega, show slots + 0 ≤ 9965 by omega⟩
  have hcs1 : cells + 1 ≤ room_1.cells ∧ slots + 6 ≤ room_1.slots := ⟨hc, hs⟩
  have hcs2 : cells + 1 + 0 ≤ room_1.cells ∧ slots + 6 + 0 ≤ room_1.slots := ⟨hc, hs⟩
  refine W.widen (k := cells + 1) (n := slots + 6) (by omega) (by omega) ?_
  refine lv_aload_n hx hb dL_law_1557 rfl (lv_at hl 2 rfl) ?_
  refine vp_callSi (W.runV (As := []) (rest := []) ⟨hx, hb, hml, hown, hts⟩ (c0_toCome l D h0 cA M hI.ok) (cwV 0 hts gL_law_X0_toCome rfl rfl rfl (by decide +kernel) ⟨Nat.le_of_ble_eq_true rfl, Nat.le_of_ble_eq_true rfl⟩) ⟨pR_fb, va_recv hK hP (ci := 0) (q0 := 0) rfl rfl, pR_mk (p_left (p_left hP)) (hK.sub [0] rfl)⟩ rfl rfl hl.1 rfl (lv_room (Nat.le_of_ble_eq_true rfl)) dL_law_1558 hcs2) (fun r1 q1 => ?_)
  refine lv_aload_n hx hb dL_law_1561 rfl (lv_at hl 3 rfl) ?_
  refine g_calliW (wl := w0 h0 cA M ++ wO ao cL g) (wc := w1 h1 cA rf M) (wr := []) (wf := fun u : Int32 × MM => w1 h1 cA u.1 u.2) (va_runV (As := []) (rest := [.int r1]) ⟨hx, hb, hml, hown, hts⟩ (c1_toCome l D h1 cA rf M hI.ok1 H.size) (cwV 0 hts gL_law_X1_toCome rfl rfl rfl (by decide +kernel) ⟨Nat.le_of_ble_eq_true rfl, Nat.le_of_ble_eq_true rfl⟩) ⟨pW_fb, va_recv hK hP (ci := 1) (q0 := 13) rfl rfl, pW_mk (p_right hP) (hK.sub [0] rfl) (d_right hD)⟩ rfl rfl hl.1 rfl (lv_room (Nat.le_of_ble_eq_true rfl)) dL_law_1562 hcs2) (by rw [List.append_nil]) hP hD hS hA (fun r2 u2 H locs q2 hP hD hS => ?_)
  rw [List.append_nil] at hP hD
  obtain ⟨q2, rfl⟩ := q2
  refine lv_icmp_eq (tgt := 1570) hx hb dL_law_1565 (by decide) (fun _ => ?_) (fun z => absurd (q1.trans (Eq.trans ((by rw [t_paid]; rfl)) q2.symm)) z)
  exact kk g _ M H locs ls hI hP hD hS hl
