/-! THE LAW: more of its cases -/
set_option maxHeartbeats 4000000 in
set_option maxRecDepth 100000 in
theorem law_8_hold {p : Program} {l : Launch} {e : Env} {s : State} {m : MethodId} {below : List Frame} {meth : Method} {c : Code} {b L : Nat} {xs : Nat → Int32} {D : va_G} {h0 h1 : Nat → Nat} {cA cL : ClassId} {ao t : Nat} {Q : State → Prop} {cells slots : Nat} (C : lw_C p l s m c b L xs D cA cL) (hc : cells + 1 ≤ 1063) (hs : slots + 6 ≤ 9965) (ht : 3 * t + 3 ≤ L) (kk : lw_N p l e s m below meth c b D h0 h1 cA cL ao t (cells + 1) (slots + 6) Q) : lw_I p l e s m below meth c b D h0 h1 cA cL ao t cells slots Q 696 := by
  intro g rf M H locs ls hI hP hD hS hl
  obtain ⟨hx, hb, hml, hown, hts, hX, hbl, hlt, hE, hZ, hN, hK, hL⟩ := C
  have hA : ∀ q : Nat, s.heap.size ≤ q → (fun q : Nat => s.heap.size ≤ q) q := fun _ h => h
  have hbA : ¬ (fun q : Nat => s.heap.size ≤ q) b := Nat.not_le.mpr hbl
  have hcs0 : cells + 0 ≤ room_1.cells ∧ slots + 0 ≤ room_1.slots := ⟨show cells + 0 ≤ 1063 by omega, show slots + 0 ≤ 9965 by omega⟩
  have hcs1 : cells + 1 ≤ room_1.cells ∧ slots + 6 ≤ room_1.slots := ⟨hc, hs⟩
  have hcs2 : cells + 1 + 0 ≤ room_1.cells ∧ slots + 6 + 0 ≤ room_1.slots := ⟨hc, hs⟩
  refine W.widen (k := cells + 1) (n := slots + 6) (by omega) (by omega) ?_
  refine lv_aload_n hx hb dL_law_696 rfl (lv_at hl 2 rfl) ?_
  refine lv_aload_n hx hb dL_law_697 rfl (lv_at hl 1 rfl) ?_
  refine lv_iload hx hb dL_law_698 (lv_at hl 0 rfl) ?_
  refine lv_iconst (v := nI 1) hx hb dL_law_700 (by decide) ?_
  refine lv_iadd hx hb dL_law_701 ?_
  refine lw_ld (j := 3 * t) (d := 1) hx hb hX hbl hbA hS (by omega) (by omega) dL_law_702 ?_
  refine lv_if_eq (tgt := 710) hx hb dL_law_703 (by decide) (fun z1 => ?_) (fun z1 => ?_)
  · refine lv_iconst (v := 0) hx hb dL_law_710 (by decide) ?_
    rw [List.append_assoc] at hP hD
    refine g_calliW (wl := []) (wc := w0 h0 cA M) (wr := wO ao cL g ++ w1 h1 cA rf M) (wf := fun u : MM => w0 h0 cA u) (va_runV (As := [.int 0]) (rest := []) ⟨hx, hb, hml, hown, hts⟩ (c0_hold l D h0 cA M hI.ok 0 (Or.inl rfl) hI.hb H.size) (cwV 1 hts gL_law_X0_hold rfl rfl rfl (by decide +kernel) ⟨Nat.le_of_ble_eq_true rfl, Nat.le_of_ble_eq_true rfl⟩) ⟨pW_fb, va_recv hK hP (ci := 0) (q0 := 0) rfl rfl, pW_mk (p_left hP) (hK.sub [0] rfl) (d_left hD)⟩ rfl rfl hl.1 rfl (lv_room (Nat.le_of_ble_eq_true rfl)) dL_law_711 hcs2) rfl hP hD hS hA (fun r1 u1 H locs q1 hP hD hS => ?_)
    obtain ⟨rfl, rfl⟩ := q1
    have hP : va_P D vwCl ((w0 h0 cA (s_hb M 0) ++ wO ao cL g) ++ w1 h1 cA rf M) H := by rw [List.append_assoc]; exact hP
    have hD : va_D (fun q : Nat => s.heap.size ≤ q) ((w0 h0 cA (s_hb M 0) ++ wO ao cL g) ++ w1 h1 cA rf M) := by rw [List.append_assoc]; exact hD
    refine lv_aload_n hx hb dL_law_714 rfl (lv_at hl 3 rfl) ?_
    refine lv_aload_n hx hb dL_law_715 rfl (lv_at hl 1 rfl) ?_
    refine lv_iload hx hb dL_law_716 (lv_at hl 0 rfl) ?_
    refine lv_iconst (v := nI 1) hx hb dL_law_718 (by decide) ?_
    refine lv_iadd hx hb dL_law_719 ?_
    refine lw_ld (j := 3 * t) (d := 1) hx hb hX hbl hbA hS (by omega) (by omega) dL_law_720 ?_
    refine lv_if_eq (tgt := 728) hx hb dL_law_721 (by decide) (fun _ => ?_) (fun z2 => absurd z1 z2)
    refine lv_iconst (v := 0) hx hb dL_law_728 (by decide) ?_
    refine g_calliW (wl := w0 h0 cA (s_hb M 0) ++ wO ao cL g) (wc := w1 h1 cA rf M) (wr := []) (wf := fun u : Int32 × MM => w1 h1 cA u.1 u.2) (va_runV (As := [.int 0]) (rest := [.int (m_hb M)]) ⟨hx, hb, hml, hown, hts⟩ (c1_hold l D h1 cA rf M hI.ok1 0 (Or.inl rfl) hI.hb H.size) (cwV 1 hts gL_law_X1_hold rfl rfl rfl (by decide +kernel) ⟨Nat.le_of_ble_eq_true rfl, Nat.le_of_ble_eq_true rfl⟩) ⟨pW_fb, va_recv hK hP (ci := 1) (q0 := 13) rfl rfl, pW_mk (p_right hP) (hK.sub [0] rfl) (d_right hD)⟩ rfl rfl hl.1 rfl (lv_room (Nat.le_of_ble_eq_true rfl)) dL_law_729 hcs2) (by rw [List.append_nil]) hP hD hS hA (fun r2 u2 H locs q2 hP hD hS => ?_)
    rw [List.append_nil] at hP hD
    obtain ⟨rfl, rfl⟩ := q2
    refine lv_icmp_eq (tgt := 1570) hx hb dL_law_732 (by decide) (fun _ => ?_) (fun z => absurd rfl z)
    exact kk g _ (s_hb M 0) H locs ls (inv_hb hI (Or.inl rfl)) hP hD hS hl
  · refine lv_iconst (v := 1) hx hb dL_law_706 (by decide) ?_
    refine lv_goto (tgt := 711) hx hb dL_law_707 (by decide) ?_
    rw [List.append_assoc] at hP hD
    refine g_calliW (wl := []) (wc := w0 h0 cA M) (wr := wO ao cL g ++ w1 h1 cA rf M) (wf := fun u : MM => w0 h0 cA u) (va_runV (As := [.int 1]) (rest := []) ⟨hx, hb, hml, hown, hts⟩ (c0_hold l D h0 cA M hI.ok 1 (Or.inr rfl) hI.hb H.size) (cwV 1 hts gL_law_X0_hold rfl rfl rfl (by decide +kernel) ⟨Nat.le_of_ble_eq_true rfl, Nat.le_of_ble_eq_true rfl⟩) ⟨pW_fb, va_recv hK hP (ci := 0) (q0 := 0) rfl rfl, pW_mk (p_left hP) (hK.sub [0] rfl) (d_left hD)⟩ rfl rfl hl.1 rfl (lv_room (Nat.le_of_ble_eq_true rfl)) dL_law_711 hcs2) rfl hP hD hS hA (fun r1 u1 H locs q1 hP hD hS => ?_)
    obtain ⟨rfl, rfl⟩ := q1
    have hP : va_P D vwCl ((w0 h0 cA (s_hb M 1) ++ wO ao cL g) ++ w1 h1 cA rf M) H := by rw [List.append_assoc]; exact hP
    have hD : va_D (fun q : Nat => s.heap.size ≤ q) ((w0 h0 cA (s_hb M 1) ++ wO ao cL g) ++ w1 h1 cA rf M) := by rw [List.append_assoc]; exact hD
    refine lv_aload_n hx hb dL_law_714 rfl (lv_at hl 3 rfl) ?_
    refine lv_aload_n hx hb dL_law_715 rfl (lv_at hl 1 rfl) ?_
    refine lv_iload hx hb dL_law_716 (lv_at hl 0 rfl) ?_
    refine lv_iconst (v := nI 1) hx hb dL_law_718 (by decide) ?_
    refine lv_iadd hx hb dL_law_719 ?_
    refine lw_ld (j := 3 * t) (d := 1) hx hb hX hbl hbA hS (by omega) (by omega) dL_law_720 ?_
    refine lv_if_eq (tgt := 728) hx hb dL_law_721 (by decide) (fun z2 => absurd z2 z1) (fun _ => ?_)
    refine lv_iconst (v := 1) hx hb dL_law_724 (by decide) ?_
    refine lv_goto (tgt := 729) hx hb dL_law_725 (by decide) ?_
    refine g_calliW (wl := w0 h0 cA (s_hb M 1) ++ wO ao cL g) (wc := w1 h1 cA rf M) (wr := []) (wf := fun u : Int32 × MM => w1 h1 cA u.1 u.2) (va_runV (As := [.int 1]) (rest := [.int (m_hb M)]) ⟨hx, hb, hml, hown, hts⟩ (c1_hold l D h1 cA rf M hI.ok1 1 (Or.inr rfl) hI.hb H.size) (cwV 1 hts gL_law_X1_hold rfl rfl rfl (by decide +kernel) ⟨Nat.le_of_ble_eq_true rfl, Nat.le_of_ble_eq_true rfl⟩) ⟨pW_fb, va_recv hK hP (ci := 1) (q0 := 13) rfl rfl, pW_mk (p_right hP) (hK.sub [0] rfl) (d_right hD)⟩ rfl rfl hl.1 rfl (lv_room (Nat.le_of_ble_eq_true rfl)) dL_law_729 hcs2) (by rw [List.append_nil]) hP hD hS hA (fun r2 u2 H locs q2 hP hD hS => ?_)
    rw [List.append_nil] at hP hD
    obtain ⟨rfl, rfl⟩ := q2
    refine lv_icmp_eq (tgt := 1570) hx hb dL_law_732 (by decide) (fun _ => ?_) (fun z => absurd rfl z)
    exact kk g _ (s_hb M 1) H locs ls (inv_hb hI (Or.inr rfl)) hP hD hS hl
set_option maxHeartbeats 4000000 in
set_option maxRecDepth 100000 in
theorem law_9_steps {p : Program} {l : Launch} {e : Env} {s : State} {m : MethodId} {below : List Frame} {meth : Method} {c : Code} {b L : Nat} {xs : Nat → Int32} {D : va_G} {h0 h1 : Nat → Nat} {cA cL : ClassId} {ao t : Nat} {Q : State → Prop} {cells slots : Nat} (C : lw_C p l s m c b L xs D cA cL) (hc : cells + 1 ≤ 1063) (hs : slots + 6 ≤ 9965) (ht : 3 * t + 3 ≤ L) (kk : lw_N p l e s m below meth c b D h0 h1 cA cL ao t (cells + 1) (slots + 6) Q) : lw_I p l e s m below meth c b D h0 h1 cA cL ao t cells slots Q 737 := by
  intro g rf M H locs ls hI hP hD hS hl
  obtain ⟨hx, hb, hml, hown, hts, hX, hbl, hlt, hE, hZ, hN, hK, hL⟩ := C
  have hA : ∀ q : Nat, s.heap.size ≤ q → (fun q : Nat => s.heap.size ≤ q) q := fun _ h => h
  have hbA : ¬ (fun q : Nat => s.heap.size ≤ q) b := Nat.not_le.mpr hbl
  have hcs0 : cells + 0 ≤ room_1.cells ∧ slots + 0 ≤ room_1.slots := ⟨show cells + 0 ≤ 1063 by omega, show slots + 0 ≤ 9965 by omega⟩
  have hcs1 : cells + 1 ≤ room_1.cells ∧ slots + 6 ≤ room_1.slots := ⟨hc, hs⟩
  have hcs2 : cells + 1 + 0 ≤ room_1.cells ∧ slots + 6 + 0 ≤ room_1.slots := ⟨hc, hs⟩
  refine W.widen (k := cells + 1) (n := slots + 6) (by omega) (by omega) ?_
  refine lv_aload_n hx hb dL_law_737 rfl (lv_at hl 2 rfl) ?_
  refine vp_callSi (W.runV (As := []) (rest := []) ⟨hx, hb, hml, hown, hts⟩ (c0_steps l D h0 cA M hI.ok) (cwV 0 hts gL_law_X0_steps rfl rfl rfl (by decide +kernel) ⟨Nat.le_of_ble_eq_true rfl, Nat.le_of_ble_eq_true rfl⟩) ⟨pR_fb, va_recv hK hP (ci := 0) (q0 := 0) rfl rfl, pR_mk (p_left (p_left hP)) (hK.sub [0] rfl)⟩ rfl rfl hl.1 rfl (lv_room (Nat.le_of_ble_eq_true rfl)) dL_law_738 hcs2) (fun r1 q1 => ?_)
  refine lv_aload_n hx hb dL_law_741 rfl (lv_at hl 3 rfl) ?_
  refine g_calliW (wl := w0 h0 cA M ++ wO ao cL g) (wc := w1 h1 cA rf M) (wr := []) (wf := fun u : Int32 × MM => w1 h1 cA u.1 u.2) (va_runV (As := []) (rest := [.int r1]) ⟨hx, hb, hml, hown, hts⟩ (c1_steps l D h1 cA rf M hI.ok1 H.size) (cwV 0 hts gL_law_X1_steps rfl rfl rfl (by decide +kernel) ⟨Nat.le_of_ble_eq_true rfl, Nat.le_of_ble_eq_true rfl⟩) ⟨pW_fb, va_recv hK hP (ci := 1) (q0 := 13) rfl rfl, pW_mk (p_right hP) (hK.sub [0] rfl) (d_right hD)⟩ rfl rfl hl.1 rfl (lv_room (Nat.le_of_ble_eq_true rfl)) dL_law_742 hcs2) (by rw [List.append_nil]) hP hD hS hA (fun r2 u2 H locs q2 hP hD hS => ?_)
  rw [List.append_nil] at hP hD
  obtain ⟨q2, rfl⟩ := q2
  refine lv_icmp_eq (tgt := 1570) hx hb dL_law_745 (by decide) (fun _ => ?_) (fun z => absurd (q1.trans (Eq.trans ((t_steps hI).symm) q2.symm)) z)
  exact kk g _ M H locs ls hI hP hD hS hl
set_option maxHeartbeats 4000000 in
set_option maxRecDepth 100000 in
theorem law_10_progress {p : Program} {l : Launch} {e : Env} {s : State} {m : MethodId} {below : List Frame} {meth : Method} {c : Code} {b L : Nat} {xs : Nat → Int32} {D : va_G} {h0 h1 : Nat → Nat} {cA cL : ClassId} {ao t : Nat} {Q : State → Prop} {cells slots : Nat} (C : lw_C p l s m c b L xs D cA cL) (hc : cells + 1 ≤ 1063) (hs : slots + 6 ≤ 9965) (ht : 3 * t + 3 ≤ L) (kk : lw_N p l e s m below meth c b D h0 h1 cA cL ao t (cells + 1) (slots + 6) Q) : lw_I p l e s m below meth c b D h0 h1 cA cL ao t cells slots Q 750 := by
  intro g rf M H locs ls hI hP hD hS hl
  obtain ⟨hx, hb, hml, hown, hts, hX, hbl, hlt, hE, hZ, hN, hK, hL⟩ := C
  have hA : ∀ q : Nat, s.heap.size ≤ q → (fun q : Nat => s.heap.size ≤ q) q := fun _ h => h
  have hbA : ¬ (fun q : Nat => s.heap.size ≤ q) b := Nat.not_le.mpr hbl
  have hcs0 : cells + 0 ≤ room_1.cells ∧ slots + 0 ≤ room_1.slots := ⟨show cells + 0 ≤ 1063 by omega, show slots + 0 ≤ 9965 by omega⟩
  have hcs1 : cells + 1 ≤ room_1.cells ∧ slots + 6 ≤ room_1.slots := ⟨hc, hs⟩
  have hcs2 : cells + 1 + 0 ≤ room_1.cells ∧ slots + 6 + 0 ≤ room_1.slots := ⟨hc, hs⟩
  refine W.widen (k := cells + 1) (n := slots + 6) (by omega) (by omega) ?_
  refine lv_aload_n hx hb dL_law_750 rfl (lv_at hl 2 rfl) ?_
  refine vp_callSi (W.runV (As := []) (rest := []) ⟨hx, hb, hml, hown, hts⟩ (c0_progress l D h0 cA M hI.ok) (cwV 0 hts gL_law_X0_progress rfl rfl rfl (by decide +kernel) ⟨Nat.le_of_ble_eq_true rfl, Nat.le_of_ble_eq_true rfl⟩) ⟨pR_fb, va_recv hK hP (ci := 0) (q0 := 0) rfl rfl, pR_mk (p_left (p_left hP)) (hK.sub [0] rfl)⟩ rfl rfl hl.1 rfl (lv_room (Nat.le_of_ble_eq_true rfl)) dL_law_751 hcs2) (fun r1 q1 => ?_)
  refine lv_aload_n hx hb dL_law_754 rfl (lv_at hl 3 rfl) ?_
  refine g_calliW (wl := w0 h0 cA M ++ wO ao cL g) (wc := w1 h1 cA rf M) (wr := []) (wf := fun u : Int32 × MM => w1 h1 cA u.1 u.2) (va_runV (As := []) (rest := [.int r1]) ⟨hx, hb, hml, hown, hts⟩ (c1_progress l D h1 cA rf M hI.ok1 H.size) (cwV 0 hts gL_law_X1_progress rfl rfl rfl (by decide +kernel) ⟨Nat.le_of_ble_eq_true rfl, Nat.le_of_ble_eq_true rfl⟩) ⟨pW_fb, va_recv hK hP (ci := 1) (q0 := 13) rfl rfl, pW_mk (p_right hP) (hK.sub [0] rfl) (d_right hD)⟩ rfl rfl hl.1 rfl (lv_room (Nat.le_of_ble_eq_true rfl)) dL_law_755 hcs2) (by rw [List.append_nil]) hP hD hS hA (fun r2 u2 H locs q2 hP hD hS => ?_)
  rw [List.append_nil] at hP hD
  obtain ⟨q2, rfl⟩ := q2
  refine lv_icmp_eq (tgt := 1570) hx hb dL_law_758 (by decide) (fun _ => ?_) (fun z => absurd (q1.trans (Eq.trans ((t_progress hI).symm) q2.symm)) z)
  exact kk g _ M H locs ls hI hP hD hS hl
set_option maxHeartbeats 4000000 in
set_option maxRecDepth 100000 in
theorem law_11_rate {p : Program} {l : Launch} {e : Env} {s : State} {m : MethodId} {below : List Frame} {meth : Method} {c : Code} {b L : Nat} {xs : Nat → Int32} {D : va_G} {h0 h1 : Nat → Nat} {cA cL : ClassId} {ao t : Nat} {Q : State → Prop} {cells slots : Nat} (C : lw_C p l s m c b L xs D cA cL) (hc : cells + 1 ≤ 1063) (hs : slots + 6 ≤ 9965) (ht : 3 * t + 3 ≤ L) (kk : lw_N p l e s m below meth c b D h0 h1 cA cL ao t (cells + 1) (slots + 6) Q) : lw_I p l e s m below meth c b D h0 h1 cA cL ao t cells slots Q 763 := by
  intro g rf M H locs ls hI hP hD hS hl
  obtain ⟨hx, hb, hml, hown, hts, hX, hbl, hlt, hE, hZ, hN, hK, hL⟩ := C
  have hA : ∀ q : Nat, s.heap.size ≤ q → (fun q : Nat => s.heap.size ≤ q) q := fun _ h => h
  have hbA : ¬ (fun q : Nat => s.heap.size ≤ q) b := Nat.not_le.mpr hbl
  have hcs0 : cells + 0 ≤ room_1.cells ∧ slots + 0 ≤ room_1.slots := ⟨show cells + 0 ≤ 1063 by omega, show slots + 0 ≤ 9965 by omega⟩
  have hcs1 : cells + 1 ≤ room_1.cells ∧ slots + 6 ≤ room_1.slots := ⟨hc, hs⟩
  have hcs2 : cells + 1 + 0 ≤ room_1.cells ∧ slots + 6 + 0 ≤ room_1.slots := ⟨hc, hs⟩
  refine W.widen (k := cells + 1) (n := slots + 6) (by omega) (by omega) ?_
  refine lv_aload_n hx hb dL_law_763 rfl (lv_at hl 2 rfl) ?_
  refine vp_callSi (W.runV (As := []) (rest := []) ⟨hx, hb, hml, hown, hts⟩ (c0_rate l D h0 cA M hI.ok) (cwV 0 hts gL_law_X0_rate rfl rfl rfl (by decide +kernel) ⟨Nat.le_of_ble_eq_true rfl, Nat.le_of_ble_eq_true rfl⟩) ⟨pR_fb, va_recv hK hP (ci := 0) (q0 := 0) rfl rfl, pR_mk (p_left (p_left hP)) (hK.sub [0] rfl)⟩ rfl rfl hl.1 rfl (lv_room (Nat.le_of_ble_eq_true rfl)) dL_law_764 hcs2) (fun r1 q1 => ?_)
  refine lv_aload_n hx hb dL_law_767 rfl (lv_at hl 3 rfl) ?_
  refine g_calliW (wl := w0 h0 cA M ++ wO ao cL g) (wc := w1 h1 cA rf M) (wr := []) (wf := fun u : Int32 × MM => w1 h1 cA u.1 u.2) (va_runV (As := []) (rest := [.int r1]) ⟨hx, hb, hml, hown, hts⟩ (c1_rate l D h1 cA rf M hI.rtm H.size) (cwV 0 hts gL_law_X1_rate rfl rfl rfl (by decide +kernel) ⟨Nat.le_of_ble_eq_true rfl, Nat.le_of_ble_eq_true rfl⟩) ⟨pW_fb, va_recv hK hP (ci := 1) (q0 := 13) rfl rfl, pW_mk (p_right hP) (hK.sub [0] rfl) (d_right hD)⟩ rfl rfl hl.1 rfl (lv_room (Nat.le_of_ble_eq_true rfl)) dL_law_768 hcs2) (by rw [List.append_nil]) hP hD hS hA (fun r2 u2 H locs q2 hP hD hS => ?_)
  rw [List.append_nil] at hP hD
  obtain ⟨q2, rfl⟩ := q2
  refine lv_icmp_eq (tgt := 1570) hx hb dL_law_771 (by decide) (fun _ => ?_) (fun z => absurd (q1.trans (Eq.trans ((t_rate hI).symm) q2.symm)) z)
  exact kk g _ M H locs ls hI hP hD hS hl
set_option maxHeartbeats 4000000 in
set_option maxRecDepth 100000 in
theorem law_12_close {p : Program} {l : Launch} {e : Env} {s : State} {m : MethodId} {below : List Frame} {meth : Method} {c : Code} {b L : Nat} {xs : Nat → Int32} {D : va_G} {h0 h1 : Nat → Nat} {cA cL : ClassId} {ao t : Nat} {Q : State → Prop} {cells slots : Nat} (C : lw_C p l s m c b L xs D cA cL) (hc : cells + 1 ≤ 1063) (hs : slots + 6 ≤ 9965) (ht : 3 * t + 3 ≤ L) (kk : lw_N p l e s m below meth c b D h0 h1 cA cL ao t (cells + 1) (slots + 6) Q) : lw_I p l e s m below meth c b D h0 h1 cA cL ao t cells slots Q 776 := by
  intro g rf M H locs ls hI hP hD hS hl
  obtain ⟨hx, hb, hml, hown, hts, hX, hbl, hlt, hE, hZ, hN, hK, hL⟩ := C
  have hA : ∀ q : Nat, s.heap.size ≤ q → (fun q : Nat => s.heap.size ≤ q) q := fun _ h => h
  have hbA : ¬ (fun q : Nat => s.heap.size ≤ q) b := Nat.not_le.mpr hbl
  have hcs0 : cells + 0 ≤ room_1.cells ∧ slots + 0 ≤ room_1.slots := ⟨show cells + 0 ≤ 1063 by omega, show slots + 0 ≤ 9965 by omega⟩
  have hcs1 : cells + 1 ≤ room_1.cells ∧ slots + 6 ≤ room_1.slots := ⟨hc, hs⟩
  have hcs2 : cells + 1 + 0 ≤ room_1.cells ∧ slots + 6 + 0 ≤ room_1.slots := ⟨hc, hs⟩
  refine lv_aload_n hx hb dL_law_776 rfl (lv_at hl 2 rfl) ?_
  refine lv_aload_n hx hb dL_law_777 rfl (lv_at hl 4 rfl) ?_
  refine g_calliW (wl := []) (wc := w0 h0 cA M ++ wO ao cL g) (wr := w1 h1 cA rf M) (wf := fun u : MM × (Nat → Int64) => w0 h0 cA u.1 ++ wO ao cL u.2) (vx_runSW (As := [.ref (h0 0), .ref ao]) (rest := []) ⟨hx, hb, hml, hown, hts⟩ (eL_close l hlt D h0 cA cL M hI.ok ao g H.size) (vx_cwSW 2 hts gL_law_L_close rfl rfl rfl (by decide +kernel) ⟨Nat.le_of_ble_eq_true rfl, Nat.le_of_ble_eq_true rfl⟩) ⟨l_fb, l_mk (p_left hP) hK (d_left hD) hE hZ hS hN⟩ rfl rfl hl.1 rfl (lv_room (Nat.le_of_ble_eq_true rfl)) dL_law_778 hcs1) rfl hP hD hS hA (fun r1 u1 H locs q1 hP hD hS => ?_)
  obtain ⟨u1, g1⟩ := u1
  have hP : va_P D vwCl ((w0 h0 cA u1 ++ wO ao cL g1) ++ w1 h1 cA rf M) H := hP
  have hD : va_D (fun q : Nat => s.heap.size ≤ q) ((w0 h0 cA u1 ++ wO ao cL g1) ++ w1 h1 cA rf M) := hD
  refine lv_istore (lv' := [(5, .int r1), (4, .int (nI (3 * t))), (0, .ref b), (1, .ref (h0 0)), (2, .ref (h1 0)), (3, .ref ao)]) hx hb dL_law_781 hl (by decide) rfl (fun ls hl => ?_)
  refine lv_aload_n hx hb dL_law_783 rfl (lv_at hl 4 rfl) ?_
  refine g_calliW (wl := w0 h0 cA u1 ++ wO ao cL g1) (wc := w1 h1 cA rf M) (wr := []) (wf := fun u : Int32 × MM => w1 h1 cA u.1 u.2) (va_runV (As := []) (rest := []) ⟨hx, hb, hml, hown, hts⟩ (c1_close l D h1 cA rf M hI.rtm H.size) (cwV 0 hts gL_law_X1_close rfl rfl rfl (by decide +kernel) ⟨Nat.le_of_ble_eq_true rfl, Nat.le_of_ble_eq_true rfl⟩) ⟨pW_fb, va_recv hK hP (ci := 1) (q0 := 13) rfl rfl, pW_mk (p_right hP) (hK.sub [0] rfl) (d_right hD)⟩ rfl rfl hl.1 rfl (lv_room (Nat.le_of_ble_eq_true rfl)) dL_law_784 hcs2) (by rw [List.append_nil]) hP hD hS hA (fun r2 u2 H locs q2 hP hD hS => ?_)
  rw [List.append_nil] at hP hD
  obtain ⟨f2, u2⟩ := u2
  obtain ⟨N, hIN, e0, e1, ef, eg⟩ := lw_fin (s_close hI) q1 q2
  have hP : va_P D vwCl ((w0 h0 cA N ++ wO ao cL g1) ++ w1 h1 cA f2 N) H := by rw [← e0 h0 cA, ← e1 h1 cA f2]; exact hP
  have hD : va_D (fun q : Nat => s.heap.size ≤ q) ((w0 h0 cA N ++ wO ao cL g1) ++ w1 h1 cA f2 N) := by rw [← e0 h0 cA, ← e1 h1 cA f2]; exact hD
  refine lv_istore (lv' := [(6, .int r2), (5, .int r1), (4, .int (nI (3 * t))), (0, .ref b), (1, .ref (h0 0)), (2, .ref (h1 0)), (3, .ref ao)]) hx hb dL_law_787 hl (by decide) rfl (fun ls hl => ?_)
  refine lv_aload_n hx hb dL_law_789 rfl (lv_at hl 5 rfl) ?_
  refine vp_callSi (W.runV (As := []) (rest := []) ⟨hx, hb, hml, hown, hts⟩ (c1_thrown l D h1 cA f2 N hIN.ok1) (cwV 0 hts gL_law_X1_thrown rfl rfl rfl (by decide +kernel) ⟨Nat.le_of_ble_eq_true rfl, Nat.le_of_ble_eq_true rfl⟩) ⟨pR_fb, va_recv hK hP (ci := 1) (q0 := 13) rfl rfl, pR_mk (p_right hP) (hK.sub [0] rfl)⟩ rfl rfl hl.1 rfl (lv_room (Nat.le_of_ble_eq_true rfl)) dL_law_790 hcs2) (fun r3 q3 => ?_)
  subst q3
  refine lv_iload hx hb dL_law_793 (lv_at hl 1 rfl) ?_
  refine lv_icmp_eq (tgt := 800) hx hb dL_law_795 (by decide) (fun _ => ?_) (fun z => absurd ef z)
  refine lv_iload hx hb dL_law_800 (lv_at hl 1 rfl) ?_
  refine lv_if_ne (tgt := 817) hx hb dL_law_802 (by decide) (fun _ => ?_) (fun z => ?_)
  · refine lv_goto (tgt := 1570) hx hb dL_law_817 (by decide) ?_
    exact kk g1 _ N H locs ls hIN hP hD hS (lv_sub hl [2, 3, 4, 5, 6] rfl)
  · refine lv_aload_n hx hb dL_law_805 rfl (lv_at hl 6 rfl) ?_
    refine lv_iconst (v := 0) hx hb dL_law_806 (by decide) ?_
    refine va_lald (f := g1) hx hb hK hP 12 1 rfl rfl (vp_in_nI (n := 0) (N := 1) (by decide) (by decide)) dL_law_807 ?_
    refine lv_iload hx hb dL_law_808 (lv_at hl 0 rfl) ?_
    refine lv_i2l (v := r2.toInt64) hx hb dL_law_810 rfl ?_
    refine W.lcmp hx hb dL_law_811 ?_
    refine lv_if_eq (tgt := 817) hx hb dL_law_812 (by decide) (fun _ => ?_) (fun c9 => absurd (eg z) (k_cne c9))
    refine lv_goto (tgt := 1570) hx hb dL_law_817 (by decide) ?_
    exact kk g1 _ N H locs ls hIN hP hD hS (lv_sub hl [2, 3, 4, 5, 6] rfl)
set_option maxHeartbeats 4000000 in
set_option maxRecDepth 100000 in
theorem law_13_nextAmount {p : Program} {l : Launch} {e : Env} {s : State} {m : MethodId} {below : List Frame} {meth : Method} {c : Code} {b L : Nat} {xs : Nat → Int32} {D : va_G} {h0 h1 : Nat → Nat} {cA cL : ClassId} {ao t : Nat} {Q : State → Prop} {cells slots : Nat} (C : lw_C p l s m c b L xs D cA cL) (hc : cells + 1 ≤ 1063) (hs : slots + 6 ≤ 9965) (ht : 3 * t + 3 ≤ L) (kk : lw_N p l e s m below meth c b D h0 h1 cA cL ao t (cells + 1) (slots + 6) Q) : lw_I p l e s m below meth c b D h0 h1 cA cL ao t cells slots Q 820 := by
  intro g rf M H locs ls hI hP hD hS hl
  obtain ⟨hx, hb, hml, hown, hts, hX, hbl, hlt, hE, hZ, hN, hK, hL⟩ := C
  have hA : ∀ q : Nat, s.heap.size ≤ q → (fun q : Nat => s.heap.size ≤ q) q := fun _ h => h
  have hbA : ¬ (fun q : Nat => s.heap.size ≤ q) b := Nat.not_le.mpr hbl
  have hcs0 : cells + 0 ≤ room_1.cells ∧ slots + 0 ≤ room_1.slots := ⟨show cells + 0 ≤ 1063 by omega, show slots + 0 ≤ 9965 by omega⟩
  have hcs1 : cells + 1 ≤ room_1.cells ∧ slots + 6 ≤ room_1.slots := ⟨hc, hs⟩
  have hcs2 : cells + 1 + 0 ≤ room_1.cells ∧ slots + 6 + 0 ≤ room_1.slots := ⟨hc, hs⟩
  refine W.widen (k := cells + 1) (n := slots + 6) (by omega) (by omega) ?_
  refine lv_aload_n hx hb dL_law_820 rfl (lv_at hl 2 rfl) ?_
  refine vp_callSi (W.runV (As := []) (rest := []) ⟨hx, hb, hml, hown, hts⟩ (c0_nextAmount l D h0 cA M hI.ok) (cwV 0 hts gL_law_X0_nextAmount rfl rfl rfl (by decide +kernel) ⟨Nat.le_of_ble_eq_true rfl, Nat.le_of_ble_eq_true rfl⟩) ⟨pR_fb, va_recv hK hP (ci := 0) (q0 := 0) rfl rfl, pR_mk (p_left (p_left hP)) (hK.sub [0] rfl)⟩ rfl rfl hl.1 rfl (lv_room (Nat.le_of_ble_eq_true rfl)) dL_law_821 hcs2) (fun r1 q1 => ?_)
  refine lv_aload_n hx hb dL_law_824 rfl (lv_at hl 3 rfl) ?_
  refine g_calliW (wl := w0 h0 cA M ++ wO ao cL g) (wc := w1 h1 cA rf M) (wr := []) (wf := fun u : Int32 × MM => w1 h1 cA u.1 u.2) (va_runV (As := []) (rest := [.int r1]) ⟨hx, hb, hml, hown, hts⟩ (c1_nextAmount l D h1 cA rf M hI.rtm H.size) (cwV 0 hts gL_law_X1_nextAmount rfl rfl rfl (by decide +kernel) ⟨Nat.le_of_ble_eq_true rfl, Nat.le_of_ble_eq_true rfl⟩) ⟨pW_fb, va_recv hK hP (ci := 1) (q0 := 13) rfl rfl, pW_mk (p_right hP) (hK.sub [0] rfl) (d_right hD)⟩ rfl rfl hl.1 rfl (lv_room (Nat.le_of_ble_eq_true rfl)) dL_law_825 hcs2) (by rw [List.append_nil]) hP hD hS hA (fun r2 u2 H locs q2 hP hD hS => ?_)
  rw [List.append_nil] at hP hD
  obtain ⟨q2, rfl⟩ := q2
  refine lv_icmp_eq (tgt := 1570) hx hb dL_law_828 (by decide) (fun _ => ?_) (fun z => absurd (q1.trans (Eq.trans (next_two hI) q2.symm)) z)
  exact kk g _ M H locs ls hI hP hD hS hl
set_option maxHeartbeats 4000000 in
set_option maxRecDepth 100000 in
theorem law_14_pay {p : Program} {l : Launch} {e : Env} {s : State} {m : MethodId} {below : List Frame} {meth : Method} {c : Code} {b L : Nat} {xs : Nat → Int32} {D : va_G} {h0 h1 : Nat → Nat} {cA cL : ClassId} {ao t : Nat} {Q : State → Prop} {cells slots : Nat} (C : lw_C p l s m c b L xs D cA cL) (hc : cells + 1 ≤ 1063) (hs : slots + 6 ≤ 9965) (ht : 3 * t + 3 ≤ L) (kk : lw_N p l e s m below meth c b D h0 h1 cA cL ao t (cells + 1) (slots + 6) Q) : lw_I p l e s m below meth c b D h0 h1 cA cL ao t cells slots Q 833 := by
  intro g rf M H locs ls hI hP hD hS hl
  obtain ⟨hx, hb, hml, hown, hts, hX, hbl, hlt, hE, hZ, hN, hK, hL⟩ := C
  have hA : ∀ q : Nat, s.heap.size ≤ q → (fun q : Nat => s.heap.size ≤ q) q := fun _ h => h
  have hbA : ¬ (fun q : Nat => s.heap.size ≤ q) b := Nat.not_le.mpr hbl
  have hcs0 : cells + 0 ≤ room_1.cells ∧ slots + 0 ≤ room_1.slots := ⟨show cells + 0 ≤ 1063 by omega, show slots + 0 ≤ 9965 by omega⟩
  have hcs1 : cells + 1 ≤ room_1.cells ∧ slots + 6 ≤ room_1.slots := ⟨hc, hs⟩
  have hcs2 : cells + 1 + 0 ≤ room_1.cells ∧ slots + 6 + 0 ≤ room_1.slots := ⟨hc, hs⟩
  refine lv_aload_n hx hb dL_law_833 rfl (lv_at hl 2 rfl) ?_
  refine lv_aload_n hx hb dL_law_834 rfl (lv_at hl 1 rfl) ?_
  refine lv_iload hx hb dL_law_835 (lv_at hl 0 rfl) ?_
  refine lv_iconst (v := nI 1) hx hb dL_law_837 (by decide) ?_
  refine lv_iadd hx hb dL_law_838 ?_
  refine lw_ld (j := 3 * t) (d := 1) hx hb hX hbl hbA hS (by omega) (by omega) dL_law_839 ?_
  refine lv_aload_n hx hb dL_law_840 rfl (lv_at hl 4 rfl) ?_
  refine g_calliW (wl := []) (wc := w0 h0 cA M ++ wO ao cL g) (wr := w1 h1 cA rf M) (wf := fun u : MM × (Nat → Int64) => w0 h0 cA u.1 ++ wO ao cL u.2) (vx_runSW (As := [.ref (h0 0), .int (xs (3 * t + 1)), .ref ao]) (rest := []) ⟨hx, hb, hml, hown, hts⟩ (eL_pay l hlt D h0 cA cL M hI.ok ao g (xs (3 * t + 1)) H.size) (vx_cwSW 3 hts gL_law_L_pay rfl rfl rfl (by decide +kernel) ⟨Nat.le_of_ble_eq_true rfl, Nat.le_of_ble_eq_true rfl⟩) ⟨l_fb, l_mk (p_left hP) hK (d_left hD) hE hZ hS hN⟩ rfl rfl hl.1 rfl (lv_room (Nat.le_of_ble_eq_true rfl)) dL_law_841 hcs1) rfl hP hD hS hA (fun r1 u1 H locs q1 hP hD hS => ?_)
  obtain ⟨u1, g1⟩ := u1
  have hP : va_P D vwCl ((w0 h0 cA u1 ++ wO ao cL g1) ++ w1 h1 cA rf M) H := hP
  have hD : va_D (fun q : Nat => s.heap.size ≤ q) ((w0 h0 cA u1 ++ wO ao cL g1) ++ w1 h1 cA rf M) := hD
  refine lv_istore (lv' := [(5, .int r1), (4, .int (nI (3 * t))), (0, .ref b), (1, .ref (h0 0)), (2, .ref (h1 0)), (3, .ref ao)]) hx hb dL_law_844 hl (by decide) rfl (fun ls hl => ?_)
  refine lv_aload_n hx hb dL_law_846 rfl (lv_at hl 4 rfl) ?_
  refine lv_aload_n hx hb dL_law_847 rfl (lv_at hl 2 rfl) ?_
  refine lv_iload hx hb dL_law_848 (lv_at hl 1 rfl) ?_
  refine lv_iconst (v := nI 1) hx hb dL_law_850 (by decide) ?_
  refine lv_iadd hx hb dL_law_851 ?_
  refine lw_ld (j := 3 * t) (d := 1) hx hb hX hbl hbA hS (by omega) (by omega) dL_law_852 ?_
  refine g_calliW (wl := w0 h0 cA u1 ++ wO ao cL g1) (wc := w1 h1 cA rf M) (wr := []) (wf := fun u : Int32 × MM => w1 h1 cA u.1 u.2) (va_runV (As := [.int (xs (3 * t + 1))]) (rest := []) ⟨hx, hb, hml, hown, hts⟩ (c1_pay l D h1 cA rf M hI.ok1 (xs (3 * t + 1)) H.size) (cwV 1 hts gL_law_X1_pay rfl rfl rfl (by decide +kernel) ⟨Nat.le_of_ble_eq_true rfl, Nat.le_of_ble_eq_true rfl⟩) ⟨pW_fb, va_recv hK hP (ci := 1) (q0 := 13) rfl rfl, pW_mk (p_right hP) (hK.sub [0] rfl) (d_right hD)⟩ rfl rfl hl.1 rfl (lv_room (Nat.le_of_ble_eq_true rfl)) dL_law_853 hcs2) (by rw [List.append_nil]) hP hD hS hA (fun r2 u2 H locs q2 hP hD hS => ?_)
  rw [List.append_nil] at hP hD
  obtain ⟨f2, u2⟩ := u2
  obtain ⟨N, hIN, e0, e1, ef, eg⟩ := lw_fin (s_pay hI (xs (3 * t + 1))) q1 q2
  have hP : va_P D vwCl ((w0 h0 cA N ++ wO ao cL g1) ++ w1 h1 cA f2 N) H := by rw [← e0 h0 cA, ← e1 h1 cA f2]; exact hP
  have hD : va_D (fun q : Nat => s.heap.size ≤ q) ((w0 h0 cA N ++ wO ao cL g1) ++ w1 h1 cA f2 N) := by rw [← e0 h0 cA, ← e1 h1 cA f2]; exact hD
  refine lv_istore (lv' := [(6, .int r2), (5, .int r1), (4, .int (nI (3 * t))), (0, .ref b), (1, .ref (h0 0)), (2, .ref (h1 0)), (3, .ref ao)]) hx hb dL_law_856 hl (by decide) rfl (fun ls hl => ?_)
  refine lv_aload_n hx hb dL_law_858 rfl (lv_at hl 5 rfl) ?_
  refine vp_callSi (W.runV (As := []) (rest := []) ⟨hx, hb, hml, hown, hts⟩ (c1_thrown l D h1 cA f2 N hIN.ok1) (cwV 0 hts gL_law_X1_thrown rfl rfl rfl (by decide +kernel) ⟨Nat.le_of_ble_eq_true rfl, Nat.le_of_ble_eq_true rfl⟩) ⟨pR_fb, va_recv hK hP (ci := 1) (q0 := 13) rfl rfl, pR_mk (p_right hP) (hK.sub [0] rfl)⟩ rfl rfl hl.1 rfl (lv_room (Nat.le_of_ble_eq_true rfl)) dL_law_859 hcs2) (fun r3 q3 => ?_)
  subst q3
  refine lv_iload hx hb dL_law_862 (lv_at hl 1 rfl) ?_
  refine lv_icmp_eq (tgt := 869) hx hb dL_law_864 (by decide) (fun _ => ?_) (fun z => absurd ef z)
  refine lv_iload hx hb dL_law_869 (lv_at hl 1 rfl) ?_
  refine lv_if_ne (tgt := 886) hx hb dL_law_871 (by decide) (fun _ => ?_) (fun z => ?_)
  · refine lv_goto (tgt := 1570) hx hb dL_law_886 (by decide) ?_
    exact kk g1 _ N H locs ls hIN hP hD hS (lv_sub hl [2, 3, 4, 5, 6] rfl)
  · refine lv_aload_n hx hb dL_law_874 rfl (lv_at hl 6 rfl) ?_
    refine lv_iconst (v := 0) hx hb dL_law_875 (by decide) ?_
    refine va_lald (f := g1) hx hb hK hP 12 1 rfl rfl (vp_in_nI (n := 0) (N := 1) (by decide) (by decide)) dL_law_876 ?_
    refine lv_iload hx hb dL_law_877 (lv_at hl 0 rfl) ?_
    refine lv_i2l (v := r2.toInt64) hx hb dL_law_879 rfl ?_
    refine W.lcmp hx hb dL_law_880 ?_
    refine lv_if_eq (tgt := 886) hx hb dL_law_881 (by decide) (fun _ => ?_) (fun c9 => absurd (eg z) (k_cne c9))
    refine lv_goto (tgt := 1570) hx hb dL_law_886 (by decide) ?_
    exact kk g1 _ N H locs ls hIN hP hD hS (lv_sub hl [2, 3, 4, 5, 6] rfl)
set_option maxHeartbeats 4000000 in
set_option maxRecDepth 100000 in
theorem law_15_waive {p : Program} {l : Launch} {e : Env} {s : State} {m : MethodId} {below : List Frame} {meth : Method} {c : Code} {b L : Nat} {xs : Nat → Int32} {D : va_G} {h0 h1 : Nat → Nat} {cA cL : ClassId} {ao t : Nat} {Q : State → Prop} {cells slots : Nat} (C : lw_C p l s m c b L xs D cA cL) (hc : cells + 1 ≤ 1063) (hs : slots + 6 ≤ 9965) (ht : 3 * t + 3 ≤ L) (kk : lw_N p l e s m below meth c b D h0 h1 cA cL ao t (cells + 1) (slots + 6) Q) : lw_I p l e s m below meth c b D h0 h1 cA cL ao t cells slots Q 889 := by
  intro g rf M H locs ls hI hP hD hS hl
  obtain ⟨hx, hb, hml, hown, hts, hX, hbl, hlt, hE, hZ, hN, hK, hL⟩ := C
  have hA : ∀ q : Nat, s.heap.size ≤ q → (fun q : Nat => s.heap.size ≤ q) q := fun _ h => h
  have hbA : ¬ (fun q : Nat => s.heap.size ≤ q) b := Nat.not_le.mpr hbl
  have hcs0 : cells + 0 ≤ room_1.cells ∧ slots + 0 ≤ room_1.slots := ⟨show cells + 0 ≤ 1063 by omega, show slots + 0 ≤ 9965 by omega⟩
  have hcs1 : cells + 1 ≤ room_1.cells ∧ slots + 6 ≤ room_1.slots := ⟨hc, hs⟩
  have hcs2 : cells + 1 + 0 ≤ room_1.cells ∧ slots + 6 + 0 ≤ room_1.slots := ⟨hc, hs⟩
  refine lv_aload_n hx hb dL_law_889 rfl (lv_at hl 2 rfl) ?_
  refine lv_aload_n hx hb dL_law_890 rfl (lv_at hl 1 rfl) ?_
  refine lv_iload hx hb dL_law_891 (lv_at hl 0 rfl) ?_
  refine lv_iconst (v := nI 1) hx hb dL_law_893 (by decide) ?_
  refine lv_iadd hx hb dL_law_894 ?_
  refine lw_ld (j := 3 * t) (d := 1) hx hb hX hbl hbA hS (by omega) (by omega) dL_law_895 ?_
  refine lv_aload_n hx hb dL_law_896 rfl (lv_at hl 4 rfl) ?_
  refine g_calliW (wl := []) (wc := w0 h0 cA M ++ wO ao cL g) (wr := w1 h1 cA rf M) (wf := fun u : MM × (Nat → Int64) => w0 h0 cA u.1 ++ wO ao cL u.2) (vx_runSW (As := [.ref (h0 0), .int (xs (3 * t + 1)), .ref ao]) (rest := []) ⟨hx, hb, hml, hown, hts⟩ (eL_waive l hlt D h0 cA cL M hI.ok ao g (xs (3 * t + 1)) H.size) (vx_cwSW 3 hts gL_law_L_waive rfl rfl rfl (by decide +kernel) ⟨Nat.le_of_ble_eq_true rfl, Nat.le_of_ble_eq_true rfl⟩) ⟨l_fb, l_mk (p_left hP) hK (d_left hD) hE hZ hS hN⟩ rfl rfl hl.1 rfl (lv_room (Nat.le_of_ble_eq_true rfl)) dL_law_897 hcs1) rfl hP hD hS hA (fun r1 u1 H locs q1 hP hD hS => ?_)
  obtain ⟨u1, g1⟩ := u1
  have hP : va_P D vwCl ((w0 h0 cA u1 ++ wO ao cL g1) ++ w1 h1 cA rf M) H := hP
  have hD : va_D (fun q : Nat => s.heap.size ≤ q) ((w0 h0 cA u1 ++ wO ao cL g1) ++ w1 h1 cA rf M) := hD
  refine lv_istore (lv' := [(5, .int r1), (4, .int (nI (3 * t))), (0, .ref b), (1, .ref (h0 0)), (2, .ref (h1 0)), (3, .ref ao)]) hx hb dL_law_900 hl (by decide) rfl (fun ls hl => ?_)
  refine lv_aload_n hx hb dL_law_902 rfl (lv_at hl 4 rfl) ?_
  refine lv_aload_n hx hb dL_law_903 rfl (lv_at hl 2 rfl) ?_
  refine lv_iload hx hb dL_law_904 (lv_at hl 1 rfl) ?_
  refine lv_iconst (v := nI 1) hx hb dL_law_906 (by decide) ?_
  refine lv_iadd hx hb dL_law_907 ?_
  refine lw_ld (j := 3 * t) (d := 1) hx hb hX hbl hbA hS (by omega) (by omega) dL_law_908 ?_
  refine g_calliW (wl := w0 h0 cA u1 ++ wO ao cL g1) (wc := w1 h1 cA rf M) (wr := []) (wf := fun u : Int32 × MM => w1 h1 cA u.1 u.2) (va_runV (As := [.int (xs (3 * t + 1))]) (rest := []) ⟨hx, hb, hml, hown, hts⟩ (c1_waive l D h1 cA rf M hI.ok1 (xs (3 * t + 1)) H.size) (cwV 1 hts gL_law_X1_waive rfl rfl rfl (by decide +kernel) ⟨Nat.le_of_ble_eq_true rfl, Nat.le_of_ble_eq_true rfl⟩) ⟨pW_fb, va_recv hK hP (ci := 1) (q0 := 13) rfl rfl, pW_mk (p_right hP) (hK.sub [0] rfl) (d_right hD)⟩ rfl rfl hl.1 rfl (lv_room (Nat.le_of_ble_eq_true rfl)) dL_law_909 hcs2) (by rw [List.append_nil]) hP hD hS hA (fun r2 u2 H locs q2 hP hD hS => ?_)
  rw [List.append_nil] at hP hD
  obtain ⟨f2, u2⟩ := u2
  obtain ⟨N, hIN, e0, e1, ef, eg⟩ := lw_fin (s_waive hI (xs (3 * t + 1))) q1 q2
  have hP : va_P D vwCl ((w0 h0 cA N ++ wO ao cL g1) ++ w1 h1 cA f2 N) H := by rw [← e0 h0 cA, ← e1 h1 cA f2]; exact hP
  have hD : va_D (fun q : Nat => s.heap.size ≤ q) ((w0 h0 cA N ++ wO ao cL g1) ++ w1 h1 cA f2 N) := by rw [← e0 h0 cA, ← e1 h1 cA f2]; exact hD
  refine lv_istore (lv' := [(6, .int r2), (5, .int r1), (4, .int (nI (3 * t))), (0, .ref b), (1, .ref (h0 0)), (2, .ref (h1 0)), (3, .ref ao)]) hx hb dL_law_912 hl (by decide) rfl (fun ls hl => ?_)
  refine lv_aload_n hx hb dL_law_914 rfl (lv_at hl 5 rfl) ?_
  refine vp_callSi (W.runV (As := []) (rest := []) ⟨hx, hb, hml, hown, hts⟩ (c1_thrown l D h1 cA f2 N hIN.ok1) (cwV 0 hts gL_law_X1_thrown rfl rfl rfl (by decide +kernel) ⟨Nat.le_of_ble_eq_true rfl, Nat.le_of_ble_eq_true rfl⟩) ⟨pR_fb, va_recv hK hP (ci := 1) (q0 := 13) rfl rfl, pR_mk (p_right hP) (hK.sub [0] rfl)⟩ rfl rfl hl.1 rfl (lv_room (Nat.le_of_ble_eq_true rfl)) dL_law_915 hcs2) (fun r3 q3 => ?_)
  subst q3
  refine lv_iload hx hb dL_law_918 (lv_at hl 1 rfl) ?_
  refine lv_icmp_eq (tgt := 925) hx hb dL_law_920 (by decide) (fun _ => ?_) (fun z => absurd ef z)
  refine lv_iload hx hb dL_law_925 (lv_at hl 1 rfl) ?_
  refine lv_if_ne (tgt := 942) hx hb dL_law_927 (by decide) (fun _ => ?_) (fun z => ?_)
  · refine lv_goto (tgt := 1570) hx hb dL_law_942 (by decide) ?_
    exact kk g1 _ N H locs ls hIN hP hD hS (lv_sub hl [2, 3, 4, 5, 6] rfl)
  · refine lv_aload_n hx hb dL_law_930 rfl (lv_at hl 6 rfl) ?_
    refine lv_iconst (v := 0) hx hb dL_law_931 (by decide) ?_
    refine va_lald (f := g1) hx hb hK hP 12 1 rfl rfl (vp_in_nI (n := 0) (N := 1) (by decide) (by decide)) dL_law_932 ?_
    refine lv_iload hx hb dL_law_933 (lv_at hl 0 rfl) ?_
    refine lv_i2l (v := r2.toInt64) hx hb dL_law_935 rfl ?_
    refine W.lcmp hx hb dL_law_936 ?_
    refine lv_if_eq (tgt := 942) hx hb dL_law_937 (by decide) (fun _ => ?_) (fun c9 => absurd (eg z) (k_cne c9))
    refine lv_goto (tgt := 1570) hx hb dL_law_942 (by decide) ?_
    exact kk g1 _ N H locs ls hIN hP hD hS (lv_sub hl [2, 3, 4, 5, 6] rfl)
