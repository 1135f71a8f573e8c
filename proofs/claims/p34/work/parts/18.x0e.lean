/-! THE CLASS: rows of lines, closings, shares -/
set_option maxHeartbeats 4000000 in
set_option maxRecDepth 100000 in
theorem c0_value (l : Launch) (hlt : l.stackTraces = false) (D : va_G) (h : Nat → Nat) (cA : ClassId) (M : MM) (hM : OKM M) (x : Int32) (sz : Nat) : vx_Met l yX0_value wsX0_value ({ frames := 7, cells := 1, slots := 6, locals := 111 } : Room) (va_Pc [.ref (h 0), .int x] (fun U => pW D [(cA, .int)] (w0 h cA M) sz U ∧ x_En U)) (va_Qi (fun (r : Int32) (u : MM) => o_row M (m_ln M) (m_lv M) x = (0, r, u)) (fun u => qW D (va_A (w0 h cA M) sz) (w0 h cA u)) (va_A (w0 h cA M) sz)) (g_X (fun E : String => (E = E_io ∧ (o_row M (m_ln M) (m_lv M) x).1 = 1))) 1 6 (va_A (w0 h cA M) sz) := by
  refine vx_ofW (cc := cX0_value) (maxL := 2) (ret := (some .int)) (by decide) rfl ?_
  intro p e s m args below meth c s₁ B hml htab hv
  obtain ⟨rfl, ⟨hsz, hP, hK, hD0⟩, hE⟩ := hv
  have hx := B.exec
  have hb := B.bytes
  have hr := B.returns
  have hts := atoms_spec (ws := wsX0_value) B.pre
  have hown : s.vm.findClass RX0 = some m.cls := findClass_of_methodNamed B.named
  have hlocks := B.notSynchronized
  have kw0 := hts (.fieldLink RX0 9 "ProgressBilling" "lineValue" "[I") (by decide +kernel)
  have hin0 : ∀ w ∈ u_ws RX0 TX0 15, w ∈ wsX0_value := by decide +kernel
  subst hsz
  have hD := hD0.self (sz := s.heap.size)
  generalize hAe : va_A (w0 h cA M) s.heap.size = A at hD ⊢
  have hA : ∀ q : Nat, s.heap.size ≤ q → A q := fun q h => by rw [← hAe]; exact Or.inr h
  have hS : va_S A s.heap s.heap [] := va_S.rf
  have hP : va_P D vwCl (w0 h cA M) s.heap := hP
  obtain ⟨hn1, hn2, hn3, hn4⟩ := id hM
  have hl := lv_entry ([.ref (h 0), .int x]) (n := 2) (Nat.le_of_ble_eq_true rfl)
  rw [lg_entry_eq]
  generalize (lg_sl ([.ref (h 0), .int x]) ++ List.replicate (2 - (lg_sl ([.ref (h 0), .int x])).length) Slot.unset).toArray = ls at hl ⊢
  have hl : lv_has ls 2 [(0, .ref (h 0)), (1, .int x)] := hl
  refine w_abs (fun Q hQ => ?_)
  refine lv_aload_n hx hb dX0_value_0 rfl (lv_at hl 0 rfl) ?_
  refine lv_iload_n hx hb dX0_value_1 rfl (lv_at hl 1 rfl) ?_
  refine g_callv (vx_runV (As := [.int x]) (rest := []) ⟨hx, hb, hml, hown, hts⟩ (c0_requireLine l hlt D h cA M hM x) (cwV 1 hts gX0_value_X0_requireLine rfl rfl rfl (by decide +kernel) ⟨Nat.le_of_ble_eq_true rfl, Nat.le_of_ble_eq_true rfl⟩) ⟨pE_fb pR_fb, va_recv hK hP (ci := 0) (q0 := 0) rfl rfl, pE_mk rfl (pR_mk hP hK) hE⟩ rfl rfl hl.1 rfl (lv_room (Nat.le_of_ble_eq_true rfl)) dX0_value_2 ⟨Nat.le_of_ble_eq_true rfl, Nat.le_of_ble_eq_true rfl⟩) (fun E ce q9 H1 hpx g1 g2 hce hcv hcl => ?_) (fun q1 => ?_)
  · subst hQ
    exact r_out htab hlocks g1 g2 hce hcv hcl ⟨hpx.1, by first | (simp only [o_row]; simp [hpx.2]; done) | (simp [o_row, hpx.2]; done)⟩ (by decide) (by decide)
  · obtain ⟨j, hj, q1, hix⟩ := q1
    subst q1
    refine lv_aload_n hx hb dX0_value_5 rfl (lv_at hl 0 rfl) ?_
    refine va_get (D := D) (ci := 0) (v := .ref (h 1)) (C := RX0) (T := TX0) (N := 15) hx hb hts hin0 hown hK hP 0 rfl rfl 0 (by decide) kw0 (fun _ h9 => h9) rfl dX0_value_6 ?_
    refine lv_iload_n hx hb dX0_value_9 rfl (lv_at hl 1 rfl) ?_
    refine r_ald (f := m_lv M) (j := j) hx hb hK hP 1 0 rfl rfl (by omega) (by omega) dX0_value_10 ?_
    subst hQ
    refine vx_ret ?_
    refine W.widen (k := 1) (n := 6) (by decide) (by decide) ?_
    exact W.iret (v := (m_lv M) j) hx hb hr (fun t ht hW => ⟨⟨(m_lv M) j, M, rfl, (by simp [o_row, hix, pk_us]), by rw [ht]; exact hP, hD⟩, hS.F ht⟩) hS.2.2 dX0_value_11
set_option maxHeartbeats 4000000 in
set_option maxRecDepth 100000 in
theorem c0_work (l : Launch) (hlt : l.stackTraces = false) (D : va_G) (h : Nat → Nat) (cA : ClassId) (M : MM) (hM : OKM M) (x : Int32) (sz : Nat) : vx_Met l yX0_work wsX0_work ({ frames := 7, cells := 1, slots := 6, locals := 111 } : Room) (va_Pc [.ref (h 0), .int x] (fun U => pW D [(cA, .int)] (w0 h cA M) sz U ∧ x_En U)) (va_Qi (fun (r : Int32) (u : MM) => o_row M (m_ln M) (m_lw M) x = (0, r, u)) (fun u => qW D (va_A (w0 h cA M) sz) (w0 h cA u)) (va_A (w0 h cA M) sz)) (g_X (fun E : String => (E = E_io ∧ (o_row M (m_ln M) (m_lw M) x).1 = 1))) 1 6 (va_A (w0 h cA M) sz) := by
  refine vx_ofW (cc := cX0_work) (maxL := 2) (ret := (some .int)) (by decide) rfl ?_
  intro p e s m args below meth c s₁ B hml htab hv
  obtain ⟨rfl, ⟨hsz, hP, hK, hD0⟩, hE⟩ := hv
  have hx := B.exec
  have hb := B.bytes
  have hr := B.returns
  have hts := atoms_spec (ws := wsX0_work) B.pre
  have hown : s.vm.findClass RX0 = some m.cls := findClass_of_methodNamed B.named
  have hlocks := B.notSynchronized
  have kw0 := hts (.fieldLink RX0 16 "ProgressBilling" "lineWork" "[I") (by decide +kernel)
  have hin0 : ∀ w ∈ u_ws RX0 TX0 15, w ∈ wsX0_work := by decide +kernel
  subst hsz
  have hD := hD0.self (sz := s.heap.size)
  generalize hAe : va_A (w0 h cA M) s.heap.size = A at hD ⊢
  have hA : ∀ q : Nat, s.heap.size ≤ q → A q := fun q h => by rw [← hAe]; exact Or.inr h
  have hS : va_S A s.heap s.heap [] := va_S.rf
  have hP : va_P D vwCl (w0 h cA M) s.heap := hP
  obtain ⟨hn1, hn2, hn3, hn4⟩ := id hM
  have hl := lv_entry ([.ref (h 0), .int x]) (n := 2) (Nat.le_of_ble_eq_true rfl)
  rw [lg_entry_eq]
  generalize (lg_sl ([.ref (h 0), .int x]) ++ List.replicate (2 - (lg_sl ([.ref (h 0), .int x])).length) Slot.unset).toArray = ls at hl ⊢
  have hl : lv_has ls 2 [(0, .ref (h 0)), (1, .int x)] := hl
  refine w_abs (fun Q hQ => ?_)
  refine lv_aload_n hx hb dX0_work_0 rfl (lv_at hl 0 rfl) ?_
  refine lv_iload_n hx hb dX0_work_1 rfl (lv_at hl 1 rfl) ?_
  refine g_callv (vx_runV (As := [.int x]) (rest := []) ⟨hx, hb, hml, hown, hts⟩ (c0_requireLine l hlt D h cA M hM x) (cwV 1 hts gX0_work_X0_requireLine rfl rfl rfl (by decide +kernel) ⟨Nat.le_of_ble_eq_true rfl, Nat.le_of_ble_eq_true rfl⟩) ⟨pE_fb pR_fb, va_recv hK hP (ci := 0) (q0 := 0) rfl rfl, pE_mk rfl (pR_mk hP hK) hE⟩ rfl rfl hl.1 rfl (lv_room (Nat.le_of_ble_eq_true rfl)) dX0_work_2 ⟨Nat.le_of_ble_eq_true rfl, Nat.le_of_ble_eq_true rfl⟩) (fun E ce q9 H1 hpx g1 g2 hce hcv hcl => ?_) (fun q1 => ?_)
  · subst hQ
    exact r_out htab hlocks g1 g2 hce hcv hcl ⟨hpx.1, by first | (simp only [o_row]; simp [hpx.2]; done) | (simp [o_row, hpx.2]; done)⟩ (by decide) (by decide)
  · obtain ⟨j, hj, q1, hix⟩ := q1
    subst q1
    refine lv_aload_n hx hb dX0_work_5 rfl (lv_at hl 0 rfl) ?_
    refine va_get (D := D) (ci := 0) (v := .ref (h 3)) (C := RX0) (T := TX0) (N := 15) hx hb hts hin0 hown hK hP 0 rfl rfl 2 (by decide) kw0 (fun _ h9 => h9) rfl dX0_work_6 ?_
    refine lv_iload_n hx hb dX0_work_9 rfl (lv_at hl 1 rfl) ?_
    refine r_ald (f := m_lw M) (j := j) hx hb hK hP 3 0 rfl rfl (by omega) (by omega) dX0_work_10 ?_
    subst hQ
    refine vx_ret ?_
    refine W.widen (k := 1) (n := 6) (by decide) (by decide) ?_
    exact W.iret (v := (m_lw M) j) hx hb hr (fun t ht hW => ⟨⟨(m_lw M) j, M, rfl, (by simp [o_row, hix, pk_us]), by rw [ht]; exact hP, hD⟩, hS.F ht⟩) hS.2.2 dX0_work_11
set_option maxHeartbeats 4000000 in
set_option maxRecDepth 100000 in
theorem c0_billed (l : Launch) (hlt : l.stackTraces = false) (D : va_G) (h : Nat → Nat) (cA : ClassId) (M : MM) (hM : OKM M) (x : Int32) (sz : Nat) : vx_Met l yX0_billed wsX0_billed ({ frames := 7, cells := 1, slots := 6, locals := 111 } : Room) (va_Pc [.ref (h 0), .int x] (fun U => pW D [(cA, .int)] (w0 h cA M) sz U ∧ x_En U)) (va_Qi (fun (r : Int32) (u : MM) => o_row M (m_ln M) (m_lb M) x = (0, r, u)) (fun u => qW D (va_A (w0 h cA M) sz) (w0 h cA u)) (va_A (w0 h cA M) sz)) (g_X (fun E : String => (E = E_io ∧ (o_row M (m_ln M) (m_lb M) x).1 = 1))) 1 6 (va_A (w0 h cA M) sz) := by
  refine vx_ofW (cc := cX0_billed) (maxL := 2) (ret := (some .int)) (by decide) rfl ?_
  intro p e s m args below meth c s₁ B hml htab hv
  obtain ⟨rfl, ⟨hsz, hP, hK, hD0⟩, hE⟩ := hv
  have hx := B.exec
  have hb := B.bytes
  have hr := B.returns
  have hts := atoms_spec (ws := wsX0_billed) B.pre
  have hown : s.vm.findClass RX0 = some m.cls := findClass_of_methodNamed B.named
  have hlocks := B.notSynchronized
  have kw0 := hts (.fieldLink RX0 19 "ProgressBilling" "lineBilled" "[I") (by decide +kernel)
  have hin0 : ∀ w ∈ u_ws RX0 TX0 15, w ∈ wsX0_billed := by decide +kernel
  subst hsz
  have hD := hD0.self (sz := s.heap.size)
  generalize hAe : va_A (w0 h cA M) s.heap.size = A at hD ⊢
  have hA : ∀ q : Nat, s.heap.size ≤ q → A q := fun q h => by rw [← hAe]; exact Or.inr h
  have hS : va_S A s.heap s.heap [] := va_S.rf
  have hP : va_P D vwCl (w0 h cA M) s.heap := hP
  obtain ⟨hn1, hn2, hn3, hn4⟩ := id hM
  have hl := lv_entry ([.ref (h 0), .int x]) (n := 2) (Nat.le_of_ble_eq_true rfl)
  rw [lg_entry_eq]
  generalize (lg_sl ([.ref (h 0), .int x]) ++ List.replicate (2 - (lg_sl ([.ref (h 0), .int x])).length) Slot.unset).toArray = ls at hl ⊢
  have hl : lv_has ls 2 [(0, .ref (h 0)), (1, .int x)] := hl
  refine w_abs (fun Q hQ => ?_)
  refine lv_aload_n hx hb dX0_billed_0 rfl (lv_at hl 0 rfl) ?_
  refine lv_iload_n hx hb dX0_billed_1 rfl (lv_at hl 1 rfl) ?_
  refine g_callv (vx_runV (As := [.int x]) (rest := []) ⟨hx, hb, hml, hown, hts⟩ (c0_requireLine l hlt D h cA M hM x) (cwV 1 hts gX0_billed_X0_requireLine rfl rfl rfl (by decide +kernel) ⟨Nat.le_of_ble_eq_true rfl, Nat.le_of_ble_eq_true rfl⟩) ⟨pE_fb pR_fb, va_recv hK hP (ci := 0) (q0 := 0) rfl rfl, pE_mk rfl (pR_mk hP hK) hE⟩ rfl rfl hl.1 rfl (lv_room (Nat.le_of_ble_eq_true rfl)) dX0_billed_2 ⟨Nat.le_of_ble_eq_true rfl, Nat.le_of_ble_eq_true rfl⟩) (fun E ce q9 H1 hpx g1 g2 hce hcv hcl => ?_) (fun q1 => ?_)
  · subst hQ
    exact r_out htab hlocks g1 g2 hce hcv hcl ⟨hpx.1, by first | (simp only [o_row]; simp [hpx.2]; done) | (simp [o_row, hpx.2]; done)⟩ (by decide) (by decide)
  · obtain ⟨j, hj, q1, hix⟩ := q1
    subst q1
    refine lv_aload_n hx hb dX0_billed_5 rfl (lv_at hl 0 rfl) ?_
    refine va_get (D := D) (ci := 0) (v := .ref (h 4)) (C := RX0) (T := TX0) (N := 15) hx hb hts hin0 hown hK hP 0 rfl rfl 3 (by decide) kw0 (fun _ h9 => h9) rfl dX0_billed_6 ?_
    refine lv_iload_n hx hb dX0_billed_9 rfl (lv_at hl 1 rfl) ?_
    refine r_ald (f := m_lb M) (j := j) hx hb hK hP 4 0 rfl rfl (by omega) (by omega) dX0_billed_10 ?_
    subst hQ
    refine vx_ret ?_
    refine W.widen (k := 1) (n := 6) (by decide) (by decide) ?_
    exact W.iret (v := (m_lb M) j) hx hb hr (fun t ht hW => ⟨⟨(m_lb M) j, M, rfl, (by simp [o_row, hix, pk_us]), by rw [ht]; exact hP, hD⟩, hS.F ht⟩) hS.2.2 dX0_billed_11
set_option maxHeartbeats 4000000 in
set_option maxRecDepth 100000 in
theorem c0_held (l : Launch) (hlt : l.stackTraces = false) (D : va_G) (h : Nat → Nat) (cA : ClassId) (M : MM) (hM : OKM M) (x : Int32) (sz : Nat) : vx_Met l yX0_held wsX0_held ({ frames := 7, cells := 1, slots := 6, locals := 111 } : Room) (va_Pc [.ref (h 0), .int x] (fun U => pW D [(cA, .int)] (w0 h cA M) sz U ∧ x_En U)) (va_Qi (fun (r : Int32) (u : MM) => o_row M (m_ln M) (m_lh M) x = (0, r, u)) (fun u => qW D (va_A (w0 h cA M) sz) (w0 h cA u)) (va_A (w0 h cA M) sz)) (g_X (fun E : String => (E = E_io ∧ (o_row M (m_ln M) (m_lh M) x).1 = 1))) 1 6 (va_A (w0 h cA M) sz) := by
  refine vx_ofW (cc := cX0_held) (maxL := 2) (ret := (some .int)) (by decide) rfl ?_
  intro p e s m args below meth c s₁ B hml htab hv
  obtain ⟨rfl, ⟨hsz, hP, hK, hD0⟩, hE⟩ := hv
  have hx := B.exec
  have hb := B.bytes
  have hr := B.returns
  have hts := atoms_spec (ws := wsX0_held) B.pre
  have hown : s.vm.findClass RX0 = some m.cls := findClass_of_methodNamed B.named
  have hlocks := B.notSynchronized
  have kw0 := hts (.fieldLink RX0 22 "ProgressBilling" "lineHeld" "[I") (by decide +kernel)
  have hin0 : ∀ w ∈ u_ws RX0 TX0 15, w ∈ wsX0_held := by decide +kernel
  subst hsz
  have hD := hD0.self (sz := s.heap.size)
  generalize hAe : va_A (w0 h cA M) s.heap.size = A at hD ⊢
  have hA : ∀ q : Nat, s.heap.size ≤ q → A q := fun q h => by rw [← hAe]; exact Or.inr h
  have hS : va_S A s.heap s.heap [] := va_S.rf
  have hP : va_P D vwCl (w0 h cA M) s.heap := hP
  obtain ⟨hn1, hn2, hn3, hn4⟩ := id hM
  have hl := lv_entry ([.ref (h 0), .int x]) (n := 2) (Nat.le_of_ble_eq_true rfl)
  rw [lg_entry_eq]
  generalize (lg_sl ([.ref (h 0), .int x]) ++ List.replicate (2 - (lg_sl ([.ref (h 0), .int x])).length) Slot.unset).toArray = ls at hl ⊢
  have hl : lv_has ls 2 [(0, .ref (h 0)), (1, .int x)] := hl
  refine w_abs (fun Q hQ => ?_)
  refine lv_aload_n hx hb dX0_held_0 rfl (lv_at hl 0 rfl) ?_
  refine lv_iload_n hx hb dX0_held_1 rfl (lv_at hl 1 rfl) ?_
  refine g_callv (vx_runV (As := [.int x]) (rest := []) ⟨hx, hb, hml, hown, hts⟩ (c0_requireLine l hlt D h cA M hM x) (cwV 1 hts gX0_held_X0_requireLine rfl rfl rfl (by decide +kernel) ⟨Nat.le_of_ble_eq_true rfl, Nat.le_of_ble_eq_true rfl⟩) ⟨pE_fb pR_fb, va_recv hK hP (ci := 0) (q0 := 0) rfl rfl, pE_mk rfl (pR_mk hP hK) hE⟩ rfl rfl hl.1 rfl (lv_room (Nat.le_of_ble_eq_true rfl)) dX0_held_2 ⟨Nat.le_of_ble_eq_true rfl, Nat.le_of_ble_eq_true rfl⟩) (fun E ce q9 H1 hpx g1 g2 hce hcv hcl => ?_) (fun q1 => ?_)
  · subst hQ
    exact r_out htab hlocks g1 g2 hce hcv hcl ⟨hpx.1, by first | (simp only [o_row]; simp [hpx.2]; done) | (simp [o_row, hpx.2]; done)⟩ (by decide) (by decide)
  · obtain ⟨j, hj, q1, hix⟩ := q1
    subst q1
    refine lv_aload_n hx hb dX0_held_5 rfl (lv_at hl 0 rfl) ?_
    refine va_get (D := D) (ci := 0) (v := .ref (h 5)) (C := RX0) (T := TX0) (N := 15) hx hb hts hin0 hown hK hP 0 rfl rfl 4 (by decide) kw0 (fun _ h9 => h9) rfl dX0_held_6 ?_
    refine lv_iload_n hx hb dX0_held_9 rfl (lv_at hl 1 rfl) ?_
    refine r_ald (f := m_lh M) (j := j) hx hb hK hP 5 0 rfl rfl (by omega) (by omega) dX0_held_10 ?_
    subst hQ
    refine vx_ret ?_
    refine W.widen (k := 1) (n := 6) (by decide) (by decide) ?_
    exact W.iret (v := (m_lh M) j) hx hb hr (fun t ht hW => ⟨⟨(m_lh M) j, M, rfl, (by simp [o_row, hix, pk_us]), by rw [ht]; exact hP, hD⟩, hS.F ht⟩) hS.2.2 dX0_held_11
set_option maxHeartbeats 4000000 in
set_option maxRecDepth 100000 in
theorem c0_goods (l : Launch) (hlt : l.stackTraces = false) (D : va_G) (h : Nat → Nat) (cA : ClassId) (M : MM) (hM : OKM M) (x : Int32) (sz : Nat) : vx_Met l yX0_goods wsX0_goods ({ frames := 7, cells := 1, slots := 6, locals := 111 } : Room) (va_Pc [.ref (h 0), .int x] (fun U => pW D [(cA, .int)] (w0 h cA M) sz U ∧ x_En U)) (va_Qi (fun (r : Int32) (u : MM) => o_row M (m_ln M) (fun i => m_le M i - m_lw M i) x = (0, r, u)) (fun u => qW D (va_A (w0 h cA M) sz) (w0 h cA u)) (va_A (w0 h cA M) sz)) (g_X (fun E : String => (E = E_io ∧ (o_row M (m_ln M) (fun i => m_le M i - m_lw M i) x).1 = 1))) 1 6 (va_A (w0 h cA M) sz) := by
  refine vx_ofW (cc := cX0_goods) (maxL := 2) (ret := (some .int)) (by decide) rfl ?_
  intro p e s m args below meth c s₁ B hml htab hv
  obtain ⟨rfl, ⟨hsz, hP, hK, hD0⟩, hE⟩ := hv
  have hx := B.exec
  have hb := B.bytes
  have hr := B.returns
  have hts := atoms_spec (ws := wsX0_goods) B.pre
  have hown : s.vm.findClass RX0 = some m.cls := findClass_of_methodNamed B.named
  have hlocks := B.notSynchronized
  have kw0 := hts (.fieldLink RX0 13 "ProgressBilling" "lineEarned" "[I") (by decide +kernel)
  have kw1 := hts (.fieldLink RX0 16 "ProgressBilling" "lineWork" "[I") (by decide +kernel)
  have hin0 : ∀ w ∈ u_ws RX0 TX0 15, w ∈ wsX0_goods := by decide +kernel
  subst hsz
  have hD := hD0.self (sz := s.heap.size)
  generalize hAe : va_A (w0 h cA M) s.heap.size = A at hD ⊢
  have hA : ∀ q : Nat, s.heap.size ≤ q → A q := fun q h => by rw [← hAe]; exact Or.inr h
  have hS : va_S A s.heap s.heap [] := va_S.rf
  have hP : va_P D vwCl (w0 h cA M) s.heap := hP
  obtain ⟨hn1, hn2, hn3, hn4⟩ := id hM
  have hl := lv_entry ([.ref (h 0), .int x]) (n := 2) (Nat.le_of_ble_eq_true rfl)
  rw [lg_entry_eq]
  generalize (lg_sl ([.ref (h 0), .int x]) ++ List.replicate (2 - (lg_sl ([.ref (h 0), .int x])).length) Slot.unset).toArray = ls at hl ⊢
  have hl : lv_has ls 2 [(0, .ref (h 0)), (1, .int x)] := hl
  refine w_abs (fun Q hQ => ?_)
  refine lv_aload_n hx hb dX0_goods_0 rfl (lv_at hl 0 rfl) ?_
  refine lv_iload_n hx hb dX0_goods_1 rfl (lv_at hl 1 rfl) ?_
  refine g_callv (vx_runV (As := [.int x]) (rest := []) ⟨hx, hb, hml, hown, hts⟩ (c0_requireLine l hlt D h cA M hM x) (cwV 1 hts gX0_goods_X0_requireLine rfl rfl rfl (by decide +kernel) ⟨Nat.le_of_ble_eq_true rfl, Nat.le_of_ble_eq_true rfl⟩) ⟨pE_fb pR_fb, va_recv hK hP (ci := 0) (q0 := 0) rfl rfl, pE_mk rfl (pR_mk hP hK) hE⟩ rfl rfl hl.1 rfl (lv_room (Nat.le_of_ble_eq_true rfl)) dX0_goods_2 ⟨Nat.le_of_ble_eq_true rfl, Nat.le_of_ble_eq_true rfl⟩) (fun E ce q9 H1 hpx g1 g2 hce hcv hcl => ?_) (fun q1 => ?_)
  · subst hQ
    exact r_out htab hlocks g1 g2 hce hcv hcl ⟨hpx.1, by first | (simp only [o_row]; simp [hpx.2]; done) | (simp [o_row, hpx.2]; done)⟩ (by decide) (by decide)
  · obtain ⟨j, hj, q1, hix⟩ := q1
    subst q1
    refine lv_aload_n hx hb dX0_goods_5 rfl (lv_at hl 0 rfl) ?_
    refine va_get (D := D) (ci := 0) (v := .ref (h 2)) (C := RX0) (T := TX0) (N := 15) hx hb hts hin0 hown hK hP 0 rfl rfl 1 (by decide) kw0 (fun _ h9 => h9) rfl dX0_goods_6 ?_
    refine lv_iload_n hx hb dX0_goods_9 rfl (lv_at hl 1 rfl) ?_
    refine r_ald (f := m_le M) (j := j) hx hb hK hP 2 0 rfl rfl (by omega) (by omega) dX0_goods_10 ?_
    refine lv_aload_n hx hb dX0_goods_11 rfl (lv_at hl 0 rfl) ?_
    refine va_get (D := D) (ci := 0) (v := .ref (h 3)) (C := RX0) (T := TX0) (N := 15) hx hb hts hin0 hown hK hP 0 rfl rfl 2 (by decide) kw1 (fun _ h9 => h9) rfl dX0_goods_12 ?_
    refine lv_iload_n hx hb dX0_goods_15 rfl (lv_at hl 1 rfl) ?_
    refine r_ald (f := m_lw M) (j := j) hx hb hK hP 3 0 rfl rfl (by omega) (by omega) dX0_goods_16 ?_
    refine lv_isub hx hb dX0_goods_17 ?_
    subst hQ
    refine vx_ret ?_
    refine W.widen (k := 1) (n := 6) (by decide) (by decide) ?_
    exact W.iret (v := ((m_le M) j) - ((m_lw M) j)) hx hb hr (fun t ht hW => ⟨⟨((m_le M) j) - ((m_lw M) j), M, rfl, (by simp [o_row, hix, pk_us]), by rw [ht]; exact hP, hD⟩, hS.F ht⟩) hS.2.2 dX0_goods_18
set_option maxHeartbeats 4000000 in
set_option maxRecDepth 100000 in
theorem c0_close (l : Launch) (hlt : l.stackTraces = false) (D : va_G) (h : Nat → Nat) (cA : ClassId) (M : MM) (hM : OKM M) (sz : Nat) : vx_Met l yX0_close wsX0_close ({ frames := 6, cells := 1, slots := 6, locals := 113 } : Room) (va_Pc [.ref (h 0)] (fun U => pW D [(cA, .int)] (w0 h cA M) sz U ∧ x_En U)) (va_Qi (fun (r : Int32) (u : MM) => x_close M = (0, r, u)) (fun u => qW D (va_A (w0 h cA M) sz) (w0 h cA u)) (va_A (w0 h cA M) sz)) (g_X (fun E : String => (E = E_is ∧ (x_close M).1 = 1))) 1 6 (va_A (w0 h cA M) sz) := by
  refine vx_ofW (cc := cX0_close) (maxL := 2) (ret := (some .int)) (by decide) rfl ?_
  intro p e s m args below meth c s₁ B hml htab hv
  obtain ⟨rfl, ⟨hsz, hP, hK, hD0⟩, hE⟩ := hv
  have hx := B.exec
  have hb := B.bytes
  have hr := B.returns
  have hts := atoms_spec (ws := wsX0_close) B.pre
  have hown : s.vm.findClass RX0 = some m.cls := findClass_of_methodNamed B.named
  have hlocks := B.notSynchronized
  have kw0 := hts (.fieldLink RX0 55 "ProgressBilling" "lineCount" "I") (by decide +kernel)
  have kw1 := hts (.fieldLink RX0 115 "ProgressBilling" "applicationCount" "I") (by decide +kernel)
  have kw2 := hts (.fieldLink RX0 34 "ProgressBilling" "applicationAmount" "[I") (by decide +kernel)
  have kw3 := hts (.fieldLink RX0 31 "ProgressBilling" "applicationState" "[I") (by decide +kernel)
  have kw4 := hts (.fieldLink RX0 37 "ProgressBilling" "applicationBilled" "[I") (by decide +kernel)
  have kw5 := hts (.fieldLink RX0 19 "ProgressBilling" "lineBilled" "[I") (by decide +kernel)
  have kw6 := hts (.fieldLink RX0 40 "ProgressBilling" "applicationHeld" "[I") (by decide +kernel)
  have kw7 := hts (.fieldLink RX0 22 "ProgressBilling" "lineHeld" "[I") (by decide +kernel)
  have hin0 : ∀ w ∈ u_ws RX0 TX0 15, w ∈ wsX0_close := by decide +kernel
  have ht_is : ∀ w ∈ t_is, w ∈ wsX0_close := by decide +kernel
  subst hsz
  have hD := hD0.self (sz := s.heap.size)
  generalize hAe : va_A (w0 h cA M) s.heap.size = A at hD ⊢
  have hA : ∀ q : Nat, s.heap.size ≤ q → A q := fun q h => by rw [← hAe]; exact Or.inr h
  have hS : va_S A s.heap s.heap [] := va_S.rf
  have hP : va_P D vwCl (w0 h cA M) s.heap := hP
  obtain ⟨hn1, hn2, hn3, hn4⟩ := id hM
  have hl := lv_entry ([.ref (h 0)]) (n := 2) (Nat.le_of_ble_eq_true rfl)
  rw [lg_entry_eq]
  generalize (lg_sl ([.ref (h 0)]) ++ List.replicate (2 - (lg_sl ([.ref (h 0)])).length) Slot.unset).toArray = ls at hl ⊢
  have hl : lv_has ls 2 [(0, .ref (h 0))] := hl
  refine w_abs (fun Q hQ => ?_)
  refine lv_aload_n hx hb dX0_close_0 rfl (lv_at hl 0 rfl) ?_
  refine va_get (D := D) (ci := 0) (v := .int (nI (m_ln M))) (C := RX0) (T := TX0) (N := 15) hx hb hts hin0 hown hK hP 0 rfl rfl 5 (by decide) kw0 (fun _ h9 => h9) rfl dX0_close_1 ?_
  refine lv_if_ne (tgt := 17) hx hb dX0_close_4 (by decide) (fun c1 => ?_) (fun c1 => ?_)
  · have c1 := k_ne (a := (m_ln M)) (b := 0) (by omega) (by omega) c1
    refine lv_aload_n hx hb dX0_close_17 rfl (lv_at hl 0 rfl) ?_
    refine va_get (D := D) (ci := 0) (v := .int (nI (m_an M))) (C := RX0) (T := TX0) (N := 15) hx hb hts hin0 hown hK hP 0 rfl rfl 14 (by decide) kw1 (fun _ h9 => h9) rfl dX0_close_18 ?_
    refine lv_bipush (v := 60) hx hb dX0_close_21 (by decide) ?_
    refine lv_icmp_lt (tgt := 36) hx hb dX0_close_23 (by decide) (fun c2 => ?_) (fun c2 => ?_)
    · have c2 := k_lt (a := (m_an M)) (b := 60) (by omega) (by omega) c2
      refine lv_aload_n hx hb dX0_close_36 rfl (lv_at hl 0 rfl) ?_
      refine va_get (D := D) (ci := 0) (v := .int (nI (m_an M))) (C := RX0) (T := TX0) (N := 15) hx hb hts hin0 hown hK hP 0 rfl rfl 14 (by decide) kw1 (fun _ h9 => h9) rfl dX0_close_37 ?_
      refine lv_istore_n (lv' := [(1, .int (nI (m_an M))), (0, .ref (h 0))]) hx hb dX0_close_40 rfl hl (by decide) rfl (fun ls hl => ?_)
      refine lv_aload_n hx hb dX0_close_41 rfl (lv_at hl 1 rfl) ?_
      refine va_get (D := D) (ci := 0) (v := .ref (h 9)) (C := RX0) (T := TX0) (N := 15) hx hb hts hin0 hown hK hP 0 rfl rfl 11 (by decide) kw2 (fun _ h9 => h9) rfl dX0_close_42 ?_
      refine lv_iload_n hx hb dX0_close_45 rfl (lv_at hl 0 rfl) ?_
      refine lv_aload_n hx hb dX0_close_46 rfl (lv_at hl 1 rfl) ?_
      refine vp_callSi (W.runV (As := []) (rest := [.int (nI (m_an M)), .ref (h 9)]) ⟨hx, hb, hml, hown, hts⟩ (c0_nextAmount l D h cA M hM) (cwV 0 hts gX0_close_X0_nextAmount rfl rfl rfl (by decide +kernel) ⟨Nat.le_of_ble_eq_true rfl, Nat.le_of_ble_eq_true rfl⟩) ⟨pR_fb, va_recv hK hP (ci := 0) (q0 := 0) rfl rfl, pR_mk hP hK⟩ rfl rfl hl.1 rfl (lv_room (Nat.le_of_ble_eq_true rfl)) dX0_close_47 ⟨Nat.le_of_ble_eq_true rfl, Nat.le_of_ble_eq_true rfl⟩) (fun r3 qr3 => ?_)
      have qr3 : r3 = x_next M := qr3
      subst qr3
      refine r_ast (f := m_aa M) (j := (m_an M)) (v := x_next M) hx hb hK hP hD hS 9 0 rfl rfl (by omega) (by omega) dX0_close_50 (fun H locs hP hD hS => ?_)
      obtain ⟨N4, eN4⟩ : ∃ N9 : MM, N9 = s_aa M (upd (m_aa M) (m_an M) (x_next M)) := ⟨_, rfl⟩
      rw [q0_aa, ← eN4] at hP hD
      have aN4_ln : m_ln N4 = m_ln M := by rw [eN4]; rfl
      have aN4_an : m_an N4 = m_an M := by rw [eN4]; rfl
      have aN4_as : m_as N4 = m_as M := by rw [eN4]; rfl
      have aN4_aa : m_aa N4 = upd (m_aa M) (m_an M) (x_next M) := by rw [eN4]; rfl
      have aN4_ab : m_ab N4 = m_ab M := by rw [eN4]; rfl
      have aN4_ah : m_ah N4 = m_ah M := by rw [eN4]; rfl
      have aN4_lb : m_lb N4 = m_lb M := by rw [eN4]; rfl
      have aN4_lh : m_lh N4 = m_lh M := by rw [eN4]; rfl
      have aN4_le : m_le N4 = m_le M := by rw [eN4]; rfl
      refine lv_aload_n hx hb dX0_close_51 rfl (lv_at hl 1 rfl) ?_
      refine g_callvS (wf := fun u : MM => w0 h cA u) (va_runV (As := []) (rest := []) ⟨hx, hb, hml, hown, hts⟩ (c0_billLines l D h cA N4 (by subst eN4; exact hM) H.size) (cwV 0 hts gX0_close_X0_billLines rfl rfl rfl (by decide +kernel) ⟨Nat.le_of_ble_eq_true rfl, Nat.le_of_ble_eq_true rfl⟩) ⟨pW_fb, va_recv hK hP (ci := 0) (q0 := 0) rfl rfl, pW_mk hP hK hD⟩ rfl rfl hl.1 rfl (lv_room (Nat.le_of_ble_eq_true rfl)) dX0_close_52 ⟨Nat.le_of_ble_eq_true rfl, Nat.le_of_ble_eq_true rfl⟩) hP hD hS hA (fun N5 H locs qN5 hP hD hS => ?_)
      have eN5 : N5 = x_bill (x_cl1 M) (x_rate (x_cl1 M)) (m_ln M) := by rw [qN5, eN4]; rfl
      have fN5 : m_ln N5 = m_ln M ∧ m_an N5 = m_an M := by rw [eN5]; exact ⟨(x_bill_fix _ _ _).1, (x_bill_fix _ _ _).2.1⟩
      obtain ⟨fN5, gN5⟩ := fN5
      refine lv_aload_n hx hb dX0_close_55 rfl (lv_at hl 1 rfl) ?_
      refine va_get (D := D) (ci := 0) (v := .ref (h 8)) (C := RX0) (T := TX0) (N := 15) hx hb hts hin0 hown hK hP 0 rfl rfl 10 (by decide) kw3 (fun _ h9 => h9) rfl dX0_close_56 ?_
      refine lv_iload_n hx hb dX0_close_59 rfl (lv_at hl 0 rfl) ?_
      refine lv_iconst (v := 0) hx hb dX0_close_60 (by decide) ?_
      refine r_ast (f := m_as N5) (j := (m_an M)) (v := 0) hx hb hK hP hD hS 8 0 rfl rfl (by omega) (by omega) dX0_close_61 (fun H locs hP hD hS => ?_)
      obtain ⟨N6, eN6⟩ : ∃ N9 : MM, N9 = s_as N5 (upd (m_as N5) (m_an M) 0) := ⟨_, rfl⟩
      rw [q0_as, ← eN6] at hP hD
      have aN6_ln : m_ln N6 = m_ln M := by rw [eN6]; exact fN5
      have aN6_an : m_an N6 = m_an M := by rw [eN6]; exact gN5
      have aN6_as : m_as N6 = upd (m_as N5) (m_an M) 0 := by rw [eN6]; rfl
      have aN6_aa : m_aa N6 = m_aa N5 := by rw [eN6]; rfl
      have aN6_ab : m_ab N6 = m_ab N5 := by rw [eN6]; rfl
      have aN6_ah : m_ah N6 = m_ah N5 := by rw [eN6]; rfl
      have aN6_lb : m_lb N6 = m_lb N5 := by rw [eN6]; rfl
      have aN6_lh : m_lh N6 = m_lh N5 := by rw [eN6]; rfl
      have aN6_le : m_le N6 = m_le N5 := by rw [eN6]; rfl
      refine lv_aload_n hx hb dX0_close_62 rfl (lv_at hl 1 rfl) ?_
      refine va_get (D := D) (ci := 0) (v := .ref (h 10)) (C := RX0) (T := TX0) (N := 15) hx hb hts hin0 hown hK hP 0 rfl rfl 12 (by decide) kw4 (fun _ h9 => h9) rfl dX0_close_63 ?_
      refine lv_iload_n hx hb dX0_close_66 rfl (lv_at hl 0 rfl) ?_
      refine lv_aload_n hx hb dX0_close_67 rfl (lv_at hl 1 rfl) ?_
      refine va_get (D := D) (ci := 0) (v := .ref (h 4)) (C := RX0) (T := TX0) (N := 15) hx hb hts hin0 hown hK hP 0 rfl rfl 3 (by decide) kw5 (fun _ h9 => h9) rfl dX0_close_68 ?_
      refine lv_aload_n hx hb dX0_close_71 rfl (lv_at hl 1 rfl) ?_
      refine va_get (D := D) (ci := 0) (v := .int (nI (m_ln N6))) (C := RX0) (T := TX0) (N := 15) hx hb hts hin0 hown hK hP 0 rfl rfl 5 (by decide) kw0 (fun _ h9 => h9) rfl dX0_close_72 ?_
      refine lv_topi (fun y7 ey7 => ?_)
      rw [aN6_ln] at ey7
      subst ey7
      refine vp_callSi (W.runS (As := [.ref (h 4), .int (nI (m_ln M))]) (rest := [.int (nI (m_an M)), .ref (h 10)]) ⟨hx, hb, hml, hown, hts⟩ (c0_sum l D cA (h 4) 16 (m_lb N6) (m_ln M) (by omega) (by omega)) (va_cwS 2 hts gX0_close_X0_sum rfl rfl rfl (by decide +kernel) ⟨Nat.le_of_ble_eq_true rfl, Nat.le_of_ble_eq_true rfl⟩) ⟨pR_fb, pR_mk (hP.sub (ws' := [(h 4, .inl (cA, 16, .inl (m_lb N6)))]) [4] rfl) hK⟩ rfl rfl hl.1 rfl (lv_room (Nat.le_of_ble_eq_true rfl)) dX0_close_75 ⟨Nat.le_of_ble_eq_true rfl, Nat.le_of_ble_eq_true rfl⟩) (fun r8 qr8 => ?_)
      have qr8 : r8 = psum (m_lb N6) (m_ln M) := qr8
      rw [aN6_lb] at qr8
      subst qr8
      refine r_ast (f := m_ab N6) (j := (m_an M)) (v := psum (m_lb N5) (m_ln M)) hx hb hK hP hD hS 10 0 rfl rfl (by omega) (by omega) dX0_close_78 (fun H locs hP hD hS => ?_)
      rw [aN6_ab] at hP hD
      obtain ⟨N10, eN10⟩ : ∃ N9 : MM, N9 = s_ab N6 (upd (m_ab N5) (m_an M) (psum (m_lb N5) (m_ln M))) := ⟨_, rfl⟩
      rw [q0_ab, ← eN10] at hP hD
      have aN10_ln : m_ln N10 = m_ln M := by rw [eN10]; exact aN6_ln
      have aN10_an : m_an N10 = m_an M := by rw [eN10]; exact aN6_an
      have aN10_as : m_as N10 = upd (m_as N5) (m_an M) 0 := by rw [eN10]; exact aN6_as
      have aN10_aa : m_aa N10 = m_aa N5 := by rw [eN10]; exact aN6_aa
      have aN10_ab : m_ab N10 = upd (m_ab N5) (m_an M) (psum (m_lb N5) (m_ln M)) := by rw [eN10]; rfl
      have aN10_ah : m_ah N10 = m_ah N5 := by rw [eN10]; exact aN6_ah
      have aN10_lb : m_lb N10 = m_lb N5 := by rw [eN10]; exact aN6_lb
      have aN10_lh : m_lh N10 = m_lh N5 := by rw [eN10]; exact aN6_lh
      have aN10_le : m_le N10 = m_le N5 := by rw [eN10]; exact aN6_le
      refine lv_aload_n hx hb dX0_close_79 rfl (lv_at hl 1 rfl) ?_
      refine va_get (D := D) (ci := 0) (v := .ref (h 11)) (C := RX0) (T := TX0) (N := 15) hx hb hts hin0 hown hK hP 0 rfl rfl 13 (by decide) kw6 (fun _ h9 => h9) rfl dX0_close_80 ?_
      refine lv_iload_n hx hb dX0_close_83 rfl (lv_at hl 0 rfl) ?_
      refine lv_aload_n hx hb dX0_close_84 rfl (lv_at hl 1 rfl) ?_
      refine va_get (D := D) (ci := 0) (v := .ref (h 5)) (C := RX0) (T := TX0) (N := 15) hx hb hts hin0 hown hK hP 0 rfl rfl 4 (by decide) kw7 (fun _ h9 => h9) rfl dX0_close_85 ?_
      refine lv_aload_n hx hb dX0_close_88 rfl (lv_at hl 1 rfl) ?_
      refine va_get (D := D) (ci := 0) (v := .int (nI (m_ln N10))) (C := RX0) (T := TX0) (N := 15) hx hb hts hin0 hown hK hP 0 rfl rfl 5 (by decide) kw0 (fun _ h9 => h9) rfl dX0_close_89 ?_
      refine lv_topi (fun y11 ey11 => ?_)
      rw [aN10_ln] at ey11
      subst ey11
      refine vp_callSi (W.runS (As := [.ref (h 5), .int (nI (m_ln M))]) (rest := [.int (nI (m_an M)), .ref (h 11)]) ⟨hx, hb, hml, hown, hts⟩ (c0_sum l D cA (h 5) 16 (m_lh N10) (m_ln M) (by omega) (by omega)) (va_cwS 2 hts gX0_close_X0_sum rfl rfl rfl (by decide +kernel) ⟨Nat.le_of_ble_eq_true rfl, Nat.le_of_ble_eq_true rfl⟩) ⟨pR_fb, pR_mk (hP.sub (ws' := [(h 5, .inl (cA, 16, .inl (m_lh N10)))]) [5] rfl) hK⟩ rfl rfl hl.1 rfl (lv_room (Nat.le_of_ble_eq_true rfl)) dX0_close_92 ⟨Nat.le_of_ble_eq_true rfl, Nat.le_of_ble_eq_true rfl⟩) (fun r12 qr12 => ?_)
      have qr12 : r12 = psum (m_lh N10) (m_ln M) := qr12
      rw [aN10_lh] at qr12
      subst qr12
      refine r_ast (f := m_ah N10) (j := (m_an M)) (v := psum (m_lh N5) (m_ln M)) hx hb hK hP hD hS 11 0 rfl rfl (by omega) (by omega) dX0_close_95 (fun H locs hP hD hS => ?_)
      rw [aN10_ah] at hP hD
      obtain ⟨N14, eN14⟩ : ∃ N9 : MM, N9 = s_ah N10 (upd (m_ah N5) (m_an M) (psum (m_lh N5) (m_ln M))) := ⟨_, rfl⟩
      rw [q0_ah, ← eN14] at hP hD
      have aN14_ln : m_ln N14 = m_ln M := by rw [eN14]; exact aN10_ln
      have aN14_an : m_an N14 = m_an M := by rw [eN14]; exact aN10_an
      have aN14_as : m_as N14 = upd (m_as N5) (m_an M) 0 := by rw [eN14]; exact aN10_as
      have aN14_aa : m_aa N14 = m_aa N5 := by rw [eN14]; exact aN10_aa
      have aN14_ab : m_ab N14 = upd (m_ab N5) (m_an M) (psum (m_lb N5) (m_ln M)) := by rw [eN14]; exact aN10_ab
      have aN14_ah : m_ah N14 = upd (m_ah N5) (m_an M) (psum (m_lh N5) (m_ln M)) := by rw [eN14]; rfl
      have aN14_lb : m_lb N14 = m_lb N5 := by rw [eN14]; exact aN10_lb
      have aN14_lh : m_lh N14 = m_lh N5 := by rw [eN14]; exact aN10_lh
      have aN14_le : m_le N14 = m_le N5 := by rw [eN14]; exact aN10_le
      refine lv_aload_n hx hb dX0_close_96 rfl (lv_at hl 1 rfl) ?_
      refine lv_iload_n hx hb dX0_close_97 rfl (lv_at hl 0 rfl) ?_
      refine lv_iconst (v := 1) hx hb dX0_close_98 (by decide) ?_
      refine lv_iadd hx hb dX0_close_99 ?_
      refine lv_topi (fun y15 ey15 => ?_)
      obtain rfl : y15 = nI ((m_an M) + 1) := ey15.trans (nI_1 _)
      refine va_put (D := D) (ci := 0) (v := .int (nI ((m_an M) + 1))) (ty := .int) (C := RX0) (T := TX0) (N := 15) hx hb hts hin0 tyX0 tyX0_ok nmX0 hown hK hP hD hS 0 rfl rfl 14 (by decide) kw1 (fun _ h9 => h9) rfl (by decide +kernel) rfl rfl (Nat.le_of_ble_eq_true rfl) dX0_close_100 (fun H locs hP hD hS => ?_)
      obtain ⟨N16, eN16⟩ : ∃ N9 : MM, N9 = s_an N14 ((m_an M) + 1) := ⟨_, rfl⟩
      rw [q0_an, ← eN16] at hP hD
      have aN16_ln : m_ln N16 = m_ln M := by rw [eN16]; exact aN14_ln
      have aN16_an : m_an N16 = ((m_an M) + 1) := by rw [eN16]; rfl
      have aN16_as : m_as N16 = upd (m_as N5) (m_an M) 0 := by rw [eN16]; exact aN14_as
      have aN16_aa : m_aa N16 = m_aa N5 := by rw [eN16]; exact aN14_aa
      have aN16_ab : m_ab N16 = upd (m_ab N5) (m_an M) (psum (m_lb N5) (m_ln M)) := by rw [eN16]; exact aN14_ab
      have aN16_ah : m_ah N16 = upd (m_ah N5) (m_an M) (psum (m_lh N5) (m_ln M)) := by rw [eN16]; exact aN14_ah
      have aN16_lb : m_lb N16 = m_lb N5 := by rw [eN16]; exact aN14_lb
      have aN16_lh : m_lh N16 = m_lh N5 := by rw [eN16]; exact aN14_lh
      have aN16_le : m_le N16 = m_le N5 := by rw [eN16]; exact aN14_le
      refine lv_iload_n hx hb dX0_close_103 rfl (lv_at hl 0 rfl) ?_
      subst hQ
      refine vx_ret ?_
      refine W.widen (k := 1) (n := 6) (by decide) (by decide) ?_
      exact W.iret (v := nI (m_an M)) hx hb hr (fun t ht hW => ⟨⟨nI (m_an M), N16, rfl, (by subst eN6 eN10 eN14 eN16; exact (x_close_ok c1 (by omega) eN5 fN5)), by rw [ht]; exact hP, hD⟩, hS.F ht⟩) hS.2.2 dX0_close_104
    · have c2 := k_nlt (a := (m_an M)) (b := 60) (by omega) (by omega) c2
      subst hQ
      exact r_is (text := "there are 60 applications") hx hb hlt hown hts ht_is hE (by decide +kernel) (hl.1.trans hml.symm) dX0_close_26 dX0_close_29 dX0_close_30 dX0_close_32 dX0_close_35 htab ⟨Nat.le_of_ble_eq_true rfl, Nat.le_of_ble_eq_true rfl, Nat.le_of_ble_eq_true rfl, Nat.le_of_ble_eq_true rfl⟩ hlocks ⟨rfl, by unfold x_close; rw [if_neg c1, if_pos (by omega)]⟩
  · have c1 := k_eq (a := (m_ln M)) (b := 0) (by omega) (by omega) c1
    subst hQ
    exact r_is (text := "there are no lines") hx hb hlt hown hts ht_is hE (by decide +kernel) (hl.1.trans hml.symm) dX0_close_7 dX0_close_10 dX0_close_11 dX0_close_13 dX0_close_16 htab ⟨Nat.le_of_ble_eq_true rfl, Nat.le_of_ble_eq_true rfl, Nat.le_of_ble_eq_true rfl, Nat.le_of_ble_eq_true rfl⟩ hlocks ⟨rfl, by unfold x_close; rw [if_pos c1]⟩
set_option maxHeartbeats 4000000 in
set_option maxRecDepth 100000 in
theorem c0_lineByShare (l : Launch) (hlt : l.stackTraces = false) (D : va_G) (h : Nat → Nat) (cA : ClassId) (M : MM) (hM : OKM M) (x : Int32) (sz : Nat) : vx_Met l yX0_lineByShare wsX0_lineByShare ({ frames := 7, cells := 1, slots := 6, locals := 111 } : Room) (va_Pc [.ref (h 0), .int x] (fun U => pW D [(cA, .int)] (w0 h cA M) sz U ∧ x_En U)) (va_Qi (fun (r : Int32) (u : MM) => x_lbs M x = (0, r, u)) (fun u => qW D (va_A (w0 h cA M) sz) (w0 h cA u)) (va_A (w0 h cA M) sz)) (g_X (fun E : String => (E = E_io ∧ (x_lbs M x).1 = 1))) 1 6 (va_A (w0 h cA M) sz) := by
  refine vx_ofW (cc := cX0_lineByShare) (maxL := 3) (ret := (some .int)) (by decide) rfl ?_
  intro p e s m args below meth c s₁ B hml htab hv
  obtain ⟨rfl, ⟨hsz, hP, hK, hD0⟩, hE⟩ := hv
  have hx := B.exec
  have hb := B.bytes
  have hr := B.returns
  have hts := atoms_spec (ws := wsX0_lineByShare) B.pre
  have hown : s.vm.findClass RX0 = some m.cls := findClass_of_methodNamed B.named
  have hlocks := B.notSynchronized
  have kw0 := hts (.fieldLink RX0 55 "ProgressBilling" "lineCount" "I") (by decide +kernel)
  have hin0 : ∀ w ∈ u_ws RX0 TX0 15, w ∈ wsX0_lineByShare := by decide +kernel
  subst hsz
  have hD := hD0.self (sz := s.heap.size)
  generalize hAe : va_A (w0 h cA M) s.heap.size = A at hD ⊢
  have hA : ∀ q : Nat, s.heap.size ≤ q → A q := fun q h => by rw [← hAe]; exact Or.inr h
  have hS : va_S A s.heap s.heap [] := va_S.rf
  have hP : va_P D vwCl (w0 h cA M) s.heap := hP
  obtain ⟨hn1, hn2, hn3, hn4⟩ := id hM
  have hl := lv_entry ([.ref (h 0), .int x]) (n := 3) (Nat.le_of_ble_eq_true rfl)
  rw [lg_entry_eq]
  generalize (lg_sl ([.ref (h 0), .int x]) ++ List.replicate (3 - (lg_sl ([.ref (h 0), .int x])).length) Slot.unset).toArray = ls at hl ⊢
  have hl : lv_has ls 3 [(0, .ref (h 0)), (1, .int x)] := hl
  refine w_abs (fun Q hQ => ?_)
  refine lv_aload_n hx hb dX0_lineByShare_0 rfl (lv_at hl 0 rfl) ?_
  refine lv_iload_n hx hb dX0_lineByShare_1 rfl (lv_at hl 1 rfl) ?_
  refine g_callv (vx_runV (As := [.int x]) (rest := []) ⟨hx, hb, hml, hown, hts⟩ (c0_requireLine l hlt D h cA M hM x) (cwV 1 hts gX0_lineByShare_X0_requireLine rfl rfl rfl (by decide +kernel) ⟨Nat.le_of_ble_eq_true rfl, Nat.le_of_ble_eq_true rfl⟩) ⟨pE_fb pR_fb, va_recv hK hP (ci := 0) (q0 := 0) rfl rfl, pE_mk rfl (pR_mk hP hK) hE⟩ rfl rfl hl.1 rfl (lv_room (Nat.le_of_ble_eq_true rfl)) dX0_lineByShare_2 ⟨Nat.le_of_ble_eq_true rfl, Nat.le_of_ble_eq_true rfl⟩) (fun E ce q9 H1 hpx g1 g2 hce hcv hcl => ?_) (fun q1 => ?_)
  · subst hQ
    exact r_out htab hlocks g1 g2 hce hcv hcl ⟨hpx.1, by first | (simp only [x_lbs]; simp [hpx.2]; done) | (simp [x_lbs, hpx.2]; done)⟩ (by decide) (by decide)
  · obtain ⟨j, hj, q1, hix⟩ := q1
    subst q1
    refine lv_iconst (v := 0) hx hb dX0_lineByShare_5 (by decide) ?_
    refine lv_istore_n (lv' := [(2, .int 0), (0, .ref (h 0)), (1, .int (nI j))]) hx hb dX0_lineByShare_6 rfl hl (by decide) rfl (fun ls hl => ?_)
    have loop : ∀ (fu : Nat) (k : Nat), k ≤ m_ln M - 1 → x_fl M j (m_ln M - 1) 0 = x_fl M j (m_ln M - 1 - k) k → m_ln M - k < fu → ∀ (ls : Array Slot), lv_has ls 3 [(0, .ref (h 0)), (1, .int (nI j)), (2, .int (nI k))] → W p l e (headSpec wsX0_lineByShare ({ frames := 7, cells := 1, slots := 6, locals := 111 } : Room)).room s m ([.ref (h 0), .int (nI j)] : List Value).toArray below meth c s.heap [] 0 0 Q (F0 m 7 ls []) := by
      intro fu
      induction fu with
      | zero => intro k hk eb hfu; exact absurd hfu (by omega)
      | succ fu ih =>
        intro k hk eb hfu ls hl
        refine lv_iload_n hx hb dX0_lineByShare_7 rfl (lv_at hl 2 rfl) ?_
        refine lv_aload_n hx hb dX0_lineByShare_8 rfl (lv_at hl 0 rfl) ?_
        refine va_get (D := D) (ci := 0) (v := .int (nI (m_ln M))) (C := RX0) (T := TX0) (N := 15) hx hb hts hin0 hown hK hP 0 rfl rfl 5 (by decide) kw0 (fun _ h9 => h9) rfl dX0_lineByShare_9 ?_
        refine lv_iconst (v := 1) hx hb dX0_lineByShare_12 (by decide) ?_
        refine lv_isub hx hb dX0_lineByShare_13 ?_
        refine lv_topi (fun y2 ey2 => ?_)
        obtain rfl : y2 = nI ((m_ln M) - 1) := ey2.trans (k_pred (by omega))
        refine lv_icmp_ge (tgt := 32) hx hb dX0_lineByShare_14 (by decide) (fun c3 => ?_) (fun c3 => ?_)
        · have c3 := k_le (a := ((m_ln M) - 1)) (b := k) (by omega) (by omega) c3
          refine lv_iload_n hx hb dX0_lineByShare_32 rfl (lv_at hl 2 rfl) ?_
          subst hQ
          refine vx_ret ?_
          refine W.widen (k := 1) (n := 6) (by decide) (by decide) ?_
          exact W.iret (v := nI k) hx hb hr (fun t ht hW => ⟨⟨nI k, M, rfl, (by simp only [x_lbs, hix]; rw [eb, show m_ln M - 1 - k = 0 by omega]; rfl), by rw [ht]; exact hP, hD⟩, hS.F ht⟩) hS.2.2 dX0_lineByShare_33
        · have c3 := k_nle (a := ((m_ln M) - 1)) (b := k) (by omega) (by omega) c3
          refine lv_aload_n hx hb dX0_lineByShare_17 rfl (lv_at hl 0 rfl) ?_
          refine lv_iload_n hx hb dX0_lineByShare_18 rfl (lv_at hl 2 rfl) ?_
          refine vp_callSi (W.runV (As := [.int (nI k)]) (rest := []) ⟨hx, hb, hml, hown, hts⟩ (c0_placeByShare l D h cA M hM k (by omega)) (cwV 1 hts gX0_lineByShare_X0_placeByShare rfl rfl rfl (by decide +kernel) ⟨Nat.le_of_ble_eq_true rfl, Nat.le_of_ble_eq_true rfl⟩) ⟨pR_fb, va_recv hK hP (ci := 0) (q0 := 0) rfl rfl, pR_mk hP hK⟩ rfl rfl hl.1 rfl (lv_room (Nat.le_of_ble_eq_true rfl)) dX0_lineByShare_19 ⟨Nat.le_of_ble_eq_true rfl, Nat.le_of_ble_eq_true rfl⟩) (fun r4 qr4 => ?_)
          obtain ⟨n5, hn5, qr4, en5⟩ := qr4
          subst qr4
          refine lv_iload_n hx hb dX0_lineByShare_22 rfl (lv_at hl 1 rfl) ?_
          refine lv_icmp_eq (tgt := 32) hx hb dX0_lineByShare_23 (by decide) (fun c6 => ?_) (fun c6 => ?_)
          · have c6 := k_eq (a := n5) (b := j) (by omega) (by omega) c6
            refine lv_iload_n hx hb dX0_lineByShare_32 rfl (lv_at hl 2 rfl) ?_
            subst hQ
            refine vx_ret ?_
            refine W.widen (k := 1) (n := 6) (by decide) (by decide) ?_
            exact W.iret (v := nI k) hx hb hr (fun t ht hW => ⟨⟨nI k, M, rfl, (by simp only [x_lbs, hix]; rw [eb, x_fl_y (by rw [← en5]; exact c6)]), by rw [ht]; exact hP, hD⟩, hS.F ht⟩) hS.2.2 dX0_lineByShare_33
          · have c6 := k_ne (a := n5) (b := j) (by omega) (by omega) c6
            refine lv_iinc (v := nI (k + 1)) (lv' := [(2, .int (nI (k + 1))), (0, .ref (h 0)), (1, .int (nI j))]) hx hb dX0_lineByShare_26 hl (k := 2) rfl (nI_1 _) (by decide) rfl (fun ls hl => ?_)
            refine lv_goto (tgt := 7) hx hb dX0_lineByShare_29 (by decide) ?_
            exact ih (k + 1) (by omega) (by rw [eb]; exact x_fl_n (by omega) (by rw [← en5]; exact c6)) (by omega) ls (lv_sub hl [1, 2, 0] rfl)
    exact loop (m_ln M + 1) 0 (Nat.zero_le _) rfl (by omega) ls (lv_sub hl [1, 2, 0] rfl)
