/-! THE CLASS: payments, rows of applications -/
set_option maxHeartbeats 4000000 in
set_option maxRecDepth 100000 in
theorem c0_pay (l : Launch) (hlt : l.stackTraces = false) (D : va_G) (h : Nat → Nat) (cA : ClassId) (M : MM) (hM : OKM M) (x : Int32) (sz : Nat) : vx_Met l yX0_pay wsX0_pay ({ frames := 7, cells := 1, slots := 6, locals := 111 } : Room) (va_Pc [.ref (h 0), .int x] (fun U => pW D [(cA, .int)] (w0 h cA M) sz U ∧ x_En U)) (va_Qi (fun (r : Int32) (u : MM) => x_pay M x = (0, r, u)) (fun u => qW D (va_A (w0 h cA M) sz) (w0 h cA u)) (va_A (w0 h cA M) sz)) (g_X (fun E : String => (E = E_io ∧ (x_pay M x).1 = 1) ∨ (E = E_is ∧ (x_pay M x).1 = 2))) 1 6 (va_A (w0 h cA M) sz) := by
  refine vx_ofW (cc := cX0_pay) (maxL := 2) (ret := (some .int)) (by decide) rfl ?_
  intro p e s m args below meth c s₁ B hml htab hv
  obtain ⟨rfl, ⟨hsz, hP, hK, hD0⟩, hE⟩ := hv
  have hx := B.exec
  have hb := B.bytes
  have hr := B.returns
  have hts := atoms_spec (ws := wsX0_pay) B.pre
  have hown : s.vm.findClass RX0 = some m.cls := findClass_of_methodNamed B.named
  have hlocks := B.notSynchronized
  have kw0 := hts (.fieldLink RX0 31 "ProgressBilling" "applicationState" "[I") (by decide +kernel)
  have kw1 := hts (.fieldLink RX0 34 "ProgressBilling" "applicationAmount" "[I") (by decide +kernel)
  have hin0 : ∀ w ∈ u_ws RX0 TX0 15, w ∈ wsX0_pay := by decide +kernel
  have ht_is : ∀ w ∈ t_is, w ∈ wsX0_pay := by decide +kernel
  subst hsz
  have hD := hD0.self (sz := s.heap.size)
  generalize hAe : va_A (w0 h cA M) s.heap.size = A at hD ⊢
  have hA : ∀ q : Nat, s.heap.size ≤ q → A q := fun q h => by rw [← hAe]; exact Or.inr h
  have hS : va_S A s.heap s.heap [] := va_S.rf
  have hP : va_P D vwCl (w0 h cA M) s.heap := hP
  obtain ⟨hn1, hn2, hn3, hn4⟩ := id hM
  have hl := lv_entry ([.ref (h 0), .int x]) (n := 2) (Nat.le_of_ble_eq_true rfl)
  rw [lg_entry_eq]
  generalize (lg_sl ([.ref (h 0), .int x]) ++ List.replicate (2 - (lg_sl ([.ref (h 0), .int x])).length) Slot.unset).toArray = ls at hl ⊢
  have hl : lv_has ls 2 [(0, .ref (h 0)), (1, .int x)] := hl
  refine w_abs (fun Q hQ => ?_)
  refine lv_aload_n hx hb dX0_pay_0 rfl (lv_at hl 0 rfl) ?_
  refine lv_iload_n hx hb dX0_pay_1 rfl (lv_at hl 1 rfl) ?_
  refine g_callv (vx_runV (As := [.int x]) (rest := []) ⟨hx, hb, hml, hown, hts⟩ (c0_requireApplication l hlt D h cA M hM x) (cwV 1 hts gX0_pay_X0_requireApplication rfl rfl rfl (by decide +kernel) ⟨Nat.le_of_ble_eq_true rfl, Nat.le_of_ble_eq_true rfl⟩) ⟨pE_fb pR_fb, va_recv hK hP (ci := 0) (q0 := 0) rfl rfl, pE_mk rfl (pR_mk hP hK) hE⟩ rfl rfl hl.1 rfl (lv_room (Nat.le_of_ble_eq_true rfl)) dX0_pay_2 ⟨Nat.le_of_ble_eq_true rfl, Nat.le_of_ble_eq_true rfl⟩) (fun E ce q9 H1 hpx g1 g2 hce hcv hcl => ?_) (fun q1 => ?_)
  · subst hQ
    exact r_out htab hlocks g1 g2 hce hcv hcl (Or.inl (⟨hpx.1, by first | (simp only [x_pay]; simp [hpx.2]; done) | (simp [x_pay, hpx.2]; done)⟩)) (by decide) (by decide)
  · obtain ⟨j, hj, q1, hix⟩ := q1
    subst q1
    refine lv_aload_n hx hb dX0_pay_5 rfl (lv_at hl 0 rfl) ?_
    refine va_get (D := D) (ci := 0) (v := .ref (h 8)) (C := RX0) (T := TX0) (N := 15) hx hb hts hin0 hown hK hP 0 rfl rfl 10 (by decide) kw0 (fun _ h9 => h9) rfl dX0_pay_6 ?_
    refine lv_iload_n hx hb dX0_pay_9 rfl (lv_at hl 1 rfl) ?_
    refine r_ald (f := m_as M) (j := j) hx hb hK hP 8 0 rfl rfl (by omega) (by omega) dX0_pay_10 ?_
    refine lv_if_eq (tgt := 24) hx hb dX0_pay_11 (by decide) (fun c2 => ?_) (fun c2 => ?_)
    · refine lv_aload_n hx hb dX0_pay_24 rfl (lv_at hl 0 rfl) ?_
      refine vp_callSi (W.runV (As := []) (rest := []) ⟨hx, hb, hml, hown, hts⟩ (c0_waiversGiven l D h cA M hM) (cwV 0 hts gX0_pay_X0_waiversGiven rfl rfl rfl (by decide +kernel) ⟨Nat.le_of_ble_eq_true rfl, Nat.le_of_ble_eq_true rfl⟩) ⟨pR_fb, va_recv hK hP (ci := 0) (q0 := 0) rfl rfl, pR_mk hP hK⟩ rfl rfl hl.1 rfl (lv_room (Nat.le_of_ble_eq_true rfl)) dX0_pay_25 ⟨Nat.le_of_ble_eq_true rfl, Nat.le_of_ble_eq_true rfl⟩) (fun r3 qr3 => ?_)
      have qr3 : r3 = nI (cnt2 (m_as M) (m_an M)) := qr3
      subst qr3
      have hcn : cnt2 (m_as M) (m_an M) ≤ m_an M := cnt2_le _ _
      refine lv_iload_n hx hb dX0_pay_28 rfl (lv_at hl 1 rfl) ?_
      refine lv_icmp_ge (tgt := 42) hx hb dX0_pay_29 (by decide) (fun c4 => ?_) (fun c4 => ?_)
      · have c4 := k_le (a := j) (b := (cnt2 (m_as M) (m_an M))) (by omega) (by omega) c4
        refine lv_aload_n hx hb dX0_pay_42 rfl (lv_at hl 0 rfl) ?_
        refine va_get (D := D) (ci := 0) (v := .ref (h 8)) (C := RX0) (T := TX0) (N := 15) hx hb hts hin0 hown hK hP 0 rfl rfl 10 (by decide) kw0 (fun _ h9 => h9) rfl dX0_pay_43 ?_
        refine lv_iload_n hx hb dX0_pay_46 rfl (lv_at hl 1 rfl) ?_
        refine lv_iconst (v := 1) hx hb dX0_pay_47 (by decide) ?_
        refine r_ast (f := m_as M) (j := j) (v := 1) hx hb hK hP hD hS 8 0 rfl rfl (by omega) (by omega) dX0_pay_48 (fun H locs hP hD hS => ?_)
        have hP : va_P D vwCl (w0 h cA (s_as M (upd (m_as M) j 1))) H := hP
        have hD : va_D A (w0 h cA (s_as M (upd (m_as M) j 1))) := hD
        refine lv_aload_n hx hb dX0_pay_49 rfl (lv_at hl 0 rfl) ?_
        refine va_get (D := D) (ci := 0) (v := .ref (h 9)) (C := RX0) (T := TX0) (N := 15) hx hb hts hin0 hown hK hP 0 rfl rfl 11 (by decide) kw1 (fun _ h9 => h9) rfl dX0_pay_50 ?_
        refine lv_iload_n hx hb dX0_pay_53 rfl (lv_at hl 1 rfl) ?_
        refine r_ald (f := m_aa M) (j := j) hx hb hK hP 9 0 rfl rfl (by omega) (by omega) dX0_pay_54 ?_
        subst hQ
        refine vx_ret ?_
        refine W.widen (k := 1) (n := 6) (by decide) (by decide) ?_
        exact W.iret (v := (m_aa M) j) hx hb hr (fun t ht hW => ⟨⟨(m_aa M) j, s_as M (upd (m_as M) j 1), rfl, (by simp [x_pay, hix, c2, c4, pk_us]), by rw [ht]; exact hP, hD⟩, hS.F ht⟩) hS.2.2 dX0_pay_55
      · have c4 := k_nle (a := j) (b := (cnt2 (m_as M) (m_an M))) (by omega) (by omega) c4
        subst hQ
        exact r_is (text := "a waiver before it is not given") hx hb hlt hown hts ht_is hE (by decide +kernel) (hl.1.trans hml.symm) dX0_pay_32 dX0_pay_35 dX0_pay_36 dX0_pay_38 dX0_pay_41 htab ⟨Nat.le_of_ble_eq_true rfl, Nat.le_of_ble_eq_true rfl, Nat.le_of_ble_eq_true rfl, Nat.le_of_ble_eq_true rfl⟩ hlocks (Or.inr (⟨rfl, by simp [x_pay, hix, c2, c4]⟩))
    · subst hQ
      exact r_is (text := "the application is paid already") hx hb hlt hown hts ht_is hE (by decide +kernel) (hl.1.trans hml.symm) dX0_pay_14 dX0_pay_17 dX0_pay_18 dX0_pay_20 dX0_pay_23 htab ⟨Nat.le_of_ble_eq_true rfl, Nat.le_of_ble_eq_true rfl, Nat.le_of_ble_eq_true rfl, Nat.le_of_ble_eq_true rfl⟩ hlocks (Or.inr (⟨rfl, by simp [x_pay, hix, c2]⟩))
set_option maxHeartbeats 4000000 in
set_option maxRecDepth 100000 in
theorem c0_waive (l : Launch) (hlt : l.stackTraces = false) (D : va_G) (h : Nat → Nat) (cA : ClassId) (M : MM) (hM : OKM M) (x : Int32) (sz : Nat) : vx_Met l yX0_waive wsX0_waive ({ frames := 7, cells := 1, slots := 6, locals := 111 } : Room) (va_Pc [.ref (h 0), .int x] (fun U => pW D [(cA, .int)] (w0 h cA M) sz U ∧ x_En U)) (va_Qi (fun (r : Int32) (u : MM) => x_waive M x = (0, r, u)) (fun u => qW D (va_A (w0 h cA M) sz) (w0 h cA u)) (va_A (w0 h cA M) sz)) (g_X (fun E : String => (E = E_io ∧ (x_waive M x).1 = 1) ∨ (E = E_is ∧ (x_waive M x).1 = 2))) 1 6 (va_A (w0 h cA M) sz) := by
  refine vx_ofW (cc := cX0_waive) (maxL := 2) (ret := (some .int)) (by decide) rfl ?_
  intro p e s m args below meth c s₁ B hml htab hv
  obtain ⟨rfl, ⟨hsz, hP, hK, hD0⟩, hE⟩ := hv
  have hx := B.exec
  have hb := B.bytes
  have hr := B.returns
  have hts := atoms_spec (ws := wsX0_waive) B.pre
  have hown : s.vm.findClass RX0 = some m.cls := findClass_of_methodNamed B.named
  have hlocks := B.notSynchronized
  have kw0 := hts (.fieldLink RX0 31 "ProgressBilling" "applicationState" "[I") (by decide +kernel)
  have hin0 : ∀ w ∈ u_ws RX0 TX0 15, w ∈ wsX0_waive := by decide +kernel
  have ht_is : ∀ w ∈ t_is, w ∈ wsX0_waive := by decide +kernel
  subst hsz
  have hD := hD0.self (sz := s.heap.size)
  generalize hAe : va_A (w0 h cA M) s.heap.size = A at hD ⊢
  have hA : ∀ q : Nat, s.heap.size ≤ q → A q := fun q h => by rw [← hAe]; exact Or.inr h
  have hS : va_S A s.heap s.heap [] := va_S.rf
  have hP : va_P D vwCl (w0 h cA M) s.heap := hP
  obtain ⟨hn1, hn2, hn3, hn4⟩ := id hM
  have hl := lv_entry ([.ref (h 0), .int x]) (n := 2) (Nat.le_of_ble_eq_true rfl)
  rw [lg_entry_eq]
  generalize (lg_sl ([.ref (h 0), .int x]) ++ List.replicate (2 - (lg_sl ([.ref (h 0), .int x])).length) Slot.unset).toArray = ls at hl ⊢
  have hl : lv_has ls 2 [(0, .ref (h 0)), (1, .int x)] := hl
  refine w_abs (fun Q hQ => ?_)
  refine lv_aload_n hx hb dX0_waive_0 rfl (lv_at hl 0 rfl) ?_
  refine lv_iload_n hx hb dX0_waive_1 rfl (lv_at hl 1 rfl) ?_
  refine g_callv (vx_runV (As := [.int x]) (rest := []) ⟨hx, hb, hml, hown, hts⟩ (c0_requireApplication l hlt D h cA M hM x) (cwV 1 hts gX0_waive_X0_requireApplication rfl rfl rfl (by decide +kernel) ⟨Nat.le_of_ble_eq_true rfl, Nat.le_of_ble_eq_true rfl⟩) ⟨pE_fb pR_fb, va_recv hK hP (ci := 0) (q0 := 0) rfl rfl, pE_mk rfl (pR_mk hP hK) hE⟩ rfl rfl hl.1 rfl (lv_room (Nat.le_of_ble_eq_true rfl)) dX0_waive_2 ⟨Nat.le_of_ble_eq_true rfl, Nat.le_of_ble_eq_true rfl⟩) (fun E ce q9 H1 hpx g1 g2 hce hcv hcl => ?_) (fun q1 => ?_)
  · subst hQ
    exact r_out htab hlocks g1 g2 hce hcv hcl (Or.inl (⟨hpx.1, by first | (simp only [x_waive]; simp [hpx.2]; done) | (simp [x_waive, hpx.2]; done)⟩)) (by decide) (by decide)
  · obtain ⟨j, hj, q1, hix⟩ := q1
    subst q1
    refine lv_aload_n hx hb dX0_waive_5 rfl (lv_at hl 0 rfl) ?_
    refine va_get (D := D) (ci := 0) (v := .ref (h 8)) (C := RX0) (T := TX0) (N := 15) hx hb hts hin0 hown hK hP 0 rfl rfl 10 (by decide) kw0 (fun _ h9 => h9) rfl dX0_waive_6 ?_
    refine lv_iload_n hx hb dX0_waive_9 rfl (lv_at hl 1 rfl) ?_
    refine r_ald (f := m_as M) (j := j) hx hb hK hP 8 0 rfl rfl (by omega) (by omega) dX0_waive_10 ?_
    refine lv_iconst (v := 1) hx hb dX0_waive_11 (by decide) ?_
    refine lv_icmp_eq (tgt := 25) hx hb dX0_waive_12 (by decide) (fun c2 => ?_) (fun c2 => ?_)
    · refine lv_aload_n hx hb dX0_waive_25 rfl (lv_at hl 0 rfl) ?_
      refine va_get (D := D) (ci := 0) (v := .ref (h 8)) (C := RX0) (T := TX0) (N := 15) hx hb hts hin0 hown hK hP 0 rfl rfl 10 (by decide) kw0 (fun _ h9 => h9) rfl dX0_waive_26 ?_
      refine lv_iload_n hx hb dX0_waive_29 rfl (lv_at hl 1 rfl) ?_
      refine lv_iconst (v := 2) hx hb dX0_waive_30 (by decide) ?_
      refine r_ast (f := m_as M) (j := j) (v := 2) hx hb hK hP hD hS 8 0 rfl rfl (by omega) (by omega) dX0_waive_31 (fun H locs hP hD hS => ?_)
      have hP : va_P D vwCl (w0 h cA (s_as M (upd (m_as M) j 2))) H := hP
      have hD : va_D A (w0 h cA (s_as M (upd (m_as M) j 2))) := hD
      refine lv_aload_n hx hb dX0_waive_32 rfl (lv_at hl 0 rfl) ?_
      refine vp_callSi (W.runV (As := []) (rest := []) ⟨hx, hb, hml, hown, hts⟩ (c0_waiversGiven l D h cA (s_as M (upd (m_as M) j 2)) hM) (cwV 0 hts gX0_waive_X0_waiversGiven rfl rfl rfl (by decide +kernel) ⟨Nat.le_of_ble_eq_true rfl, Nat.le_of_ble_eq_true rfl⟩) ⟨pR_fb, va_recv hK hP (ci := 0) (q0 := 0) rfl rfl, pR_mk hP hK⟩ rfl rfl hl.1 rfl (lv_room (Nat.le_of_ble_eq_true rfl)) dX0_waive_33 ⟨Nat.le_of_ble_eq_true rfl, Nat.le_of_ble_eq_true rfl⟩) (fun r3 qr3 => ?_)
      have qr3 : r3 = nI (cnt2 (upd (m_as M) j 2) (m_an M)) := qr3
      subst qr3
      have hcn : cnt2 (upd (m_as M) j 2) (m_an M) ≤ m_an M := cnt2_le _ _
      subst hQ
      refine vx_ret ?_
      refine W.widen (k := 1) (n := 6) (by decide) (by decide) ?_
      exact W.iret (v := nI (cnt2 (upd (m_as M) j 2) (m_an M))) hx hb hr (fun t ht hW => ⟨⟨nI (cnt2 (upd (m_as M) j 2) (m_an M)), s_as M (upd (m_as M) j 2), rfl, (by simp [x_waive, hix, c2, pk_us]), by rw [ht]; exact hP, hD⟩, hS.F ht⟩) hS.2.2 dX0_waive_36
    · subst hQ
      exact r_is (text := "the application is not in the state PAID") hx hb hlt hown hts ht_is hE (by decide +kernel) (hl.1.trans hml.symm) dX0_waive_15 dX0_waive_18 dX0_waive_19 dX0_waive_21 dX0_waive_24 htab ⟨Nat.le_of_ble_eq_true rfl, Nat.le_of_ble_eq_true rfl, Nat.le_of_ble_eq_true rfl, Nat.le_of_ble_eq_true rfl⟩ hlocks (Or.inr (⟨rfl, by simp [x_waive, hix, c2]⟩))
set_option maxHeartbeats 4000000 in
set_option maxRecDepth 100000 in
theorem c0_state (l : Launch) (hlt : l.stackTraces = false) (D : va_G) (h : Nat → Nat) (cA : ClassId) (M : MM) (hM : OKM M) (x : Int32) (sz : Nat) : vx_Met l yX0_state wsX0_state ({ frames := 7, cells := 1, slots := 6, locals := 111 } : Room) (va_Pc [.ref (h 0), .int x] (fun U => pW D [(cA, .int)] (w0 h cA M) sz U ∧ x_En U)) (va_Qi (fun (r : Int32) (u : MM) => o_row M (m_an M) (m_as M) x = (0, r, u)) (fun u => qW D (va_A (w0 h cA M) sz) (w0 h cA u)) (va_A (w0 h cA M) sz)) (g_X (fun E : String => (E = E_io ∧ (o_row M (m_an M) (m_as M) x).1 = 1))) 1 6 (va_A (w0 h cA M) sz) := by
  refine vx_ofW (cc := cX0_state) (maxL := 2) (ret := (some .int)) (by decide) rfl ?_
  intro p e s m args below meth c s₁ B hml htab hv
  obtain ⟨rfl, ⟨hsz, hP, hK, hD0⟩, hE⟩ := hv
  have hx := B.exec
  have hb := B.bytes
  have hr := B.returns
  have hts := atoms_spec (ws := wsX0_state) B.pre
  have hown : s.vm.findClass RX0 = some m.cls := findClass_of_methodNamed B.named
  have hlocks := B.notSynchronized
  have kw0 := hts (.fieldLink RX0 31 "ProgressBilling" "applicationState" "[I") (by decide +kernel)
  have hin0 : ∀ w ∈ u_ws RX0 TX0 15, w ∈ wsX0_state := by decide +kernel
  subst hsz
  have hD := hD0.self (sz := s.heap.size)
  generalize hAe : va_A (w0 h cA M) s.heap.size = A at hD ⊢
  have hA : ∀ q : Nat, s.heap.size ≤ q → A q := fun q h => by rw [← hAe]; exact Or.inr h
  have hS : va_S A s.heap s.heap [] := va_S.rf
  have hP : va_P D vwCl (w0 h cA M) s.heap := hP
  obtain ⟨hn1, hn2, hn3, hn4⟩ := id hM
  have hl := lv_entry ([.ref (h 0), .int x]) (n := 2) (Nat.le_of_ble_eq_true rfl)
  rw [lg_entry_eq]
  generalize (lg_sl ([.ref (h 0), .int x]) ++ List.replicate (2 - (lg_sl ([.ref (h 0), .int x])).length) Slot.unset).toArray = ls at hl ⊢
  have hl : lv_has ls 2 [(0, .ref (h 0)), (1, .int x)] := hl
  refine w_abs (fun Q hQ => ?_)
  refine lv_aload_n hx hb dX0_state_0 rfl (lv_at hl 0 rfl) ?_
  refine lv_iload_n hx hb dX0_state_1 rfl (lv_at hl 1 rfl) ?_
  refine g_callv (vx_runV (As := [.int x]) (rest := []) ⟨hx, hb, hml, hown, hts⟩ (c0_requireApplication l hlt D h cA M hM x) (cwV 1 hts gX0_state_X0_requireApplication rfl rfl rfl (by decide +kernel) ⟨Nat.le_of_ble_eq_true rfl, Nat.le_of_ble_eq_true rfl⟩) ⟨pE_fb pR_fb, va_recv hK hP (ci := 0) (q0 := 0) rfl rfl, pE_mk rfl (pR_mk hP hK) hE⟩ rfl rfl hl.1 rfl (lv_room (Nat.le_of_ble_eq_true rfl)) dX0_state_2 ⟨Nat.le_of_ble_eq_true rfl, Nat.le_of_ble_eq_true rfl⟩) (fun E ce q9 H1 hpx g1 g2 hce hcv hcl => ?_) (fun q1 => ?_)
  · subst hQ
    exact r_out htab hlocks g1 g2 hce hcv hcl ⟨hpx.1, by first | (simp only [o_row]; simp [hpx.2]; done) | (simp [o_row, hpx.2]; done)⟩ (by decide) (by decide)
  · obtain ⟨j, hj, q1, hix⟩ := q1
    subst q1
    refine lv_aload_n hx hb dX0_state_5 rfl (lv_at hl 0 rfl) ?_
    refine va_get (D := D) (ci := 0) (v := .ref (h 8)) (C := RX0) (T := TX0) (N := 15) hx hb hts hin0 hown hK hP 0 rfl rfl 10 (by decide) kw0 (fun _ h9 => h9) rfl dX0_state_6 ?_
    refine lv_iload_n hx hb dX0_state_9 rfl (lv_at hl 1 rfl) ?_
    refine r_ald (f := m_as M) (j := j) hx hb hK hP 8 0 rfl rfl (by omega) (by omega) dX0_state_10 ?_
    subst hQ
    refine vx_ret ?_
    refine W.widen (k := 1) (n := 6) (by decide) (by decide) ?_
    exact W.iret (v := (m_as M) j) hx hb hr (fun t ht hW => ⟨⟨(m_as M) j, M, rfl, (by simp [o_row, hix, pk_us]), by rw [ht]; exact hP, hD⟩, hS.F ht⟩) hS.2.2 dX0_state_11
set_option maxHeartbeats 4000000 in
set_option maxRecDepth 100000 in
theorem c0_amount (l : Launch) (hlt : l.stackTraces = false) (D : va_G) (h : Nat → Nat) (cA : ClassId) (M : MM) (hM : OKM M) (x : Int32) (sz : Nat) : vx_Met l yX0_amount wsX0_amount ({ frames := 7, cells := 1, slots := 6, locals := 111 } : Room) (va_Pc [.ref (h 0), .int x] (fun U => pW D [(cA, .int)] (w0 h cA M) sz U ∧ x_En U)) (va_Qi (fun (r : Int32) (u : MM) => o_row M (m_an M) (m_aa M) x = (0, r, u)) (fun u => qW D (va_A (w0 h cA M) sz) (w0 h cA u)) (va_A (w0 h cA M) sz)) (g_X (fun E : String => (E = E_io ∧ (o_row M (m_an M) (m_aa M) x).1 = 1))) 1 6 (va_A (w0 h cA M) sz) := by
  refine vx_ofW (cc := cX0_amount) (maxL := 2) (ret := (some .int)) (by decide) rfl ?_
  intro p e s m args below meth c s₁ B hml htab hv
  obtain ⟨rfl, ⟨hsz, hP, hK, hD0⟩, hE⟩ := hv
  have hx := B.exec
  have hb := B.bytes
  have hr := B.returns
  have hts := atoms_spec (ws := wsX0_amount) B.pre
  have hown : s.vm.findClass RX0 = some m.cls := findClass_of_methodNamed B.named
  have hlocks := B.notSynchronized
  have kw0 := hts (.fieldLink RX0 34 "ProgressBilling" "applicationAmount" "[I") (by decide +kernel)
  have hin0 : ∀ w ∈ u_ws RX0 TX0 15, w ∈ wsX0_amount := by decide +kernel
  subst hsz
  have hD := hD0.self (sz := s.heap.size)
  generalize hAe : va_A (w0 h cA M) s.heap.size = A at hD ⊢
  have hA : ∀ q : Nat, s.heap.size ≤ q → A q := fun q h => by rw [← hAe]; exact Or.inr h
  have hS : va_S A s.heap s.heap [] := va_S.rf
  have hP : va_P D vwCl (w0 h cA M) s.heap := hP
  obtain ⟨hn1, hn2, hn3, hn4⟩ := id hM
  have hl := lv_entry ([.ref (h 0), .int x]) (n := 2) (Nat.le_of_ble_eq_true rfl)
  rw [lg_entry_eq]
  generalize (lg_sl ([.ref (h 0), .int x]) ++ List.replicate (2 - (lg_sl ([.ref (h 0), .int x])).length) Slot.unset).toArray = ls at hl ⊢
  have hl : lv_has ls 2 [(0, .ref (h 0)), (1, .int x)] := hl
  refine w_abs (fun Q hQ => ?_)
  refine lv_aload_n hx hb dX0_amount_0 rfl (lv_at hl 0 rfl) ?_
  refine lv_iload_n hx hb dX0_amount_1 rfl (lv_at hl 1 rfl) ?_
  refine g_callv (vx_runV (As := [.int x]) (rest := []) ⟨hx, hb, hml, hown, hts⟩ (c0_requireApplication l hlt D h cA M hM x) (cwV 1 hts gX0_amount_X0_requireApplication rfl rfl rfl (by decide +kernel) ⟨Nat.le_of_ble_eq_true rfl, Nat.le_of_ble_eq_true rfl⟩) ⟨pE_fb pR_fb, va_recv hK hP (ci := 0) (q0 := 0) rfl rfl, pE_mk rfl (pR_mk hP hK) hE⟩ rfl rfl hl.1 rfl (lv_room (Nat.le_of_ble_eq_true rfl)) dX0_amount_2 ⟨Nat.le_of_ble_eq_true rfl, Nat.le_of_ble_eq_true rfl⟩) (fun E ce q9 H1 hpx g1 g2 hce hcv hcl => ?_) (fun q1 => ?_)
  · subst hQ
    exact r_out htab hlocks g1 g2 hce hcv hcl ⟨hpx.1, by first | (simp only [o_row]; simp [hpx.2]; done) | (simp [o_row, hpx.2]; done)⟩ (by decide) (by decide)
  · obtain ⟨j, hj, q1, hix⟩ := q1
    subst q1
    refine lv_aload_n hx hb dX0_amount_5 rfl (lv_at hl 0 rfl) ?_
    refine va_get (D := D) (ci := 0) (v := .ref (h 9)) (C := RX0) (T := TX0) (N := 15) hx hb hts hin0 hown hK hP 0 rfl rfl 11 (by decide) kw0 (fun _ h9 => h9) rfl dX0_amount_6 ?_
    refine lv_iload_n hx hb dX0_amount_9 rfl (lv_at hl 1 rfl) ?_
    refine r_ald (f := m_aa M) (j := j) hx hb hK hP 9 0 rfl rfl (by omega) (by omega) dX0_amount_10 ?_
    subst hQ
    refine vx_ret ?_
    refine W.widen (k := 1) (n := 6) (by decide) (by decide) ?_
    exact W.iret (v := (m_aa M) j) hx hb hr (fun t ht hW => ⟨⟨(m_aa M) j, M, rfl, (by simp [o_row, hix, pk_us]), by rw [ht]; exact hP, hD⟩, hS.F ht⟩) hS.2.2 dX0_amount_11
set_option maxHeartbeats 4000000 in
set_option maxRecDepth 100000 in
theorem c0_billedBehind (l : Launch) (hlt : l.stackTraces = false) (D : va_G) (h : Nat → Nat) (cA : ClassId) (M : MM) (hM : OKM M) (x : Int32) (sz : Nat) : vx_Met l yX0_billedBehind wsX0_billedBehind ({ frames := 7, cells := 1, slots := 6, locals := 111 } : Room) (va_Pc [.ref (h 0), .int x] (fun U => pW D [(cA, .int)] (w0 h cA M) sz U ∧ x_En U)) (va_Qi (fun (r : Int32) (u : MM) => o_row M (m_an M) (m_ab M) x = (0, r, u)) (fun u => qW D (va_A (w0 h cA M) sz) (w0 h cA u)) (va_A (w0 h cA M) sz)) (g_X (fun E : String => (E = E_io ∧ (o_row M (m_an M) (m_ab M) x).1 = 1))) 1 6 (va_A (w0 h cA M) sz) := by
  refine vx_ofW (cc := cX0_billedBehind) (maxL := 2) (ret := (some .int)) (by decide) rfl ?_
  intro p e s m args below meth c s₁ B hml htab hv
  obtain ⟨rfl, ⟨hsz, hP, hK, hD0⟩, hE⟩ := hv
  have hx := B.exec
  have hb := B.bytes
  have hr := B.returns
  have hts := atoms_spec (ws := wsX0_billedBehind) B.pre
  have hown : s.vm.findClass RX0 = some m.cls := findClass_of_methodNamed B.named
  have hlocks := B.notSynchronized
  have kw0 := hts (.fieldLink RX0 37 "ProgressBilling" "applicationBilled" "[I") (by decide +kernel)
  have hin0 : ∀ w ∈ u_ws RX0 TX0 15, w ∈ wsX0_billedBehind := by decide +kernel
  subst hsz
  have hD := hD0.self (sz := s.heap.size)
  generalize hAe : va_A (w0 h cA M) s.heap.size = A at hD ⊢
  have hA : ∀ q : Nat, s.heap.size ≤ q → A q := fun q h => by rw [← hAe]; exact Or.inr h
  have hS : va_S A s.heap s.heap [] := va_S.rf
  have hP : va_P D vwCl (w0 h cA M) s.heap := hP
  obtain ⟨hn1, hn2, hn3, hn4⟩ := id hM
  have hl := lv_entry ([.ref (h 0), .int x]) (n := 2) (Nat.le_of_ble_eq_true rfl)
  rw [lg_entry_eq]
  generalize (lg_sl ([.ref (h 0), .int x]) ++ List.replicate (2 - (lg_sl ([.ref (h 0), .int x])).length) Slot.unset).toArray = ls at hl ⊢
  have hl : lv_has ls 2 [(0, .ref (h 0)), (1, .int x)] := hl
  refine w_abs (fun Q hQ => ?_)
  refine lv_aload_n hx hb dX0_billedBehind_0 rfl (lv_at hl 0 rfl) ?_
  refine lv_iload_n hx hb dX0_billedBehind_1 rfl (lv_at hl 1 rfl) ?_
  refine g_callv (vx_runV (As := [.int x]) (rest := []) ⟨hx, hb, hml, hown, hts⟩ (c0_requireApplication l hlt D h cA M hM x) (cwV 1 hts gX0_billedBehind_X0_requireApplication rfl rfl rfl (by decide +kernel) ⟨Nat.le_of_ble_eq_true rfl, Nat.le_of_ble_eq_true rfl⟩) ⟨pE_fb pR_fb, va_recv hK hP (ci := 0) (q0 := 0) rfl rfl, pE_mk rfl (pR_mk hP hK) hE⟩ rfl rfl hl.1 rfl (lv_room (Nat.le_of_ble_eq_true rfl)) dX0_billedBehind_2 ⟨Nat.le_of_ble_eq_true rfl, Nat.le_of_ble_eq_true rfl⟩) (fun E ce q9 H1 hpx g1 g2 hce hcv hcl => ?_) (fun q1 => ?_)
  · subst hQ
    exact r_out htab hlocks g1 g2 hce hcv hcl ⟨hpx.1, by first | (simp only [o_row]; simp [hpx.2]; done) | (simp [o_row, hpx.2]; done)⟩ (by decide) (by decide)
  · obtain ⟨j, hj, q1, hix⟩ := q1
    subst q1
    refine lv_aload_n hx hb dX0_billedBehind_5 rfl (lv_at hl 0 rfl) ?_
    refine va_get (D := D) (ci := 0) (v := .ref (h 10)) (C := RX0) (T := TX0) (N := 15) hx hb hts hin0 hown hK hP 0 rfl rfl 12 (by decide) kw0 (fun _ h9 => h9) rfl dX0_billedBehind_6 ?_
    refine lv_iload_n hx hb dX0_billedBehind_9 rfl (lv_at hl 1 rfl) ?_
    refine r_ald (f := m_ab M) (j := j) hx hb hK hP 10 0 rfl rfl (by omega) (by omega) dX0_billedBehind_10 ?_
    subst hQ
    refine vx_ret ?_
    refine W.widen (k := 1) (n := 6) (by decide) (by decide) ?_
    exact W.iret (v := (m_ab M) j) hx hb hr (fun t ht hW => ⟨⟨(m_ab M) j, M, rfl, (by simp [o_row, hix, pk_us]), by rw [ht]; exact hP, hD⟩, hS.F ht⟩) hS.2.2 dX0_billedBehind_11
set_option maxHeartbeats 4000000 in
set_option maxRecDepth 100000 in
theorem c0_heldBehind (l : Launch) (hlt : l.stackTraces = false) (D : va_G) (h : Nat → Nat) (cA : ClassId) (M : MM) (hM : OKM M) (x : Int32) (sz : Nat) : vx_Met l yX0_heldBehind wsX0_heldBehind ({ frames := 7, cells := 1, slots := 6, locals := 111 } : Room) (va_Pc [.ref (h 0), .int x] (fun U => pW D [(cA, .int)] (w0 h cA M) sz U ∧ x_En U)) (va_Qi (fun (r : Int32) (u : MM) => o_row M (m_an M) (m_ah M) x = (0, r, u)) (fun u => qW D (va_A (w0 h cA M) sz) (w0 h cA u)) (va_A (w0 h cA M) sz)) (g_X (fun E : String => (E = E_io ∧ (o_row M (m_an M) (m_ah M) x).1 = 1))) 1 6 (va_A (w0 h cA M) sz) := by
  refine vx_ofW (cc := cX0_heldBehind) (maxL := 2) (ret := (some .int)) (by decide) rfl ?_
  intro p e s m args below meth c s₁ B hml htab hv
  obtain ⟨rfl, ⟨hsz, hP, hK, hD0⟩, hE⟩ := hv
  have hx := B.exec
  have hb := B.bytes
  have hr := B.returns
  have hts := atoms_spec (ws := wsX0_heldBehind) B.pre
  have hown : s.vm.findClass RX0 = some m.cls := findClass_of_methodNamed B.named
  have hlocks := B.notSynchronized
  have kw0 := hts (.fieldLink RX0 40 "ProgressBilling" "applicationHeld" "[I") (by decide +kernel)
  have hin0 : ∀ w ∈ u_ws RX0 TX0 15, w ∈ wsX0_heldBehind := by decide +kernel
  subst hsz
  have hD := hD0.self (sz := s.heap.size)
  generalize hAe : va_A (w0 h cA M) s.heap.size = A at hD ⊢
  have hA : ∀ q : Nat, s.heap.size ≤ q → A q := fun q h => by rw [← hAe]; exact Or.inr h
  have hS : va_S A s.heap s.heap [] := va_S.rf
  have hP : va_P D vwCl (w0 h cA M) s.heap := hP
  obtain ⟨hn1, hn2, hn3, hn4⟩ := id hM
  have hl := lv_entry ([.ref (h 0), .int x]) (n := 2) (Nat.le_of_ble_eq_true rfl)
  rw [lg_entry_eq]
  generalize (lg_sl ([.ref (h 0), .int x]) ++ List.replicate (2 - (lg_sl ([.ref (h 0), .int x])).length) Slot.unset).toArray = ls at hl ⊢
  have hl : lv_has ls 2 [(0, .ref (h 0)), (1, .int x)] := hl
  refine w_abs (fun Q hQ => ?_)
  refine lv_aload_n hx hb dX0_heldBehind_0 rfl (lv_at hl 0 rfl) ?_
  refine lv_iload_n hx hb dX0_heldBehind_1 rfl (lv_at hl 1 rfl) ?_
  refine g_callv (vx_runV (As := [.int x]) (rest := []) ⟨hx, hb, hml, hown, hts⟩ (c0_requireApplication l hlt D h cA M hM x) (cwV 1 hts gX0_heldBehind_X0_requireApplication rfl rfl rfl (by decide +kernel) ⟨Nat.le_of_ble_eq_true rfl, Nat.le_of_ble_eq_true rfl⟩) ⟨pE_fb pR_fb, va_recv hK hP (ci := 0) (q0 := 0) rfl rfl, pE_mk rfl (pR_mk hP hK) hE⟩ rfl rfl hl.1 rfl (lv_room (Nat.le_of_ble_eq_true rfl)) dX0_heldBehind_2 ⟨Nat.le_of_ble_eq_true rfl, Nat.le_of_ble_eq_true rfl⟩) (fun E ce q9 H1 hpx g1 g2 hce hcv hcl => ?_) (fun q1 => ?_)
  · subst hQ
    exact r_out htab hlocks g1 g2 hce hcv hcl ⟨hpx.1, by first | (simp only [o_row]; simp [hpx.2]; done) | (simp [o_row, hpx.2]; done)⟩ (by decide) (by decide)
  · obtain ⟨j, hj, q1, hix⟩ := q1
    subst q1
    refine lv_aload_n hx hb dX0_heldBehind_5 rfl (lv_at hl 0 rfl) ?_
    refine va_get (D := D) (ci := 0) (v := .ref (h 11)) (C := RX0) (T := TX0) (N := 15) hx hb hts hin0 hown hK hP 0 rfl rfl 13 (by decide) kw0 (fun _ h9 => h9) rfl dX0_heldBehind_6 ?_
    refine lv_iload_n hx hb dX0_heldBehind_9 rfl (lv_at hl 1 rfl) ?_
    refine r_ald (f := m_ah M) (j := j) hx hb hK hP 11 0 rfl rfl (by omega) (by omega) dX0_heldBehind_10 ?_
    subst hQ
    refine vx_ret ?_
    refine W.widen (k := 1) (n := 6) (by decide) (by decide) ?_
    exact W.iret (v := (m_ah M) j) hx hb hr (fun t ht hW => ⟨⟨(m_ah M) j, M, rfl, (by simp [o_row, hix, pk_us]), by rw [ht]; exact hP, hD⟩, hS.F ht⟩) hS.2.2 dX0_heldBehind_11
