/-! THE REFERENCE: payments, rows, sheets -/
set_option maxHeartbeats 4000000 in
set_option maxRecDepth 100000 in
theorem c1_pay (l : Launch) (D : va_G) (h : Nat → Nat) (cA : ClassId) (rf : Int32) (M : MM) (hM : OK1 M) (x : Int32) (sz : Nat) : Met l yX1_pay wsX1_pay ({ frames := 2, cells := 0, slots := 0, locals := 43 } : Room) (va_Pc [.ref (h 0), .int x] (pW D [(cA, .int)] (w1 h cA rf M) sz)) (va_Qi (fun (r : Int32) (u : Int32 × MM) => y_post (y_pay M x) r u) (fun u => qW D (va_A (w1 h cA rf M) sz) (w1 h cA u.1 u.2)) (va_A (w1 h cA rf M) sz)) 0 0 (va_A (w1 h cA rf M) sz) := by
  refine Met.ofW (cc := cX1_pay) (maxL := 2) (ret := (some .int)) (by decide) rfl ?_
  intro p e s m args below meth c s₁ B hml hv
  obtain ⟨rfl, hsz, hP, hK, hD0⟩ := hv
  have hx := B.exec
  have hb := B.bytes
  have hr := B.returns
  have hts := atoms_spec (ws := wsX1_pay) B.pre
  have hown : s.vm.findClass RX1 = some m.cls := findClass_of_methodNamed B.named
  have hlocks := B.notSynchronized
  have kw0 := hts (.fieldLink RX1 28 "ProgressBillingModel" "states" "[I") (by decide +kernel)
  have kw1 := hts (.fieldLink RX1 31 "ProgressBillingModel" "amounts" "[I") (by decide +kernel)
  have hin0 : ∀ w ∈ u_ws RX1 TX1 14, w ∈ wsX1_pay := by decide +kernel
  subst hsz
  have hD := hD0.self (sz := s.heap.size)
  generalize hAe : va_A (w1 h cA rf M) s.heap.size = A at hD ⊢
  have hA : ∀ q : Nat, s.heap.size ≤ q → A q := fun q h => by rw [← hAe]; exact Or.inr h
  have hS : va_S A s.heap s.heap [] := va_S.rf
  have hP : va_P D vwCl (w1 h cA rf M) s.heap := hP
  obtain ⟨hn1, hn4⟩ := id hM
  have hl := lv_entry ([.ref (h 0), .int x]) (n := 2) (Nat.le_of_ble_eq_true rfl)
  rw [lg_entry_eq]
  generalize (lg_sl ([.ref (h 0), .int x]) ++ List.replicate (2 - (lg_sl ([.ref (h 0), .int x])).length) Slot.unset).toArray = ls at hl ⊢
  have hl : lv_has ls 2 [(0, .ref (h 0)), (1, .int x)] := hl
  refine w_abs (fun Q hQ => ?_)
  refine lv_aload_n hx hb dX1_pay_0 rfl (lv_at hl 0 rfl) ?_
  refine lv_aload_n hx hb dX1_pay_1 rfl (lv_at hl 0 rfl) ?_
  refine lv_iload_n hx hb dX1_pay_2 rfl (lv_at hl 1 rfl) ?_
  refine vp_callSi (W.runV (As := [.int x]) (rest := [.ref (h 0)]) ⟨hx, hb, hml, hown, hts⟩ (c1_isApplication l D h cA rf M hM x) (cwV 1 hts gX1_pay_X1_isApplication rfl rfl rfl (by decide +kernel) ⟨Nat.le_of_ble_eq_true rfl, Nat.le_of_ble_eq_true rfl⟩) ⟨pR_fb, va_recv hK hP (ci := 1) (q0 := 0) rfl rfl, pR_mk hP hK⟩ rfl rfl hl.1 rfl (lv_room (Nat.le_of_ble_eq_true rfl)) dX1_pay_3 ⟨Nat.le_of_ble_eq_true rfl, Nat.le_of_ble_eq_true rfl⟩) (fun r1 qr1 => ?_)
  rcases ixL_c (n := m_an M) (x := x) (by omega) with hix | ⟨j, hj, ex, hix⟩
  · have qr1 : r1 = 0 := by rw [qr1, hix]; rfl
    subst qr1
    refine lv_if_ne (tgt := 13) hx hb dX1_pay_6 (by decide) (fun c2 => ?_) (fun c2 => ?_)
    · exact absurd c2 (by decide)
    · refine lv_iconst (v := 1) hx hb dX1_pay_9 (by decide) ?_
      refine lv_goto (tgt := 35) hx hb dX1_pay_10 (by decide) ?_
      refine g_calliS (wf := fun u : Int32 => w1 h cA u M) (va_runV (As := [.int 1]) (rest := []) ⟨hx, hb, hml, hown, hts⟩ (c1_refused l D h cA rf M 1 s.heap.size) (cwV 1 hts gX1_pay_X1_refused rfl rfl rfl (by decide +kernel) ⟨Nat.le_of_ble_eq_true rfl, Nat.le_of_ble_eq_true rfl⟩) ⟨pW_fb, va_recv hK hP (ci := 1) (q0 := 0) rfl rfl, pW_mk hP hK hD⟩ rfl rfl hl.1 rfl (lv_room (Nat.le_of_ble_eq_true rfl)) dX1_pay_35 ⟨Nat.le_of_ble_eq_true rfl, Nat.le_of_ble_eq_true rfl⟩) hP hD hS hA (fun r3 ur3 H locs qr3 hP hD hS => ?_)
      obtain ⟨qr3, eur3⟩ := qr3
      have qr3 : r3 = 1 := qr3
      subst qr3
      have eur3 : ur3 = 1 := eur3
      subst eur3
      refine lv_if_eq (tgt := 43) hx hb dX1_pay_38 (by decide) (fun c4 => ?_) (fun c4 => ?_)
      · exact absurd c4 (by decide)
      · refine lv_iconst (v := 0) hx hb dX1_pay_41 (by decide) ?_
        subst hQ
        exact W.iret (v := 0) hx hb hr (fun t ht hW => ⟨⟨0, (1, M), rfl, (y_pk 1 (by simp [y_pay, hix, pk_us]) rfl), by rw [ht]; exact hP, hD⟩, hS.F ht⟩) hS.2.2 dX1_pay_42
  · have qr1 : r1 = 1 := by rw [qr1, hix]; rfl
    subst qr1
    subst ex
    refine lv_if_ne (tgt := 13) hx hb dX1_pay_6 (by decide) (fun c5 => ?_) (fun c5 => ?_)
    · refine lv_aload_n hx hb dX1_pay_13 rfl (lv_at hl 0 rfl) ?_
      refine va_get (D := D) (ci := 1) (v := .ref (h 7)) (C := RX1) (T := TX1) (N := 14) hx hb hts hin0 hown hK hP 0 rfl rfl 10 (by decide) kw0 (fun _ h9 => h9) rfl dX1_pay_14 ?_
      refine lv_iload_n hx hb dX1_pay_17 rfl (lv_at hl 1 rfl) ?_
      refine r_ald (f := m_as M) (j := j) hx hb hK hP 7 0 rfl rfl (by omega) (by omega) dX1_pay_18 ?_
      refine lv_if_ne (tgt := 30) hx hb dX1_pay_19 (by decide) (fun c6 => ?_) (fun c6 => ?_)
      · refine lv_iconst (v := 2) hx hb dX1_pay_30 (by decide) ?_
        refine lv_goto (tgt := 35) hx hb dX1_pay_31 (by decide) ?_
        refine g_calliS (wf := fun u : Int32 => w1 h cA u M) (va_runV (As := [.int 2]) (rest := []) ⟨hx, hb, hml, hown, hts⟩ (c1_refused l D h cA rf M 2 s.heap.size) (cwV 1 hts gX1_pay_X1_refused rfl rfl rfl (by decide +kernel) ⟨Nat.le_of_ble_eq_true rfl, Nat.le_of_ble_eq_true rfl⟩) ⟨pW_fb, va_recv hK hP (ci := 1) (q0 := 0) rfl rfl, pW_mk hP hK hD⟩ rfl rfl hl.1 rfl (lv_room (Nat.le_of_ble_eq_true rfl)) dX1_pay_35 ⟨Nat.le_of_ble_eq_true rfl, Nat.le_of_ble_eq_true rfl⟩) hP hD hS hA (fun r7 ur7 H locs qr7 hP hD hS => ?_)
        obtain ⟨qr7, eur7⟩ := qr7
        have qr7 : r7 = 1 := qr7
        subst qr7
        have eur7 : ur7 = 2 := eur7
        subst eur7
        refine lv_if_eq (tgt := 43) hx hb dX1_pay_38 (by decide) (fun c8 => ?_) (fun c8 => ?_)
        · exact absurd c8 (by decide)
        · refine lv_iconst (v := 0) hx hb dX1_pay_41 (by decide) ?_
          subst hQ
          exact W.iret (v := 0) hx hb hr (fun t ht hW => ⟨⟨0, (2, M), rfl, (y_pk 2 (by first | (simp [y_pay, hix, c6, pk_us]; done) | (simp only [y_pay, hix]; simp [c6, pk_us]; done)) rfl), by rw [ht]; exact hP, hD⟩, hS.F ht⟩) hS.2.2 dX1_pay_42
      · refine lv_aload_n hx hb dX1_pay_22 rfl (lv_at hl 0 rfl) ?_
        refine vp_callSi (W.runV (As := []) (rest := [.ref (h 0)]) ⟨hx, hb, hml, hown, hts⟩ (c1_waived l D h cA rf M hM) (cwV 0 hts gX1_pay_X1_waived rfl rfl rfl (by decide +kernel) ⟨Nat.le_of_ble_eq_true rfl, Nat.le_of_ble_eq_true rfl⟩) ⟨pR_fb, va_recv hK hP (ci := 1) (q0 := 0) rfl rfl, pR_mk hP hK⟩ rfl rfl hl.1 rfl (lv_room (Nat.le_of_ble_eq_true rfl)) dX1_pay_23 ⟨Nat.le_of_ble_eq_true rfl, Nat.le_of_ble_eq_true rfl⟩) (fun r9 qr9 => ?_)
        have qr9 : r9 = nI (y_pf (m_as M) (m_an M) 0) := qr9
        subst qr9
        have hpf : y_pf (m_as M) (m_an M) 0 ≤ 0 + m_an M := y_pf_le _ _ _
        refine lv_iload_n hx hb dX1_pay_26 rfl (lv_at hl 1 rfl) ?_
        refine lv_icmp_ge (tgt := 34) hx hb dX1_pay_27 (by decide) (fun c10 => ?_) (fun c10 => ?_)
        · have c10 := k_le (a := j) (b := (y_pf (m_as M) (m_an M) 0)) (by omega) (by omega) c10
          refine lv_iconst (v := 0) hx hb dX1_pay_34 (by decide) ?_
          refine g_calliS (wf := fun u : Int32 => w1 h cA u M) (va_runV (As := [.int 0]) (rest := []) ⟨hx, hb, hml, hown, hts⟩ (c1_refused l D h cA rf M 0 s.heap.size) (cwV 1 hts gX1_pay_X1_refused rfl rfl rfl (by decide +kernel) ⟨Nat.le_of_ble_eq_true rfl, Nat.le_of_ble_eq_true rfl⟩) ⟨pW_fb, va_recv hK hP (ci := 1) (q0 := 0) rfl rfl, pW_mk hP hK hD⟩ rfl rfl hl.1 rfl (lv_room (Nat.le_of_ble_eq_true rfl)) dX1_pay_35 ⟨Nat.le_of_ble_eq_true rfl, Nat.le_of_ble_eq_true rfl⟩) hP hD hS hA (fun r11 ur11 H locs qr11 hP hD hS => ?_)
          obtain ⟨qr11, eur11⟩ := qr11
          have qr11 : r11 = 0 := qr11
          subst qr11
          have eur11 : ur11 = 0 := eur11
          subst eur11
          refine lv_if_eq (tgt := 43) hx hb dX1_pay_38 (by decide) (fun c12 => ?_) (fun c12 => ?_)
          · refine lv_aload_n hx hb dX1_pay_43 rfl (lv_at hl 0 rfl) ?_
            refine va_get (D := D) (ci := 1) (v := .ref (h 7)) (C := RX1) (T := TX1) (N := 14) hx hb hts hin0 hown hK hP 0 rfl rfl 10 (by decide) kw0 (fun _ h9 => h9) rfl dX1_pay_44 ?_
            refine lv_iload_n hx hb dX1_pay_47 rfl (lv_at hl 1 rfl) ?_
            refine lv_iconst (v := 1) hx hb dX1_pay_48 (by decide) ?_
            refine r_ast (f := m_as M) (j := j) (v := 1) hx hb hK hP hD hS 7 0 rfl rfl (by omega) (by omega) dX1_pay_49 (fun H locs hP hD hS => ?_)
            obtain ⟨N13, eN13⟩ : ∃ N9 : MM, N9 = s_as M (upd (m_as M) j 1) := ⟨_, rfl⟩
            rw [q1_as, ← eN13] at hP hD
            have aN13_as : m_as N13 = upd (m_as M) j 1 := by rw [eN13]; rfl
            have aN13_aa : m_aa N13 = m_aa M := by rw [eN13]; rfl
            refine lv_aload_n hx hb dX1_pay_50 rfl (lv_at hl 0 rfl) ?_
            refine va_get (D := D) (ci := 1) (v := .ref (h 8)) (C := RX1) (T := TX1) (N := 14) hx hb hts hin0 hown hK hP 0 rfl rfl 11 (by decide) kw1 (fun _ h9 => h9) rfl dX1_pay_51 ?_
            refine lv_iload_n hx hb dX1_pay_54 rfl (lv_at hl 1 rfl) ?_
            refine r_ald (f := m_aa N13) (j := j) hx hb hK hP 8 0 rfl rfl (by omega) (by omega) dX1_pay_55 ?_
            refine lv_topi (fun y14 ey14 => ?_)
            rw [aN13_aa] at ey14
            subst ey14
            subst hQ
            exact W.iret (v := (m_aa M) j) hx hb hr (fun t ht hW => ⟨⟨(m_aa M) j, (0, N13), rfl, (by subst eN13; exact (y_pk 0 (by first | (simp [y_pay, hix, c6, c10, pk_us]; done) | (simp only [y_pay, hix, c6]; simp [c10, pk_us]; done)) rfl)), by rw [ht]; exact hP, hD⟩, hS.F ht⟩) hS.2.2 dX1_pay_56
          · exact absurd c12 (by decide)
        · have c10 := k_nle (a := j) (b := (y_pf (m_as M) (m_an M) 0)) (by omega) (by omega) c10
          refine lv_iconst (v := 2) hx hb dX1_pay_30 (by decide) ?_
          refine lv_goto (tgt := 35) hx hb dX1_pay_31 (by decide) ?_
          refine g_calliS (wf := fun u : Int32 => w1 h cA u M) (va_runV (As := [.int 2]) (rest := []) ⟨hx, hb, hml, hown, hts⟩ (c1_refused l D h cA rf M 2 s.heap.size) (cwV 1 hts gX1_pay_X1_refused rfl rfl rfl (by decide +kernel) ⟨Nat.le_of_ble_eq_true rfl, Nat.le_of_ble_eq_true rfl⟩) ⟨pW_fb, va_recv hK hP (ci := 1) (q0 := 0) rfl rfl, pW_mk hP hK hD⟩ rfl rfl hl.1 rfl (lv_room (Nat.le_of_ble_eq_true rfl)) dX1_pay_35 ⟨Nat.le_of_ble_eq_true rfl, Nat.le_of_ble_eq_true rfl⟩) hP hD hS hA (fun r15 ur15 H locs qr15 hP hD hS => ?_)
          obtain ⟨qr15, eur15⟩ := qr15
          have qr15 : r15 = 1 := qr15
          subst qr15
          have eur15 : ur15 = 2 := eur15
          subst eur15
          refine lv_if_eq (tgt := 43) hx hb dX1_pay_38 (by decide) (fun c16 => ?_) (fun c16 => ?_)
          · exact absurd c16 (by decide)
          · refine lv_iconst (v := 0) hx hb dX1_pay_41 (by decide) ?_
            subst hQ
            exact W.iret (v := 0) hx hb hr (fun t ht hW => ⟨⟨0, (2, M), rfl, (y_pk 2 (by first | (simp [y_pay, hix, c6, c10, pk_us]; done) | (simp only [y_pay, hix, c6]; simp [c10, pk_us]; done)) rfl), by rw [ht]; exact hP, hD⟩, hS.F ht⟩) hS.2.2 dX1_pay_42
    · exact absurd c5 (by decide)
set_option maxHeartbeats 4000000 in
set_option maxRecDepth 100000 in
theorem c1_waive (l : Launch) (D : va_G) (h : Nat → Nat) (cA : ClassId) (rf : Int32) (M : MM) (hM : OK1 M) (x : Int32) (sz : Nat) : Met l yX1_waive wsX1_waive ({ frames := 2, cells := 0, slots := 0, locals := 43 } : Room) (va_Pc [.ref (h 0), .int x] (pW D [(cA, .int)] (w1 h cA rf M) sz)) (va_Qi (fun (r : Int32) (u : Int32 × MM) => y_post (y_waive M x) r u) (fun u => qW D (va_A (w1 h cA rf M) sz) (w1 h cA u.1 u.2)) (va_A (w1 h cA rf M) sz)) 0 0 (va_A (w1 h cA rf M) sz) := by
  refine Met.ofW (cc := cX1_waive) (maxL := 2) (ret := (some .int)) (by decide) rfl ?_
  intro p e s m args below meth c s₁ B hml hv
  obtain ⟨rfl, hsz, hP, hK, hD0⟩ := hv
  have hx := B.exec
  have hb := B.bytes
  have hr := B.returns
  have hts := atoms_spec (ws := wsX1_waive) B.pre
  have hown : s.vm.findClass RX1 = some m.cls := findClass_of_methodNamed B.named
  have hlocks := B.notSynchronized
  have kw0 := hts (.fieldLink RX1 28 "ProgressBillingModel" "states" "[I") (by decide +kernel)
  have hin0 : ∀ w ∈ u_ws RX1 TX1 14, w ∈ wsX1_waive := by decide +kernel
  subst hsz
  have hD := hD0.self (sz := s.heap.size)
  generalize hAe : va_A (w1 h cA rf M) s.heap.size = A at hD ⊢
  have hA : ∀ q : Nat, s.heap.size ≤ q → A q := fun q h => by rw [← hAe]; exact Or.inr h
  have hS : va_S A s.heap s.heap [] := va_S.rf
  have hP : va_P D vwCl (w1 h cA rf M) s.heap := hP
  obtain ⟨hn1, hn4⟩ := id hM
  have hl := lv_entry ([.ref (h 0), .int x]) (n := 2) (Nat.le_of_ble_eq_true rfl)
  rw [lg_entry_eq]
  generalize (lg_sl ([.ref (h 0), .int x]) ++ List.replicate (2 - (lg_sl ([.ref (h 0), .int x])).length) Slot.unset).toArray = ls at hl ⊢
  have hl : lv_has ls 2 [(0, .ref (h 0)), (1, .int x)] := hl
  refine w_abs (fun Q hQ => ?_)
  refine lv_aload_n hx hb dX1_waive_0 rfl (lv_at hl 0 rfl) ?_
  refine lv_aload_n hx hb dX1_waive_1 rfl (lv_at hl 0 rfl) ?_
  refine lv_iload_n hx hb dX1_waive_2 rfl (lv_at hl 1 rfl) ?_
  refine vp_callSi (W.runV (As := [.int x]) (rest := [.ref (h 0)]) ⟨hx, hb, hml, hown, hts⟩ (c1_isApplication l D h cA rf M hM x) (cwV 1 hts gX1_waive_X1_isApplication rfl rfl rfl (by decide +kernel) ⟨Nat.le_of_ble_eq_true rfl, Nat.le_of_ble_eq_true rfl⟩) ⟨pR_fb, va_recv hK hP (ci := 1) (q0 := 0) rfl rfl, pR_mk hP hK⟩ rfl rfl hl.1 rfl (lv_room (Nat.le_of_ble_eq_true rfl)) dX1_waive_3 ⟨Nat.le_of_ble_eq_true rfl, Nat.le_of_ble_eq_true rfl⟩) (fun r1 qr1 => ?_)
  rcases ixL_c (n := m_an M) (x := x) (by omega) with hix | ⟨j, hj, ex, hix⟩
  · have qr1 : r1 = 0 := by rw [qr1, hix]; rfl
    subst qr1
    refine lv_if_ne (tgt := 13) hx hb dX1_waive_6 (by decide) (fun c2 => ?_) (fun c2 => ?_)
    · exact absurd c2 (by decide)
    · refine lv_iconst (v := 1) hx hb dX1_waive_9 (by decide) ?_
      refine lv_goto (tgt := 28) hx hb dX1_waive_10 (by decide) ?_
      refine g_calliS (wf := fun u : Int32 => w1 h cA u M) (va_runV (As := [.int 1]) (rest := []) ⟨hx, hb, hml, hown, hts⟩ (c1_refused l D h cA rf M 1 s.heap.size) (cwV 1 hts gX1_waive_X1_refused rfl rfl rfl (by decide +kernel) ⟨Nat.le_of_ble_eq_true rfl, Nat.le_of_ble_eq_true rfl⟩) ⟨pW_fb, va_recv hK hP (ci := 1) (q0 := 0) rfl rfl, pW_mk hP hK hD⟩ rfl rfl hl.1 rfl (lv_room (Nat.le_of_ble_eq_true rfl)) dX1_waive_28 ⟨Nat.le_of_ble_eq_true rfl, Nat.le_of_ble_eq_true rfl⟩) hP hD hS hA (fun r3 ur3 H locs qr3 hP hD hS => ?_)
      obtain ⟨qr3, eur3⟩ := qr3
      have qr3 : r3 = 1 := qr3
      subst qr3
      have eur3 : ur3 = 1 := eur3
      subst eur3
      refine lv_if_eq (tgt := 36) hx hb dX1_waive_31 (by decide) (fun c4 => ?_) (fun c4 => ?_)
      · exact absurd c4 (by decide)
      · refine lv_iconst (v := 0) hx hb dX1_waive_34 (by decide) ?_
        subst hQ
        exact W.iret (v := 0) hx hb hr (fun t ht hW => ⟨⟨0, (1, M), rfl, (y_pk 1 (by simp [y_waive, hix, pk_us]) rfl), by rw [ht]; exact hP, hD⟩, hS.F ht⟩) hS.2.2 dX1_waive_35
  · have qr1 : r1 = 1 := by rw [qr1, hix]; rfl
    subst qr1
    subst ex
    refine lv_if_ne (tgt := 13) hx hb dX1_waive_6 (by decide) (fun c5 => ?_) (fun c5 => ?_)
    · refine lv_aload_n hx hb dX1_waive_13 rfl (lv_at hl 0 rfl) ?_
      refine va_get (D := D) (ci := 1) (v := .ref (h 7)) (C := RX1) (T := TX1) (N := 14) hx hb hts hin0 hown hK hP 0 rfl rfl 10 (by decide) kw0 (fun _ h9 => h9) rfl dX1_waive_14 ?_
      refine lv_iload_n hx hb dX1_waive_17 rfl (lv_at hl 1 rfl) ?_
      refine r_ald (f := m_as M) (j := j) hx hb hK hP 7 0 rfl rfl (by omega) (by omega) dX1_waive_18 ?_
      refine lv_iconst (v := 1) hx hb dX1_waive_19 (by decide) ?_
      refine lv_icmp_ne (tgt := 27) hx hb dX1_waive_20 (by decide) (fun c6 => ?_) (fun c6 => ?_)
      · refine lv_iconst (v := 2) hx hb dX1_waive_27 (by decide) ?_
        refine g_calliS (wf := fun u : Int32 => w1 h cA u M) (va_runV (As := [.int 2]) (rest := []) ⟨hx, hb, hml, hown, hts⟩ (c1_refused l D h cA rf M 2 s.heap.size) (cwV 1 hts gX1_waive_X1_refused rfl rfl rfl (by decide +kernel) ⟨Nat.le_of_ble_eq_true rfl, Nat.le_of_ble_eq_true rfl⟩) ⟨pW_fb, va_recv hK hP (ci := 1) (q0 := 0) rfl rfl, pW_mk hP hK hD⟩ rfl rfl hl.1 rfl (lv_room (Nat.le_of_ble_eq_true rfl)) dX1_waive_28 ⟨Nat.le_of_ble_eq_true rfl, Nat.le_of_ble_eq_true rfl⟩) hP hD hS hA (fun r7 ur7 H locs qr7 hP hD hS => ?_)
        obtain ⟨qr7, eur7⟩ := qr7
        have qr7 : r7 = 1 := qr7
        subst qr7
        have eur7 : ur7 = 2 := eur7
        subst eur7
        refine lv_if_eq (tgt := 36) hx hb dX1_waive_31 (by decide) (fun c8 => ?_) (fun c8 => ?_)
        · exact absurd c8 (by decide)
        · refine lv_iconst (v := 0) hx hb dX1_waive_34 (by decide) ?_
          subst hQ
          exact W.iret (v := 0) hx hb hr (fun t ht hW => ⟨⟨0, (2, M), rfl, (y_pk 2 (by first | (simp [y_waive, hix, c6, pk_us]; done) | (simp only [y_waive, hix]; simp [c6, pk_us]; done)) rfl), by rw [ht]; exact hP, hD⟩, hS.F ht⟩) hS.2.2 dX1_waive_35
      · refine lv_iconst (v := 0) hx hb dX1_waive_23 (by decide) ?_
        refine lv_goto (tgt := 28) hx hb dX1_waive_24 (by decide) ?_
        refine g_calliS (wf := fun u : Int32 => w1 h cA u M) (va_runV (As := [.int 0]) (rest := []) ⟨hx, hb, hml, hown, hts⟩ (c1_refused l D h cA rf M 0 s.heap.size) (cwV 1 hts gX1_waive_X1_refused rfl rfl rfl (by decide +kernel) ⟨Nat.le_of_ble_eq_true rfl, Nat.le_of_ble_eq_true rfl⟩) ⟨pW_fb, va_recv hK hP (ci := 1) (q0 := 0) rfl rfl, pW_mk hP hK hD⟩ rfl rfl hl.1 rfl (lv_room (Nat.le_of_ble_eq_true rfl)) dX1_waive_28 ⟨Nat.le_of_ble_eq_true rfl, Nat.le_of_ble_eq_true rfl⟩) hP hD hS hA (fun r9 ur9 H locs qr9 hP hD hS => ?_)
        obtain ⟨qr9, eur9⟩ := qr9
        have qr9 : r9 = 0 := qr9
        subst qr9
        have eur9 : ur9 = 0 := eur9
        subst eur9
        refine lv_if_eq (tgt := 36) hx hb dX1_waive_31 (by decide) (fun c10 => ?_) (fun c10 => ?_)
        · refine lv_aload_n hx hb dX1_waive_36 rfl (lv_at hl 0 rfl) ?_
          refine va_get (D := D) (ci := 1) (v := .ref (h 7)) (C := RX1) (T := TX1) (N := 14) hx hb hts hin0 hown hK hP 0 rfl rfl 10 (by decide) kw0 (fun _ h9 => h9) rfl dX1_waive_37 ?_
          refine lv_iload_n hx hb dX1_waive_40 rfl (lv_at hl 1 rfl) ?_
          refine lv_iconst (v := 2) hx hb dX1_waive_41 (by decide) ?_
          refine r_ast (f := m_as M) (j := j) (v := 2) hx hb hK hP hD hS 7 0 rfl rfl (by omega) (by omega) dX1_waive_42 (fun H locs hP hD hS => ?_)
          obtain ⟨N11, eN11⟩ : ∃ N9 : MM, N9 = s_as M (upd (m_as M) j 2) := ⟨_, rfl⟩
          rw [q1_as, ← eN11] at hP hD
          have aN11_as : m_as N11 = upd (m_as M) j 2 := by rw [eN11]; rfl
          have aN11_an : m_an N11 = m_an M := by rw [eN11]; rfl
          refine lv_aload_n hx hb dX1_waive_43 rfl (lv_at hl 0 rfl) ?_
          refine vp_callSi (W.runV (As := []) (rest := []) ⟨hx, hb, hml, hown, hts⟩ (c1_waived l D h cA 0 N11 (by subst eN11; exact hM)) (cwV 0 hts gX1_waive_X1_waived rfl rfl rfl (by decide +kernel) ⟨Nat.le_of_ble_eq_true rfl, Nat.le_of_ble_eq_true rfl⟩) ⟨pR_fb, va_recv hK hP (ci := 1) (q0 := 0) rfl rfl, pR_mk hP hK⟩ rfl rfl hl.1 rfl (lv_room (Nat.le_of_ble_eq_true rfl)) dX1_waive_44 ⟨Nat.le_of_ble_eq_true rfl, Nat.le_of_ble_eq_true rfl⟩) (fun r12 qr12 => ?_)
          have qr12 : r12 = nI (y_pf (m_as N11) (m_an N11) 0) := qr12
          rw [aN11_as] at qr12
          rw [aN11_an] at qr12
          subst qr12
          have hpf : y_pf (upd (m_as M) j 2) (m_an M) 0 ≤ 0 + m_an M := y_pf_le _ _ _
          subst hQ
          exact W.iret (v := nI (y_pf (upd (m_as M) j 2) (m_an M) 0)) hx hb hr (fun t ht hW => ⟨⟨nI (y_pf (upd (m_as M) j 2) (m_an M) 0), (0, N11), rfl, (by subst eN11; exact (y_pk 0 (by first | (simp [y_waive, hix, c6, pk_us]; done) | (simp only [y_waive, hix]; simp [c6, pk_us]; done)) rfl)), by rw [ht]; exact hP, hD⟩, hS.F ht⟩) hS.2.2 dX1_waive_47
        · exact absurd c10 (by decide)
    · exact absurd c5 (by decide)
set_option maxHeartbeats 4000000 in
set_option maxRecDepth 100000 in
theorem c1_state (l : Launch) (D : va_G) (h : Nat → Nat) (cA : ClassId) (rf : Int32) (M : MM) (hM : OK1 M) (x : Int32) (sz : Nat) : Met l yX1_state wsX1_state ({ frames := 3, cells := 0, slots := 0, locals := 65 } : Room) (va_Pc [.ref (h 0), .int x] (pW D [(cA, .int)] (w1 h cA rf M) sz)) (va_Qi (fun (r : Int32) (u : Int32 × MM) => y_post (o_row M (m_an M) (m_as M) x) r u) (fun u => qW D (va_A (w1 h cA rf M) sz) (w1 h cA u.1 u.2)) (va_A (w1 h cA rf M) sz)) 0 0 (va_A (w1 h cA rf M) sz) := by
  refine Met.ofW (cc := cX1_state) (maxL := 2) (ret := (some .int)) (by decide) rfl ?_
  intro p e s m args below meth c s₁ B hml hv
  obtain ⟨rfl, hsz, hP, hK, hD0⟩ := hv
  have hx := B.exec
  have hb := B.bytes
  have hr := B.returns
  have hts := atoms_spec (ws := wsX1_state) B.pre
  have hown : s.vm.findClass RX1 = some m.cls := findClass_of_methodNamed B.named
  have hlocks := B.notSynchronized
  have kw0 := hts (.fieldLink RX1 28 "ProgressBillingModel" "states" "[I") (by decide +kernel)
  have hin0 : ∀ w ∈ u_ws RX1 TX1 14, w ∈ wsX1_state := by decide +kernel
  subst hsz
  have hD := hD0.self (sz := s.heap.size)
  generalize hAe : va_A (w1 h cA rf M) s.heap.size = A at hD ⊢
  have hA : ∀ q : Nat, s.heap.size ≤ q → A q := fun q h => by rw [← hAe]; exact Or.inr h
  have hS : va_S A s.heap s.heap [] := va_S.rf
  have hP : va_P D vwCl (w1 h cA rf M) s.heap := hP
  obtain ⟨hn1, hn4⟩ := id hM
  have hl := lv_entry ([.ref (h 0), .int x]) (n := 2) (Nat.le_of_ble_eq_true rfl)
  rw [lg_entry_eq]
  generalize (lg_sl ([.ref (h 0), .int x]) ++ List.replicate (2 - (lg_sl ([.ref (h 0), .int x])).length) Slot.unset).toArray = ls at hl ⊢
  have hl : lv_has ls 2 [(0, .ref (h 0)), (1, .int x)] := hl
  refine w_abs (fun Q hQ => ?_)
  refine lv_aload_n hx hb dX1_state_0 rfl (lv_at hl 0 rfl) ?_
  refine lv_iload_n hx hb dX1_state_1 rfl (lv_at hl 1 rfl) ?_
  refine lv_aload_n hx hb dX1_state_2 rfl (lv_at hl 0 rfl) ?_
  refine va_get (D := D) (ci := 1) (v := .ref (h 7)) (C := RX1) (T := TX1) (N := 14) hx hb hts hin0 hown hK hP 0 rfl rfl 10 (by decide) kw0 (fun _ h9 => h9) rfl dX1_state_3 ?_
  refine g_calliS (wf := fun u : Int32 => w1 h cA u M) (va_runV (As := [.int x, .ref (h 7)]) (rest := []) ⟨hx, hb, hml, hown, hts⟩ (c1_told l D h cA rf M hM x 7 (m_as M) (fun _ => rfl) s.heap.size) (cwV 2 hts gX1_state_X1_told rfl rfl rfl (by decide +kernel) ⟨Nat.le_of_ble_eq_true rfl, Nat.le_of_ble_eq_true rfl⟩) ⟨pW_fb, va_recv hK hP (ci := 1) (q0 := 0) rfl rfl, pW_mk hP hK hD⟩ rfl rfl hl.1 rfl (lv_room (Nat.le_of_ble_eq_true rfl)) dX1_state_6 ⟨Nat.le_of_ble_eq_true rfl, Nat.le_of_ble_eq_true rfl⟩) hP hD hS hA (fun r1 ur1 H locs qr1 hP hD hS => ?_)
  rcases qr1 with ⟨hix, qr1, eur1⟩ | ⟨j, hix, qr1, eur1⟩
  · have qr1 : r1 = 0 := qr1
    subst qr1
    have eur1 : ur1 = 1 := eur1
    subst eur1
    subst hQ
    exact W.iret (v := 0) hx hb hr (fun t ht hW => ⟨⟨0, (1, M), rfl, (y_pk 1 (by simp [o_row, hix, pk_us]) rfl), by rw [ht]; exact hP, hD⟩, hS.F ht⟩) hS.2.2 dX1_state_9
  · have qr1 : r1 = m_as M j := qr1
    subst qr1
    have eur1 : ur1 = 0 := eur1
    subst eur1
    subst hQ
    exact W.iret (v := m_as M j) hx hb hr (fun t ht hW => ⟨⟨m_as M j, (0, M), rfl, (y_pk 0 (by simp [o_row, hix, pk_us]) rfl), by rw [ht]; exact hP, hD⟩, hS.F ht⟩) hS.2.2 dX1_state_9
set_option maxHeartbeats 4000000 in
set_option maxRecDepth 100000 in
theorem c1_amount (l : Launch) (D : va_G) (h : Nat → Nat) (cA : ClassId) (rf : Int32) (M : MM) (hM : OK1 M) (x : Int32) (sz : Nat) : Met l yX1_amount wsX1_amount ({ frames := 3, cells := 0, slots := 0, locals := 65 } : Room) (va_Pc [.ref (h 0), .int x] (pW D [(cA, .int)] (w1 h cA rf M) sz)) (va_Qi (fun (r : Int32) (u : Int32 × MM) => y_post (o_row M (m_an M) (m_aa M) x) r u) (fun u => qW D (va_A (w1 h cA rf M) sz) (w1 h cA u.1 u.2)) (va_A (w1 h cA rf M) sz)) 0 0 (va_A (w1 h cA rf M) sz) := by
  refine Met.ofW (cc := cX1_amount) (maxL := 2) (ret := (some .int)) (by decide) rfl ?_
  intro p e s m args below meth c s₁ B hml hv
  obtain ⟨rfl, hsz, hP, hK, hD0⟩ := hv
  have hx := B.exec
  have hb := B.bytes
  have hr := B.returns
  have hts := atoms_spec (ws := wsX1_amount) B.pre
  have hown : s.vm.findClass RX1 = some m.cls := findClass_of_methodNamed B.named
  have hlocks := B.notSynchronized
  have kw0 := hts (.fieldLink RX1 31 "ProgressBillingModel" "amounts" "[I") (by decide +kernel)
  have hin0 : ∀ w ∈ u_ws RX1 TX1 14, w ∈ wsX1_amount := by decide +kernel
  subst hsz
  have hD := hD0.self (sz := s.heap.size)
  generalize hAe : va_A (w1 h cA rf M) s.heap.size = A at hD ⊢
  have hA : ∀ q : Nat, s.heap.size ≤ q → A q := fun q h => by rw [← hAe]; exact Or.inr h
  have hS : va_S A s.heap s.heap [] := va_S.rf
  have hP : va_P D vwCl (w1 h cA rf M) s.heap := hP
  obtain ⟨hn1, hn4⟩ := id hM
  have hl := lv_entry ([.ref (h 0), .int x]) (n := 2) (Nat.le_of_ble_eq_true rfl)
  rw [lg_entry_eq]
  generalize (lg_sl ([.ref (h 0), .int x]) ++ List.replicate (2 - (lg_sl ([.ref (h 0), .int x])).length) Slot.unset).toArray = ls at hl ⊢
  have hl : lv_has ls 2 [(0, .ref (h 0)), (1, .int x)] := hl
  refine w_abs (fun Q hQ => ?_)
  refine lv_aload_n hx hb dX1_amount_0 rfl (lv_at hl 0 rfl) ?_
  refine lv_iload_n hx hb dX1_amount_1 rfl (lv_at hl 1 rfl) ?_
  refine lv_aload_n hx hb dX1_amount_2 rfl (lv_at hl 0 rfl) ?_
  refine va_get (D := D) (ci := 1) (v := .ref (h 8)) (C := RX1) (T := TX1) (N := 14) hx hb hts hin0 hown hK hP 0 rfl rfl 11 (by decide) kw0 (fun _ h9 => h9) rfl dX1_amount_3 ?_
  refine g_calliS (wf := fun u : Int32 => w1 h cA u M) (va_runV (As := [.int x, .ref (h 8)]) (rest := []) ⟨hx, hb, hml, hown, hts⟩ (c1_told l D h cA rf M hM x 8 (m_aa M) (fun _ => rfl) s.heap.size) (cwV 2 hts gX1_amount_X1_told rfl rfl rfl (by decide +kernel) ⟨Nat.le_of_ble_eq_true rfl, Nat.le_of_ble_eq_true rfl⟩) ⟨pW_fb, va_recv hK hP (ci := 1) (q0 := 0) rfl rfl, pW_mk hP hK hD⟩ rfl rfl hl.1 rfl (lv_room (Nat.le_of_ble_eq_true rfl)) dX1_amount_6 ⟨Nat.le_of_ble_eq_true rfl, Nat.le_of_ble_eq_true rfl⟩) hP hD hS hA (fun r1 ur1 H locs qr1 hP hD hS => ?_)
  rcases qr1 with ⟨hix, qr1, eur1⟩ | ⟨j, hix, qr1, eur1⟩
  · have qr1 : r1 = 0 := qr1
    subst qr1
    have eur1 : ur1 = 1 := eur1
    subst eur1
    subst hQ
    exact W.iret (v := 0) hx hb hr (fun t ht hW => ⟨⟨0, (1, M), rfl, (y_pk 1 (by simp [o_row, hix, pk_us]) rfl), by rw [ht]; exact hP, hD⟩, hS.F ht⟩) hS.2.2 dX1_amount_9
  · have qr1 : r1 = m_aa M j := qr1
    subst qr1
    have eur1 : ur1 = 0 := eur1
    subst eur1
    subst hQ
    exact W.iret (v := m_aa M j) hx hb hr (fun t ht hW => ⟨⟨m_aa M j, (0, M), rfl, (y_pk 0 (by simp [o_row, hix, pk_us]) rfl), by rw [ht]; exact hP, hD⟩, hS.F ht⟩) hS.2.2 dX1_amount_9
set_option maxHeartbeats 4000000 in
set_option maxRecDepth 100000 in
theorem c1_billedBehind (l : Launch) (D : va_G) (h : Nat → Nat) (cA : ClassId) (rf : Int32) (M : MM) (hM : OK1 M) (x : Int32) (sz : Nat) : Met l yX1_billedBehind wsX1_billedBehind ({ frames := 3, cells := 0, slots := 0, locals := 65 } : Room) (va_Pc [.ref (h 0), .int x] (pW D [(cA, .int)] (w1 h cA rf M) sz)) (va_Qi (fun (r : Int32) (u : Int32 × MM) => y_post (o_row M (m_an M) (m_ab M) x) r u) (fun u => qW D (va_A (w1 h cA rf M) sz) (w1 h cA u.1 u.2)) (va_A (w1 h cA rf M) sz)) 0 0 (va_A (w1 h cA rf M) sz) := by
  refine Met.ofW (cc := cX1_billedBehind) (maxL := 2) (ret := (some .int)) (by decide) rfl ?_
  intro p e s m args below meth c s₁ B hml hv
  obtain ⟨rfl, hsz, hP, hK, hD0⟩ := hv
  have hx := B.exec
  have hb := B.bytes
  have hr := B.returns
  have hts := atoms_spec (ws := wsX1_billedBehind) B.pre
  have hown : s.vm.findClass RX1 = some m.cls := findClass_of_methodNamed B.named
  have hlocks := B.notSynchronized
  have kw0 := hts (.fieldLink RX1 34 "ProgressBillingModel" "billedThen" "[I") (by decide +kernel)
  have hin0 : ∀ w ∈ u_ws RX1 TX1 14, w ∈ wsX1_billedBehind := by decide +kernel
  subst hsz
  have hD := hD0.self (sz := s.heap.size)
  generalize hAe : va_A (w1 h cA rf M) s.heap.size = A at hD ⊢
  have hA : ∀ q : Nat, s.heap.size ≤ q → A q := fun q h => by rw [← hAe]; exact Or.inr h
  have hS : va_S A s.heap s.heap [] := va_S.rf
  have hP : va_P D vwCl (w1 h cA rf M) s.heap := hP
  obtain ⟨hn1, hn4⟩ := id hM
  have hl := lv_entry ([.ref (h 0), .int x]) (n := 2) (Nat.le_of_ble_eq_true rfl)
  rw [lg_entry_eq]
  generalize (lg_sl ([.ref (h 0), .int x]) ++ List.replicate (2 - (lg_sl ([.ref (h 0), .int x])).length) Slot.unset).toArray = ls at hl ⊢
  have hl : lv_has ls 2 [(0, .ref (h 0)), (1, .int x)] := hl
  refine w_abs (fun Q hQ => ?_)
  refine lv_aload_n hx hb dX1_billedBehind_0 rfl (lv_at hl 0 rfl) ?_
  refine lv_iload_n hx hb dX1_billedBehind_1 rfl (lv_at hl 1 rfl) ?_
  refine lv_aload_n hx hb dX1_billedBehind_2 rfl (lv_at hl 0 rfl) ?_
  refine va_get (D := D) (ci := 1) (v := .ref (h 9)) (C := RX1) (T := TX1) (N := 14) hx hb hts hin0 hown hK hP 0 rfl rfl 12 (by decide) kw0 (fun _ h9 => h9) rfl dX1_billedBehind_3 ?_
  refine g_calliS (wf := fun u : Int32 => w1 h cA u M) (va_runV (As := [.int x, .ref (h 9)]) (rest := []) ⟨hx, hb, hml, hown, hts⟩ (c1_told l D h cA rf M hM x 9 (m_ab M) (fun _ => rfl) s.heap.size) (cwV 2 hts gX1_billedBehind_X1_told rfl rfl rfl (by decide +kernel) ⟨Nat.le_of_ble_eq_true rfl, Nat.le_of_ble_eq_true rfl⟩) ⟨pW_fb, va_recv hK hP (ci := 1) (q0 := 0) rfl rfl, pW_mk hP hK hD⟩ rfl rfl hl.1 rfl (lv_room (Nat.le_of_ble_eq_true rfl)) dX1_billedBehind_6 ⟨Nat.le_of_ble_eq_true rfl, Nat.le_of_ble_eq_true rfl⟩) hP hD hS hA (fun r1 ur1 H locs qr1 hP hD hS => ?_)
  rcases qr1 with ⟨hix, qr1, eur1⟩ | ⟨j, hix, qr1, eur1⟩
  · have qr1 : r1 = 0 := qr1
    subst qr1
    have eur1 : ur1 = 1 := eur1
    subst eur1
    subst hQ
    exact W.iret (v := 0) hx hb hr (fun t ht hW => ⟨⟨0, (1, M), rfl, (y_pk 1 (by simp [o_row, hix, pk_us]) rfl), by rw [ht]; exact hP, hD⟩, hS.F ht⟩) hS.2.2 dX1_billedBehind_9
  · have qr1 : r1 = m_ab M j := qr1
    subst qr1
    have eur1 : ur1 = 0 := eur1
    subst eur1
    subst hQ
    exact W.iret (v := m_ab M j) hx hb hr (fun t ht hW => ⟨⟨m_ab M j, (0, M), rfl, (y_pk 0 (by simp [o_row, hix, pk_us]) rfl), by rw [ht]; exact hP, hD⟩, hS.F ht⟩) hS.2.2 dX1_billedBehind_9
set_option maxHeartbeats 4000000 in
set_option maxRecDepth 100000 in
theorem c1_heldBehind (l : Launch) (D : va_G) (h : Nat → Nat) (cA : ClassId) (rf : Int32) (M : MM) (hM : OK1 M) (x : Int32) (sz : Nat) : Met l yX1_heldBehind wsX1_heldBehind ({ frames := 3, cells := 0, slots := 0, locals := 65 } : Room) (va_Pc [.ref (h 0), .int x] (pW D [(cA, .int)] (w1 h cA rf M) sz)) (va_Qi (fun (r : Int32) (u : Int32 × MM) => y_post (o_row M (m_an M) (m_ah M) x) r u) (fun u => qW D (va_A (w1 h cA rf M) sz) (w1 h cA u.1 u.2)) (va_A (w1 h cA rf M) sz)) 0 0 (va_A (w1 h cA rf M) sz) := by
  refine Met.ofW (cc := cX1_heldBehind) (maxL := 2) (ret := (some .int)) (by decide) rfl ?_
  intro p e s m args below meth c s₁ B hml hv
  obtain ⟨rfl, hsz, hP, hK, hD0⟩ := hv
  have hx := B.exec
  have hb := B.bytes
  have hr := B.returns
  have hts := atoms_spec (ws := wsX1_heldBehind) B.pre
  have hown : s.vm.findClass RX1 = some m.cls := findClass_of_methodNamed B.named
  have hlocks := B.notSynchronized
  have kw0 := hts (.fieldLink RX1 37 "ProgressBillingModel" "heldThen" "[I") (by decide +kernel)
  have hin0 : ∀ w ∈ u_ws RX1 TX1 14, w ∈ wsX1_heldBehind := by decide +kernel
  subst hsz
  have hD := hD0.self (sz := s.heap.size)
  generalize hAe : va_A (w1 h cA rf M) s.heap.size = A at hD ⊢
  have hA : ∀ q : Nat, s.heap.size ≤ q → A q := fun q h => by rw [← hAe]; exact Or.inr h
  have hS : va_S A s.heap s.heap [] := va_S.rf
  have hP : va_P D vwCl (w1 h cA rf M) s.heap := hP
  obtain ⟨hn1, hn4⟩ := id hM
  have hl := lv_entry ([.ref (h 0), .int x]) (n := 2) (Nat.le_of_ble_eq_true rfl)
  rw [lg_entry_eq]
  generalize (lg_sl ([.ref (h 0), .int x]) ++ List.replicate (2 - (lg_sl ([.ref (h 0), .int x])).length) Slot.unset).toArray = ls at hl ⊢
  have hl : lv_has ls 2 [(0, .ref (h 0)), (1, .int x)] := hl
  refine w_abs (fun Q hQ => ?_)
  refine lv_aload_n hx hb dX1_heldBehind_0 rfl (lv_at hl 0 rfl) ?_
  refine lv_iload_n hx hb dX1_heldBehind_1 rfl (lv_at hl 1 rfl) ?_
  refine lv_aload_n hx hb dX1_heldBehind_2 rfl (lv_at hl 0 rfl) ?_
  refine va_get (D := D) (ci := 1) (v := .ref (h 10)) (C := RX1) (T := TX1) (N := 14) hx hb hts hin0 hown hK hP 0 rfl rfl 13 (by decide) kw0 (fun _ h9 => h9) rfl dX1_heldBehind_3 ?_
  refine g_calliS (wf := fun u : Int32 => w1 h cA u M) (va_runV (As := [.int x, .ref (h 10)]) (rest := []) ⟨hx, hb, hml, hown, hts⟩ (c1_told l D h cA rf M hM x 10 (m_ah M) (fun _ => rfl) s.heap.size) (cwV 2 hts gX1_heldBehind_X1_told rfl rfl rfl (by decide +kernel) ⟨Nat.le_of_ble_eq_true rfl, Nat.le_of_ble_eq_true rfl⟩) ⟨pW_fb, va_recv hK hP (ci := 1) (q0 := 0) rfl rfl, pW_mk hP hK hD⟩ rfl rfl hl.1 rfl (lv_room (Nat.le_of_ble_eq_true rfl)) dX1_heldBehind_6 ⟨Nat.le_of_ble_eq_true rfl, Nat.le_of_ble_eq_true rfl⟩) hP hD hS hA (fun r1 ur1 H locs qr1 hP hD hS => ?_)
  rcases qr1 with ⟨hix, qr1, eur1⟩ | ⟨j, hix, qr1, eur1⟩
  · have qr1 : r1 = 0 := qr1
    subst qr1
    have eur1 : ur1 = 1 := eur1
    subst eur1
    subst hQ
    exact W.iret (v := 0) hx hb hr (fun t ht hW => ⟨⟨0, (1, M), rfl, (y_pk 1 (by simp [o_row, hix, pk_us]) rfl), by rw [ht]; exact hP, hD⟩, hS.F ht⟩) hS.2.2 dX1_heldBehind_9
  · have qr1 : r1 = m_ah M j := qr1
    subst qr1
    have eur1 : ur1 = 0 := eur1
    subst eur1
    subst hQ
    exact W.iret (v := m_ah M j) hx hb hr (fun t ht hW => ⟨⟨m_ah M j, (0, M), rfl, (y_pk 0 (by simp [o_row, hix, pk_us]) rfl), by rw [ht]; exact hP, hD⟩, hS.F ht⟩) hS.2.2 dX1_heldBehind_9
set_option maxHeartbeats 4000000 in
set_option maxRecDepth 100000 in
theorem c1_value (l : Launch) (D : va_G) (h : Nat → Nat) (cA : ClassId) (rf : Int32) (M : MM) (hM : OK1 M) (x : Int32) (sz : Nat) : Met l yX1_value wsX1_value ({ frames := 3, cells := 0, slots := 0, locals := 64 } : Room) (va_Pc [.ref (h 0), .int x] (pW D [(cA, .int)] (w1 h cA rf M) sz)) (va_Qi (fun (r : Int32) (u : Int32 × MM) => y_post (o_row M (m_ln M) (m_lv M) x) r u) (fun u => qW D (va_A (w1 h cA rf M) sz) (w1 h cA u.1 u.2)) (va_A (w1 h cA rf M) sz)) 0 0 (va_A (w1 h cA rf M) sz) := by
  refine Met.ofW (cc := cX1_value) (maxL := 2) (ret := (some .int)) (by decide) rfl ?_
  intro p e s m args below meth c s₁ B hml hv
  obtain ⟨rfl, hsz, hP, hK, hD0⟩ := hv
  have hx := B.exec
  have hb := B.bytes
  have hr := B.returns
  have hts := atoms_spec (ws := wsX1_value) B.pre
  have hown : s.vm.findClass RX1 = some m.cls := findClass_of_methodNamed B.named
  have hlocks := B.notSynchronized
  have kw0 := hts (.fieldLink RX1 7 "ProgressBillingModel" "values" "[I") (by decide +kernel)
  have hin0 : ∀ w ∈ u_ws RX1 TX1 14, w ∈ wsX1_value := by decide +kernel
  subst hsz
  have hD := hD0.self (sz := s.heap.size)
  generalize hAe : va_A (w1 h cA rf M) s.heap.size = A at hD ⊢
  have hA : ∀ q : Nat, s.heap.size ≤ q → A q := fun q h => by rw [← hAe]; exact Or.inr h
  have hS : va_S A s.heap s.heap [] := va_S.rf
  have hP : va_P D vwCl (w1 h cA rf M) s.heap := hP
  obtain ⟨hn1, hn4⟩ := id hM
  have hl := lv_entry ([.ref (h 0), .int x]) (n := 2) (Nat.le_of_ble_eq_true rfl)
  rw [lg_entry_eq]
  generalize (lg_sl ([.ref (h 0), .int x]) ++ List.replicate (2 - (lg_sl ([.ref (h 0), .int x])).length) Slot.unset).toArray = ls at hl ⊢
  have hl : lv_has ls 2 [(0, .ref (h 0)), (1, .int x)] := hl
  refine w_abs (fun Q hQ => ?_)
  refine lv_aload_n hx hb dX1_value_0 rfl (lv_at hl 0 rfl) ?_
  refine lv_iload_n hx hb dX1_value_1 rfl (lv_at hl 1 rfl) ?_
  refine g_calliS (wf := fun u : Int32 => w1 h cA u M) (va_runV (As := [.int x]) (rest := []) ⟨hx, hb, hml, hown, hts⟩ (c1_noLine l D h cA rf M hM x s.heap.size) (cwV 1 hts gX1_value_X1_noLine rfl rfl rfl (by decide +kernel) ⟨Nat.le_of_ble_eq_true rfl, Nat.le_of_ble_eq_true rfl⟩) ⟨pW_fb, va_recv hK hP (ci := 1) (q0 := 0) rfl rfl, pW_mk hP hK hD⟩ rfl rfl hl.1 rfl (lv_room (Nat.le_of_ble_eq_true rfl)) dX1_value_2 ⟨Nat.le_of_ble_eq_true rfl, Nat.le_of_ble_eq_true rfl⟩) hP hD hS hA (fun r1 ur1 H locs qr1 hP hD hS => ?_)
  obtain ⟨qr1, eur1⟩ := qr1
  rcases ixL_c (n := m_ln M) (x := x) (by omega) with hix | ⟨j, hj, ex, hix⟩
  · have qr1 : r1 = 1 := by rw [qr1, hix]; rfl
    subst qr1
    have eur1 : ur1 = 1 := by rw [eur1, hix]; rfl
    subst eur1
    refine lv_if_eq (tgt := 12) hx hb dX1_value_5 (by decide) (fun c2 => ?_) (fun c2 => ?_)
    · exact absurd c2 (by decide)
    · refine lv_iconst (v := 0) hx hb dX1_value_8 (by decide) ?_
      refine lv_goto (tgt := 18) hx hb dX1_value_9 (by decide) ?_
      subst hQ
      exact W.iret (v := 0) hx hb hr (fun t ht hW => ⟨⟨0, (1, M), rfl, (y_pk 1 (by simp [o_row, hix, pk_us]) rfl), by rw [ht]; exact hP, hD⟩, hS.F ht⟩) hS.2.2 dX1_value_18
  · have qr1 : r1 = 0 := by rw [qr1, hix]; rfl
    subst qr1
    have eur1 : ur1 = 0 := by rw [eur1, hix]; rfl
    subst eur1
    subst ex
    refine lv_if_eq (tgt := 12) hx hb dX1_value_5 (by decide) (fun c3 => ?_) (fun c3 => ?_)
    · refine lv_aload_n hx hb dX1_value_12 rfl (lv_at hl 0 rfl) ?_
      refine va_get (D := D) (ci := 1) (v := .ref (h 1)) (C := RX1) (T := TX1) (N := 14) hx hb hts hin0 hown hK hP 0 rfl rfl 2 (by decide) kw0 (fun _ h9 => h9) rfl dX1_value_13 ?_
      refine lv_iload_n hx hb dX1_value_16 rfl (lv_at hl 1 rfl) ?_
      refine r_ald (f := m_lv M) (j := j) hx hb hK hP 1 0 rfl rfl (by omega) (by omega) dX1_value_17 ?_
      subst hQ
      exact W.iret (v := (m_lv M) j) hx hb hr (fun t ht hW => ⟨⟨(m_lv M) j, (0, M), rfl, (y_pk 0 (by simp [o_row, hix, pk_us]) rfl), by rw [ht]; exact hP, hD⟩, hS.F ht⟩) hS.2.2 dX1_value_18
    · exact absurd c3 (by decide)
set_option maxHeartbeats 4000000 in
set_option maxRecDepth 100000 in
theorem c1_work (l : Launch) (D : va_G) (h : Nat → Nat) (cA : ClassId) (rf : Int32) (M : MM) (hM : OK1 M) (x : Int32) (sz : Nat) : Met l yX1_work wsX1_work ({ frames := 3, cells := 0, slots := 0, locals := 64 } : Room) (va_Pc [.ref (h 0), .int x] (pW D [(cA, .int)] (w1 h cA rf M) sz)) (va_Qi (fun (r : Int32) (u : Int32 × MM) => y_post (o_row M (m_ln M) (m_lw M) x) r u) (fun u => qW D (va_A (w1 h cA rf M) sz) (w1 h cA u.1 u.2)) (va_A (w1 h cA rf M) sz)) 0 0 (va_A (w1 h cA rf M) sz) := by
  refine Met.ofW (cc := cX1_work) (maxL := 2) (ret := (some .int)) (by decide) rfl ?_
  intro p e s m args below meth c s₁ B hml hv
  obtain ⟨rfl, hsz, hP, hK, hD0⟩ := hv
  have hx := B.exec
  have hb := B.bytes
  have hr := B.returns
  have hts := atoms_spec (ws := wsX1_work) B.pre
  have hown : s.vm.findClass RX1 = some m.cls := findClass_of_methodNamed B.named
  have hlocks := B.notSynchronized
  have kw0 := hts (.fieldLink RX1 16 "ProgressBillingModel" "works" "[I") (by decide +kernel)
  have hin0 : ∀ w ∈ u_ws RX1 TX1 14, w ∈ wsX1_work := by decide +kernel
  subst hsz
  have hD := hD0.self (sz := s.heap.size)
  generalize hAe : va_A (w1 h cA rf M) s.heap.size = A at hD ⊢
  have hA : ∀ q : Nat, s.heap.size ≤ q → A q := fun q h => by rw [← hAe]; exact Or.inr h
  have hS : va_S A s.heap s.heap [] := va_S.rf
  have hP : va_P D vwCl (w1 h cA rf M) s.heap := hP
  obtain ⟨hn1, hn4⟩ := id hM
  have hl := lv_entry ([.ref (h 0), .int x]) (n := 2) (Nat.le_of_ble_eq_true rfl)
  rw [lg_entry_eq]
  generalize (lg_sl ([.ref (h 0), .int x]) ++ List.replicate (2 - (lg_sl ([.ref (h 0), .int x])).length) Slot.unset).toArray = ls at hl ⊢
  have hl : lv_has ls 2 [(0, .ref (h 0)), (1, .int x)] := hl
  refine w_abs (fun Q hQ => ?_)
  refine lv_aload_n hx hb dX1_work_0 rfl (lv_at hl 0 rfl) ?_
  refine lv_iload_n hx hb dX1_work_1 rfl (lv_at hl 1 rfl) ?_
  refine g_calliS (wf := fun u : Int32 => w1 h cA u M) (va_runV (As := [.int x]) (rest := []) ⟨hx, hb, hml, hown, hts⟩ (c1_noLine l D h cA rf M hM x s.heap.size) (cwV 1 hts gX1_work_X1_noLine rfl rfl rfl (by decide +kernel) ⟨Nat.le_of_ble_eq_true rfl, Nat.le_of_ble_eq_true rfl⟩) ⟨pW_fb, va_recv hK hP (ci := 1) (q0 := 0) rfl rfl, pW_mk hP hK hD⟩ rfl rfl hl.1 rfl (lv_room (Nat.le_of_ble_eq_true rfl)) dX1_work_2 ⟨Nat.le_of_ble_eq_true rfl, Nat.le_of_ble_eq_true rfl⟩) hP hD hS hA (fun r1 ur1 H locs qr1 hP hD hS => ?_)
  obtain ⟨qr1, eur1⟩ := qr1
  rcases ixL_c (n := m_ln M) (x := x) (by omega) with hix | ⟨j, hj, ex, hix⟩
  · have qr1 : r1 = 1 := by rw [qr1, hix]; rfl
    subst qr1
    have eur1 : ur1 = 1 := by rw [eur1, hix]; rfl
    subst eur1
    refine lv_if_eq (tgt := 12) hx hb dX1_work_5 (by decide) (fun c2 => ?_) (fun c2 => ?_)
    · exact absurd c2 (by decide)
    · refine lv_iconst (v := 0) hx hb dX1_work_8 (by decide) ?_
      refine lv_goto (tgt := 18) hx hb dX1_work_9 (by decide) ?_
      subst hQ
      exact W.iret (v := 0) hx hb hr (fun t ht hW => ⟨⟨0, (1, M), rfl, (y_pk 1 (by simp [o_row, hix, pk_us]) rfl), by rw [ht]; exact hP, hD⟩, hS.F ht⟩) hS.2.2 dX1_work_18
  · have qr1 : r1 = 0 := by rw [qr1, hix]; rfl
    subst qr1
    have eur1 : ur1 = 0 := by rw [eur1, hix]; rfl
    subst eur1
    subst ex
    refine lv_if_eq (tgt := 12) hx hb dX1_work_5 (by decide) (fun c3 => ?_) (fun c3 => ?_)
    · refine lv_aload_n hx hb dX1_work_12 rfl (lv_at hl 0 rfl) ?_
      refine va_get (D := D) (ci := 1) (v := .ref (h 3)) (C := RX1) (T := TX1) (N := 14) hx hb hts hin0 hown hK hP 0 rfl rfl 4 (by decide) kw0 (fun _ h9 => h9) rfl dX1_work_13 ?_
      refine lv_iload_n hx hb dX1_work_16 rfl (lv_at hl 1 rfl) ?_
      refine r_ald (f := m_lw M) (j := j) hx hb hK hP 3 0 rfl rfl (by omega) (by omega) dX1_work_17 ?_
      subst hQ
      exact W.iret (v := (m_lw M) j) hx hb hr (fun t ht hW => ⟨⟨(m_lw M) j, (0, M), rfl, (y_pk 0 (by simp [o_row, hix, pk_us]) rfl), by rw [ht]; exact hP, hD⟩, hS.F ht⟩) hS.2.2 dX1_work_18
    · exact absurd c3 (by decide)
set_option maxHeartbeats 4000000 in
set_option maxRecDepth 100000 in
theorem c1_billed (l : Launch) (D : va_G) (h : Nat → Nat) (cA : ClassId) (rf : Int32) (M : MM) (hM : OK1 M) (x : Int32) (sz : Nat) : Met l yX1_billed wsX1_billed ({ frames := 3, cells := 0, slots := 0, locals := 64 } : Room) (va_Pc [.ref (h 0), .int x] (pW D [(cA, .int)] (w1 h cA rf M) sz)) (va_Qi (fun (r : Int32) (u : Int32 × MM) => y_post (o_row M (m_ln M) (m_lb M) x) r u) (fun u => qW D (va_A (w1 h cA rf M) sz) (w1 h cA u.1 u.2)) (va_A (w1 h cA rf M) sz)) 0 0 (va_A (w1 h cA rf M) sz) := by
  refine Met.ofW (cc := cX1_billed) (maxL := 2) (ret := (some .int)) (by decide) rfl ?_
  intro p e s m args below meth c s₁ B hml hv
  obtain ⟨rfl, hsz, hP, hK, hD0⟩ := hv
  have hx := B.exec
  have hb := B.bytes
  have hr := B.returns
  have hts := atoms_spec (ws := wsX1_billed) B.pre
  have hown : s.vm.findClass RX1 = some m.cls := findClass_of_methodNamed B.named
  have hlocks := B.notSynchronized
  have kw0 := hts (.fieldLink RX1 19 "ProgressBillingModel" "billed" "[I") (by decide +kernel)
  have hin0 : ∀ w ∈ u_ws RX1 TX1 14, w ∈ wsX1_billed := by decide +kernel
  subst hsz
  have hD := hD0.self (sz := s.heap.size)
  generalize hAe : va_A (w1 h cA rf M) s.heap.size = A at hD ⊢
  have hA : ∀ q : Nat, s.heap.size ≤ q → A q := fun q h => by rw [← hAe]; exact Or.inr h
  have hS : va_S A s.heap s.heap [] := va_S.rf
  have hP : va_P D vwCl (w1 h cA rf M) s.heap := hP
  obtain ⟨hn1, hn4⟩ := id hM
  have hl := lv_entry ([.ref (h 0), .int x]) (n := 2) (Nat.le_of_ble_eq_true rfl)
  rw [lg_entry_eq]
  generalize (lg_sl ([.ref (h 0), .int x]) ++ List.replicate (2 - (lg_sl ([.ref (h 0), .int x])).length) Slot.unset).toArray = ls at hl ⊢
  have hl : lv_has ls 2 [(0, .ref (h 0)), (1, .int x)] := hl
  refine w_abs (fun Q hQ => ?_)
  refine lv_aload_n hx hb dX1_billed_0 rfl (lv_at hl 0 rfl) ?_
  refine lv_iload_n hx hb dX1_billed_1 rfl (lv_at hl 1 rfl) ?_
  refine g_calliS (wf := fun u : Int32 => w1 h cA u M) (va_runV (As := [.int x]) (rest := []) ⟨hx, hb, hml, hown, hts⟩ (c1_noLine l D h cA rf M hM x s.heap.size) (cwV 1 hts gX1_billed_X1_noLine rfl rfl rfl (by decide +kernel) ⟨Nat.le_of_ble_eq_true rfl, Nat.le_of_ble_eq_true rfl⟩) ⟨pW_fb, va_recv hK hP (ci := 1) (q0 := 0) rfl rfl, pW_mk hP hK hD⟩ rfl rfl hl.1 rfl (lv_room (Nat.le_of_ble_eq_true rfl)) dX1_billed_2 ⟨Nat.le_of_ble_eq_true rfl, Nat.le_of_ble_eq_true rfl⟩) hP hD hS hA (fun r1 ur1 H locs qr1 hP hD hS => ?_)
  obtain ⟨qr1, eur1⟩ := qr1
  rcases ixL_c (n := m_ln M) (x := x) (by omega) with hix | ⟨j, hj, ex, hix⟩
  · have qr1 : r1 = 1 := by rw [qr1, hix]; rfl
    subst qr1
    have eur1 : ur1 = 1 := by rw [eur1, hix]; rfl
    subst eur1
    refine lv_if_eq (tgt := 12) hx hb dX1_billed_5 (by decide) (fun c2 => ?_) (fun c2 => ?_)
    · exact absurd c2 (by decide)
    · refine lv_iconst (v := 0) hx hb dX1_billed_8 (by decide) ?_
      refine lv_goto (tgt := 18) hx hb dX1_billed_9 (by decide) ?_
      subst hQ
      exact W.iret (v := 0) hx hb hr (fun t ht hW => ⟨⟨0, (1, M), rfl, (y_pk 1 (by simp [o_row, hix, pk_us]) rfl), by rw [ht]; exact hP, hD⟩, hS.F ht⟩) hS.2.2 dX1_billed_18
  · have qr1 : r1 = 0 := by rw [qr1, hix]; rfl
    subst qr1
    have eur1 : ur1 = 0 := by rw [eur1, hix]; rfl
    subst eur1
    subst ex
    refine lv_if_eq (tgt := 12) hx hb dX1_billed_5 (by decide) (fun c3 => ?_) (fun c3 => ?_)
    · refine lv_aload_n hx hb dX1_billed_12 rfl (lv_at hl 0 rfl) ?_
      refine va_get (D := D) (ci := 1) (v := .ref (h 4)) (C := RX1) (T := TX1) (N := 14) hx hb hts hin0 hown hK hP 0 rfl rfl 5 (by decide) kw0 (fun _ h9 => h9) rfl dX1_billed_13 ?_
      refine lv_iload_n hx hb dX1_billed_16 rfl (lv_at hl 1 rfl) ?_
      refine r_ald (f := m_lb M) (j := j) hx hb hK hP 4 0 rfl rfl (by omega) (by omega) dX1_billed_17 ?_
      subst hQ
      exact W.iret (v := (m_lb M) j) hx hb hr (fun t ht hW => ⟨⟨(m_lb M) j, (0, M), rfl, (y_pk 0 (by simp [o_row, hix, pk_us]) rfl), by rw [ht]; exact hP, hD⟩, hS.F ht⟩) hS.2.2 dX1_billed_18
    · exact absurd c3 (by decide)
set_option maxHeartbeats 4000000 in
set_option maxRecDepth 100000 in
theorem c1_held (l : Launch) (D : va_G) (h : Nat → Nat) (cA : ClassId) (rf : Int32) (M : MM) (hM : OK1 M) (x : Int32) (sz : Nat) : Met l yX1_held wsX1_held ({ frames := 3, cells := 0, slots := 0, locals := 64 } : Room) (va_Pc [.ref (h 0), .int x] (pW D [(cA, .int)] (w1 h cA rf M) sz)) (va_Qi (fun (r : Int32) (u : Int32 × MM) => y_post (o_row M (m_ln M) (m_lh M) x) r u) (fun u => qW D (va_A (w1 h cA rf M) sz) (w1 h cA u.1 u.2)) (va_A (w1 h cA rf M) sz)) 0 0 (va_A (w1 h cA rf M) sz) := by
  refine Met.ofW (cc := cX1_held) (maxL := 2) (ret := (some .int)) (by decide) rfl ?_
  intro p e s m args below meth c s₁ B hml hv
  obtain ⟨rfl, hsz, hP, hK, hD0⟩ := hv
  have hx := B.exec
  have hb := B.bytes
  have hr := B.returns
  have hts := atoms_spec (ws := wsX1_held) B.pre
  have hown : s.vm.findClass RX1 = some m.cls := findClass_of_methodNamed B.named
  have hlocks := B.notSynchronized
  have kw0 := hts (.fieldLink RX1 22 "ProgressBillingModel" "held" "[I") (by decide +kernel)
  have hin0 : ∀ w ∈ u_ws RX1 TX1 14, w ∈ wsX1_held := by decide +kernel
  subst hsz
  have hD := hD0.self (sz := s.heap.size)
  generalize hAe : va_A (w1 h cA rf M) s.heap.size = A at hD ⊢
  have hA : ∀ q : Nat, s.heap.size ≤ q → A q := fun q h => by rw [← hAe]; exact Or.inr h
  have hS : va_S A s.heap s.heap [] := va_S.rf
  have hP : va_P D vwCl (w1 h cA rf M) s.heap := hP
  obtain ⟨hn1, hn4⟩ := id hM
  have hl := lv_entry ([.ref (h 0), .int x]) (n := 2) (Nat.le_of_ble_eq_true rfl)
  rw [lg_entry_eq]
  generalize (lg_sl ([.ref (h 0), .int x]) ++ List.replicate (2 - (lg_sl ([.ref (h 0), .int x])).length) Slot.unset).toArray = ls at hl ⊢
  have hl : lv_has ls 2 [(0, .ref (h 0)), (1, .int x)] := hl
  refine w_abs (fun Q hQ => ?_)
  refine lv_aload_n hx hb dX1_held_0 rfl (lv_at hl 0 rfl) ?_
  refine lv_iload_n hx hb dX1_held_1 rfl (lv_at hl 1 rfl) ?_
  refine g_calliS (wf := fun u : Int32 => w1 h cA u M) (va_runV (As := [.int x]) (rest := []) ⟨hx, hb, hml, hown, hts⟩ (c1_noLine l D h cA rf M hM x s.heap.size) (cwV 1 hts gX1_held_X1_noLine rfl rfl rfl (by decide +kernel) ⟨Nat.le_of_ble_eq_true rfl, Nat.le_of_ble_eq_true rfl⟩) ⟨pW_fb, va_recv hK hP (ci := 1) (q0 := 0) rfl rfl, pW_mk hP hK hD⟩ rfl rfl hl.1 rfl (lv_room (Nat.le_of_ble_eq_true rfl)) dX1_held_2 ⟨Nat.le_of_ble_eq_true rfl, Nat.le_of_ble_eq_true rfl⟩) hP hD hS hA (fun r1 ur1 H locs qr1 hP hD hS => ?_)
  obtain ⟨qr1, eur1⟩ := qr1
  rcases ixL_c (n := m_ln M) (x := x) (by omega) with hix | ⟨j, hj, ex, hix⟩
  · have qr1 : r1 = 1 := by rw [qr1, hix]; rfl
    subst qr1
    have eur1 : ur1 = 1 := by rw [eur1, hix]; rfl
    subst eur1
    refine lv_if_eq (tgt := 12) hx hb dX1_held_5 (by decide) (fun c2 => ?_) (fun c2 => ?_)
    · exact absurd c2 (by decide)
    · refine lv_iconst (v := 0) hx hb dX1_held_8 (by decide) ?_
      refine lv_goto (tgt := 18) hx hb dX1_held_9 (by decide) ?_
      subst hQ
      exact W.iret (v := 0) hx hb hr (fun t ht hW => ⟨⟨0, (1, M), rfl, (y_pk 1 (by simp [o_row, hix, pk_us]) rfl), by rw [ht]; exact hP, hD⟩, hS.F ht⟩) hS.2.2 dX1_held_18
  · have qr1 : r1 = 0 := by rw [qr1, hix]; rfl
    subst qr1
    have eur1 : ur1 = 0 := by rw [eur1, hix]; rfl
    subst eur1
    subst ex
    refine lv_if_eq (tgt := 12) hx hb dX1_held_5 (by decide) (fun c3 => ?_) (fun c3 => ?_)
    · refine lv_aload_n hx hb dX1_held_12 rfl (lv_at hl 0 rfl) ?_
      refine va_get (D := D) (ci := 1) (v := .ref (h 5)) (C := RX1) (T := TX1) (N := 14) hx hb hts hin0 hown hK hP 0 rfl rfl 6 (by decide) kw0 (fun _ h9 => h9) rfl dX1_held_13 ?_
      refine lv_iload_n hx hb dX1_held_16 rfl (lv_at hl 1 rfl) ?_
      refine r_ald (f := m_lh M) (j := j) hx hb hK hP 5 0 rfl rfl (by omega) (by omega) dX1_held_17 ?_
      subst hQ
      exact W.iret (v := (m_lh M) j) hx hb hr (fun t ht hW => ⟨⟨(m_lh M) j, (0, M), rfl, (y_pk 0 (by simp [o_row, hix, pk_us]) rfl), by rw [ht]; exact hP, hD⟩, hS.F ht⟩) hS.2.2 dX1_held_18
    · exact absurd c3 (by decide)
set_option maxHeartbeats 4000000 in
set_option maxRecDepth 100000 in
theorem c1_goods (l : Launch) (D : va_G) (h : Nat → Nat) (cA : ClassId) (rf : Int32) (M : MM) (hM : OK1 M) (x : Int32) (sz : Nat) : Met l yX1_goods wsX1_goods ({ frames := 3, cells := 0, slots := 0, locals := 64 } : Room) (va_Pc [.ref (h 0), .int x] (pW D [(cA, .int)] (w1 h cA rf M) sz)) (va_Qi (fun (r : Int32) (u : Int32 × MM) => y_post (o_row M (m_ln M) (fun i => m_le M i - m_lw M i) x) r u) (fun u => qW D (va_A (w1 h cA rf M) sz) (w1 h cA u.1 u.2)) (va_A (w1 h cA rf M) sz)) 0 0 (va_A (w1 h cA rf M) sz) := by
  refine Met.ofW (cc := cX1_goods) (maxL := 2) (ret := (some .int)) (by decide) rfl ?_
  intro p e s m args below meth c s₁ B hml hv
  obtain ⟨rfl, hsz, hP, hK, hD0⟩ := hv
  have hx := B.exec
  have hb := B.bytes
  have hr := B.returns
  have hts := atoms_spec (ws := wsX1_goods) B.pre
  have hown : s.vm.findClass RX1 = some m.cls := findClass_of_methodNamed B.named
  have hlocks := B.notSynchronized
  have kw0 := hts (.fieldLink RX1 13 "ProgressBillingModel" "earned" "[I") (by decide +kernel)
  have kw1 := hts (.fieldLink RX1 16 "ProgressBillingModel" "works" "[I") (by decide +kernel)
  have hin0 : ∀ w ∈ u_ws RX1 TX1 14, w ∈ wsX1_goods := by decide +kernel
  subst hsz
  have hD := hD0.self (sz := s.heap.size)
  generalize hAe : va_A (w1 h cA rf M) s.heap.size = A at hD ⊢
  have hA : ∀ q : Nat, s.heap.size ≤ q → A q := fun q h => by rw [← hAe]; exact Or.inr h
  have hS : va_S A s.heap s.heap [] := va_S.rf
  have hP : va_P D vwCl (w1 h cA rf M) s.heap := hP
  obtain ⟨hn1, hn4⟩ := id hM
  have hl := lv_entry ([.ref (h 0), .int x]) (n := 2) (Nat.le_of_ble_eq_true rfl)
  rw [lg_entry_eq]
  generalize (lg_sl ([.ref (h 0), .int x]) ++ List.replicate (2 - (lg_sl ([.ref (h 0), .int x])).length) Slot.unset).toArray = ls at hl ⊢
  have hl : lv_has ls 2 [(0, .ref (h 0)), (1, .int x)] := hl
  refine w_abs (fun Q hQ => ?_)
  refine lv_aload_n hx hb dX1_goods_0 rfl (lv_at hl 0 rfl) ?_
  refine lv_iload_n hx hb dX1_goods_1 rfl (lv_at hl 1 rfl) ?_
  refine g_calliS (wf := fun u : Int32 => w1 h cA u M) (va_runV (As := [.int x]) (rest := []) ⟨hx, hb, hml, hown, hts⟩ (c1_noLine l D h cA rf M hM x s.heap.size) (cwV 1 hts gX1_goods_X1_noLine rfl rfl rfl (by decide +kernel) ⟨Nat.le_of_ble_eq_true rfl, Nat.le_of_ble_eq_true rfl⟩) ⟨pW_fb, va_recv hK hP (ci := 1) (q0 := 0) rfl rfl, pW_mk hP hK hD⟩ rfl rfl hl.1 rfl (lv_room (Nat.le_of_ble_eq_true rfl)) dX1_goods_2 ⟨Nat.le_of_ble_eq_true rfl, Nat.le_of_ble_eq_true rfl⟩) hP hD hS hA (fun r1 ur1 H locs qr1 hP hD hS => ?_)
  obtain ⟨qr1, eur1⟩ := qr1
  rcases ixL_c (n := m_ln M) (x := x) (by omega) with hix | ⟨j, hj, ex, hix⟩
  · have qr1 : r1 = 1 := by rw [qr1, hix]; rfl
    subst qr1
    have eur1 : ur1 = 1 := by rw [eur1, hix]; rfl
    subst eur1
    refine lv_if_eq (tgt := 12) hx hb dX1_goods_5 (by decide) (fun c2 => ?_) (fun c2 => ?_)
    · exact absurd c2 (by decide)
    · refine lv_iconst (v := 0) hx hb dX1_goods_8 (by decide) ?_
      refine lv_goto (tgt := 25) hx hb dX1_goods_9 (by decide) ?_
      subst hQ
      exact W.iret (v := 0) hx hb hr (fun t ht hW => ⟨⟨0, (1, M), rfl, (y_pk 1 (by simp [o_row, hix, pk_us]) rfl), by rw [ht]; exact hP, hD⟩, hS.F ht⟩) hS.2.2 dX1_goods_25
  · have qr1 : r1 = 0 := by rw [qr1, hix]; rfl
    subst qr1
    have eur1 : ur1 = 0 := by rw [eur1, hix]; rfl
    subst eur1
    subst ex
    refine lv_if_eq (tgt := 12) hx hb dX1_goods_5 (by decide) (fun c3 => ?_) (fun c3 => ?_)
    · refine lv_aload_n hx hb dX1_goods_12 rfl (lv_at hl 0 rfl) ?_
      refine va_get (D := D) (ci := 1) (v := .ref (h 2)) (C := RX1) (T := TX1) (N := 14) hx hb hts hin0 hown hK hP 0 rfl rfl 3 (by decide) kw0 (fun _ h9 => h9) rfl dX1_goods_13 ?_
      refine lv_iload_n hx hb dX1_goods_16 rfl (lv_at hl 1 rfl) ?_
      refine r_ald (f := m_le M) (j := j) hx hb hK hP 2 0 rfl rfl (by omega) (by omega) dX1_goods_17 ?_
      refine lv_aload_n hx hb dX1_goods_18 rfl (lv_at hl 0 rfl) ?_
      refine va_get (D := D) (ci := 1) (v := .ref (h 3)) (C := RX1) (T := TX1) (N := 14) hx hb hts hin0 hown hK hP 0 rfl rfl 4 (by decide) kw1 (fun _ h9 => h9) rfl dX1_goods_19 ?_
      refine lv_iload_n hx hb dX1_goods_22 rfl (lv_at hl 1 rfl) ?_
      refine r_ald (f := m_lw M) (j := j) hx hb hK hP 3 0 rfl rfl (by omega) (by omega) dX1_goods_23 ?_
      refine lv_isub hx hb dX1_goods_24 ?_
      subst hQ
      exact W.iret (v := ((m_le M) j) - ((m_lw M) j)) hx hb hr (fun t ht hW => ⟨⟨((m_le M) j) - ((m_lw M) j), (0, M), rfl, (y_pk 0 (by simp [o_row, hix, pk_us]) rfl), by rw [ht]; exact hP, hD⟩, hS.F ht⟩) hS.2.2 dX1_goods_25
    · exact absurd c3 (by decide)
set_option maxHeartbeats 4000000 in
set_option maxRecDepth 100000 in
theorem c1_applications (l : Launch) (D : va_G) (h : Nat → Nat) (cA : ClassId) (rf : Int32) (M : MM) (hM : OK1 M) (sz : Nat) : Met l yX1_applications wsX1_applications ({ frames := 1, cells := 0, slots := 0, locals := 21 } : Room) (va_Pc [.ref (h 0)] (pW D [(cA, .int)] (w1 h cA rf M) sz)) (va_Qi (fun (r : Int32) (u : Int32 × MM) => r = nI (m_an M) ∧ u = (0, M)) (fun u => qW D (va_A (w1 h cA rf M) sz) (w1 h cA u.1 u.2)) (va_A (w1 h cA rf M) sz)) 0 0 (va_A (w1 h cA rf M) sz) := by
  refine Met.ofW (cc := cX1_applications) (maxL := 1) (ret := (some .int)) (by decide) rfl ?_
  intro p e s m args below meth c s₁ B hml hv
  obtain ⟨rfl, hsz, hP, hK, hD0⟩ := hv
  have hx := B.exec
  have hb := B.bytes
  have hr := B.returns
  have hts := atoms_spec (ws := wsX1_applications) B.pre
  have hown : s.vm.findClass RX1 = some m.cls := findClass_of_methodNamed B.named
  have hlocks := B.notSynchronized
  have kw0 := hts (.fieldLink RX1 100 "ProgressBillingModel" "applications" "I") (by decide +kernel)
  have hin0 : ∀ w ∈ u_ws RX1 TX1 14, w ∈ wsX1_applications := by decide +kernel
  subst hsz
  have hD := hD0.self (sz := s.heap.size)
  generalize hAe : va_A (w1 h cA rf M) s.heap.size = A at hD ⊢
  have hA : ∀ q : Nat, s.heap.size ≤ q → A q := fun q h => by rw [← hAe]; exact Or.inr h
  have hS : va_S A s.heap s.heap [] := va_S.rf
  have hP : va_P D vwCl (w1 h cA rf M) s.heap := hP
  obtain ⟨hn1, hn4⟩ := id hM
  have hl := lv_entry ([.ref (h 0)]) (n := 1) (Nat.le_of_ble_eq_true rfl)
  rw [lg_entry_eq]
  generalize (lg_sl ([.ref (h 0)]) ++ List.replicate (1 - (lg_sl ([.ref (h 0)])).length) Slot.unset).toArray = ls at hl ⊢
  have hl : lv_has ls 1 [(0, .ref (h 0))] := hl
  refine w_abs (fun Q hQ => ?_)
  refine lv_aload_n hx hb dX1_applications_0 rfl (lv_at hl 0 rfl) ?_
  refine lv_aload_n hx hb dX1_applications_1 rfl (lv_at hl 0 rfl) ?_
  refine va_get (D := D) (ci := 1) (v := .int (nI (m_an M))) (C := RX1) (T := TX1) (N := 14) hx hb hts hin0 hown hK hP 0 rfl rfl 9 (by decide) kw0 (fun _ h9 => h9) rfl dX1_applications_2 ?_
  refine g_calliS (wf := fun u : Int32 => w1 h cA u M) (va_runV (As := [.int (nI (m_an M))]) (rest := []) ⟨hx, hb, hml, hown, hts⟩ (c1_fine l D h cA rf M (nI (m_an M)) s.heap.size) (cwV 1 hts gX1_applications_X1_fine rfl rfl rfl (by decide +kernel) ⟨Nat.le_of_ble_eq_true rfl, Nat.le_of_ble_eq_true rfl⟩) ⟨pW_fb, va_recv hK hP (ci := 1) (q0 := 0) rfl rfl, pW_mk hP hK hD⟩ rfl rfl hl.1 rfl (lv_room (Nat.le_of_ble_eq_true rfl)) dX1_applications_5 ⟨Nat.le_of_ble_eq_true rfl, Nat.le_of_ble_eq_true rfl⟩) hP hD hS hA (fun r1 ur1 H locs qr1 hP hD hS => ?_)
  obtain ⟨qr1, eur1⟩ := qr1
  have qr1 : r1 = nI (m_an M) := qr1
  subst qr1
  have eur1 : ur1 = 0 := eur1
  subst eur1
  subst hQ
  exact W.iret (v := nI (m_an M)) hx hb hr (fun t ht hW => ⟨⟨nI (m_an M), (0, M), rfl, ⟨rfl, rfl⟩, by rw [ht]; exact hP, hD⟩, hS.F ht⟩) hS.2.2 dX1_applications_8
set_option maxHeartbeats 4000000 in
set_option maxRecDepth 100000 in
theorem c1_lines (l : Launch) (D : va_G) (h : Nat → Nat) (cA : ClassId) (rf : Int32) (M : MM) (hM : OK1 M) (sz : Nat) : Met l yX1_lines wsX1_lines ({ frames := 1, cells := 0, slots := 0, locals := 21 } : Room) (va_Pc [.ref (h 0)] (pW D [(cA, .int)] (w1 h cA rf M) sz)) (va_Qi (fun (r : Int32) (u : Int32 × MM) => r = nI (m_ln M) ∧ u = (0, M)) (fun u => qW D (va_A (w1 h cA rf M) sz) (w1 h cA u.1 u.2)) (va_A (w1 h cA rf M) sz)) 0 0 (va_A (w1 h cA rf M) sz) := by
  refine Met.ofW (cc := cX1_lines) (maxL := 1) (ret := (some .int)) (by decide) rfl ?_
  intro p e s m args below meth c s₁ B hml hv
  obtain ⟨rfl, hsz, hP, hK, hD0⟩ := hv
  have hx := B.exec
  have hb := B.bytes
  have hr := B.returns
  have hts := atoms_spec (ws := wsX1_lines) B.pre
  have hown : s.vm.findClass RX1 = some m.cls := findClass_of_methodNamed B.named
  have hlocks := B.notSynchronized
  have kw0 := hts (.fieldLink RX1 44 "ProgressBillingModel" "lines" "I") (by decide +kernel)
  have hin0 : ∀ w ∈ u_ws RX1 TX1 14, w ∈ wsX1_lines := by decide +kernel
  subst hsz
  have hD := hD0.self (sz := s.heap.size)
  generalize hAe : va_A (w1 h cA rf M) s.heap.size = A at hD ⊢
  have hA : ∀ q : Nat, s.heap.size ≤ q → A q := fun q h => by rw [← hAe]; exact Or.inr h
  have hS : va_S A s.heap s.heap [] := va_S.rf
  have hP : va_P D vwCl (w1 h cA rf M) s.heap := hP
  obtain ⟨hn1, hn4⟩ := id hM
  have hl := lv_entry ([.ref (h 0)]) (n := 1) (Nat.le_of_ble_eq_true rfl)
  rw [lg_entry_eq]
  generalize (lg_sl ([.ref (h 0)]) ++ List.replicate (1 - (lg_sl ([.ref (h 0)])).length) Slot.unset).toArray = ls at hl ⊢
  have hl : lv_has ls 1 [(0, .ref (h 0))] := hl
  refine w_abs (fun Q hQ => ?_)
  refine lv_aload_n hx hb dX1_lines_0 rfl (lv_at hl 0 rfl) ?_
  refine lv_aload_n hx hb dX1_lines_1 rfl (lv_at hl 0 rfl) ?_
  refine va_get (D := D) (ci := 1) (v := .int (nI (m_ln M))) (C := RX1) (T := TX1) (N := 14) hx hb hts hin0 hown hK hP 0 rfl rfl 1 (by decide) kw0 (fun _ h9 => h9) rfl dX1_lines_2 ?_
  refine g_calliS (wf := fun u : Int32 => w1 h cA u M) (va_runV (As := [.int (nI (m_ln M))]) (rest := []) ⟨hx, hb, hml, hown, hts⟩ (c1_fine l D h cA rf M (nI (m_ln M)) s.heap.size) (cwV 1 hts gX1_lines_X1_fine rfl rfl rfl (by decide +kernel) ⟨Nat.le_of_ble_eq_true rfl, Nat.le_of_ble_eq_true rfl⟩) ⟨pW_fb, va_recv hK hP (ci := 1) (q0 := 0) rfl rfl, pW_mk hP hK hD⟩ rfl rfl hl.1 rfl (lv_room (Nat.le_of_ble_eq_true rfl)) dX1_lines_5 ⟨Nat.le_of_ble_eq_true rfl, Nat.le_of_ble_eq_true rfl⟩) hP hD hS hA (fun r1 ur1 H locs qr1 hP hD hS => ?_)
  obtain ⟨qr1, eur1⟩ := qr1
  have qr1 : r1 = nI (m_ln M) := qr1
  subst qr1
  have eur1 : ur1 = 0 := eur1
  subst eur1
  subst hQ
  exact W.iret (v := nI (m_ln M)) hx hb hr (fun t ht hW => ⟨⟨nI (m_ln M), (0, M), rfl, ⟨rfl, rfl⟩, by rw [ht]; exact hP, hD⟩, hS.F ht⟩) hS.2.2 dX1_lines_8
set_option maxHeartbeats 4000000 in
set_option maxRecDepth 100000 in
theorem c1_contractSum (l : Launch) (D : va_G) (h : Nat → Nat) (cA : ClassId) (rf : Int32) (M : MM) (hM : OK1 M) (sz : Nat) : Met l yX1_contractSum wsX1_contractSum ({ frames := 1, cells := 0, slots := 0, locals := 23 } : Room) (va_Pc [.ref (h 0)] (pW D [(cA, .int)] (w1 h cA rf M) sz)) (va_Qi (fun (r : Int32) (u : Int32 × MM) => r = psum (m_lv M) (m_ln M) ∧ u = (0, M)) (fun u => qW D (va_A (w1 h cA rf M) sz) (w1 h cA u.1 u.2)) (va_A (w1 h cA rf M) sz)) 0 0 (va_A (w1 h cA rf M) sz) := by
  refine Met.ofW (cc := cX1_contractSum) (maxL := 1) (ret := (some .int)) (by decide) rfl ?_
  intro p e s m args below meth c s₁ B hml hv
  obtain ⟨rfl, hsz, hP, hK, hD0⟩ := hv
  have hx := B.exec
  have hb := B.bytes
  have hr := B.returns
  have hts := atoms_spec (ws := wsX1_contractSum) B.pre
  have hown : s.vm.findClass RX1 = some m.cls := findClass_of_methodNamed B.named
  have hlocks := B.notSynchronized
  have kw0 := hts (.fieldLink RX1 7 "ProgressBillingModel" "values" "[I") (by decide +kernel)
  have hin0 : ∀ w ∈ u_ws RX1 TX1 14, w ∈ wsX1_contractSum := by decide +kernel
  subst hsz
  have hD := hD0.self (sz := s.heap.size)
  generalize hAe : va_A (w1 h cA rf M) s.heap.size = A at hD ⊢
  have hA : ∀ q : Nat, s.heap.size ≤ q → A q := fun q h => by rw [← hAe]; exact Or.inr h
  have hS : va_S A s.heap s.heap [] := va_S.rf
  have hP : va_P D vwCl (w1 h cA rf M) s.heap := hP
  obtain ⟨hn1, hn4⟩ := id hM
  have hl := lv_entry ([.ref (h 0)]) (n := 1) (Nat.le_of_ble_eq_true rfl)
  rw [lg_entry_eq]
  generalize (lg_sl ([.ref (h 0)]) ++ List.replicate (1 - (lg_sl ([.ref (h 0)])).length) Slot.unset).toArray = ls at hl ⊢
  have hl : lv_has ls 1 [(0, .ref (h 0))] := hl
  refine w_abs (fun Q hQ => ?_)
  refine lv_aload_n hx hb dX1_contractSum_0 rfl (lv_at hl 0 rfl) ?_
  refine lv_aload_n hx hb dX1_contractSum_1 rfl (lv_at hl 0 rfl) ?_
  refine lv_aload_n hx hb dX1_contractSum_2 rfl (lv_at hl 0 rfl) ?_
  refine va_get (D := D) (ci := 1) (v := .ref (h 1)) (C := RX1) (T := TX1) (N := 14) hx hb hts hin0 hown hK hP 0 rfl rfl 2 (by decide) kw0 (fun _ h9 => h9) rfl dX1_contractSum_3 ?_
  refine vp_callSi (W.runV (As := [.ref (h 1)]) (rest := [.ref (h 0)]) ⟨hx, hb, hml, hown, hts⟩ (c1_sum l D h cA rf M hM 1 (m_lv M) rfl) (cwV 1 hts gX1_contractSum_X1_sum rfl rfl rfl (by decide +kernel) ⟨Nat.le_of_ble_eq_true rfl, Nat.le_of_ble_eq_true rfl⟩) ⟨pR_fb, va_recv hK hP (ci := 1) (q0 := 0) rfl rfl, pR_mk hP hK⟩ rfl rfl hl.1 rfl (lv_room (Nat.le_of_ble_eq_true rfl)) dX1_contractSum_6 ⟨Nat.le_of_ble_eq_true rfl, Nat.le_of_ble_eq_true rfl⟩) (fun r1 qr1 => ?_)
  have qr1 : r1 = psum (m_lv M) (m_ln M) := qr1
  subst qr1
  refine g_calliS (wf := fun u : Int32 => w1 h cA u M) (va_runV (As := [.int (psum (m_lv M) (m_ln M))]) (rest := []) ⟨hx, hb, hml, hown, hts⟩ (c1_fine l D h cA rf M (psum (m_lv M) (m_ln M)) s.heap.size) (cwV 1 hts gX1_contractSum_X1_fine rfl rfl rfl (by decide +kernel) ⟨Nat.le_of_ble_eq_true rfl, Nat.le_of_ble_eq_true rfl⟩) ⟨pW_fb, va_recv hK hP (ci := 1) (q0 := 0) rfl rfl, pW_mk hP hK hD⟩ rfl rfl hl.1 rfl (lv_room (Nat.le_of_ble_eq_true rfl)) dX1_contractSum_9 ⟨Nat.le_of_ble_eq_true rfl, Nat.le_of_ble_eq_true rfl⟩) hP hD hS hA (fun r2 ur2 H locs qr2 hP hD hS => ?_)
  obtain ⟨qr2, eur2⟩ := qr2
  have qr2 : r2 = psum (m_lv M) (m_ln M) := qr2
  subst qr2
  have eur2 : ur2 = 0 := eur2
  subst eur2
  subst hQ
  exact W.iret (v := psum (m_lv M) (m_ln M)) hx hb hr (fun t ht hW => ⟨⟨psum (m_lv M) (m_ln M), (0, M), rfl, ⟨rfl, rfl⟩, by rw [ht]; exact hP, hD⟩, hS.F ht⟩) hS.2.2 dX1_contractSum_12
set_option maxHeartbeats 4000000 in
set_option maxRecDepth 100000 in
theorem c1_paid (l : Launch) (D : va_G) (h : Nat → Nat) (cA : ClassId) (rf : Int32) (M : MM) (hM : OK1 M) (sz : Nat) : Met l yX1_paid wsX1_paid ({ frames := 1, cells := 0, slots := 0, locals := 22 } : Room) (va_Pc [.ref (h 0)] (pW D [(cA, .int)] (w1 h cA rf M) sz)) (va_Qi (fun (r : Int32) (u : Int32 × MM) => r = y_psum (m_as M) (m_aa M) (m_an M) ∧ u = (0, M)) (fun u => qW D (va_A (w1 h cA rf M) sz) (w1 h cA u.1 u.2)) (va_A (w1 h cA rf M) sz)) 0 0 (va_A (w1 h cA rf M) sz) := by
  refine Met.ofW (cc := cX1_paid) (maxL := 1) (ret := (some .int)) (by decide) rfl ?_
  intro p e s m args below meth c s₁ B hml hv
  obtain ⟨rfl, hsz, hP, hK, hD0⟩ := hv
  have hx := B.exec
  have hb := B.bytes
  have hr := B.returns
  have hts := atoms_spec (ws := wsX1_paid) B.pre
  have hown : s.vm.findClass RX1 = some m.cls := findClass_of_methodNamed B.named
  have hlocks := B.notSynchronized
  subst hsz
  have hD := hD0.self (sz := s.heap.size)
  generalize hAe : va_A (w1 h cA rf M) s.heap.size = A at hD ⊢
  have hA : ∀ q : Nat, s.heap.size ≤ q → A q := fun q h => by rw [← hAe]; exact Or.inr h
  have hS : va_S A s.heap s.heap [] := va_S.rf
  have hP : va_P D vwCl (w1 h cA rf M) s.heap := hP
  obtain ⟨hn1, hn4⟩ := id hM
  have hl := lv_entry ([.ref (h 0)]) (n := 1) (Nat.le_of_ble_eq_true rfl)
  rw [lg_entry_eq]
  generalize (lg_sl ([.ref (h 0)]) ++ List.replicate (1 - (lg_sl ([.ref (h 0)])).length) Slot.unset).toArray = ls at hl ⊢
  have hl : lv_has ls 1 [(0, .ref (h 0))] := hl
  refine w_abs (fun Q hQ => ?_)
  refine lv_aload_n hx hb dX1_paid_0 rfl (lv_at hl 0 rfl) ?_
  refine lv_aload_n hx hb dX1_paid_1 rfl (lv_at hl 0 rfl) ?_
  refine vp_callSi (W.runV (As := []) (rest := [.ref (h 0)]) ⟨hx, hb, hml, hown, hts⟩ (c1_sumPaid l D h cA rf M hM) (cwV 0 hts gX1_paid_X1_sumPaid rfl rfl rfl (by decide +kernel) ⟨Nat.le_of_ble_eq_true rfl, Nat.le_of_ble_eq_true rfl⟩) ⟨pR_fb, va_recv hK hP (ci := 1) (q0 := 0) rfl rfl, pR_mk hP hK⟩ rfl rfl hl.1 rfl (lv_room (Nat.le_of_ble_eq_true rfl)) dX1_paid_2 ⟨Nat.le_of_ble_eq_true rfl, Nat.le_of_ble_eq_true rfl⟩) (fun r1 qr1 => ?_)
  have qr1 : r1 = y_psum (m_as M) (m_aa M) (m_an M) := qr1
  subst qr1
  refine g_calliS (wf := fun u : Int32 => w1 h cA u M) (va_runV (As := [.int (y_psum (m_as M) (m_aa M) (m_an M))]) (rest := []) ⟨hx, hb, hml, hown, hts⟩ (c1_fine l D h cA rf M (y_psum (m_as M) (m_aa M) (m_an M)) s.heap.size) (cwV 1 hts gX1_paid_X1_fine rfl rfl rfl (by decide +kernel) ⟨Nat.le_of_ble_eq_true rfl, Nat.le_of_ble_eq_true rfl⟩) ⟨pW_fb, va_recv hK hP (ci := 1) (q0 := 0) rfl rfl, pW_mk hP hK hD⟩ rfl rfl hl.1 rfl (lv_room (Nat.le_of_ble_eq_true rfl)) dX1_paid_5 ⟨Nat.le_of_ble_eq_true rfl, Nat.le_of_ble_eq_true rfl⟩) hP hD hS hA (fun r2 ur2 H locs qr2 hP hD hS => ?_)
  obtain ⟨qr2, eur2⟩ := qr2
  have qr2 : r2 = y_psum (m_as M) (m_aa M) (m_an M) := qr2
  subst qr2
  have eur2 : ur2 = 0 := eur2
  subst eur2
  subst hQ
  exact W.iret (v := y_psum (m_as M) (m_aa M) (m_an M)) hx hb hr (fun t ht hW => ⟨⟨y_psum (m_as M) (m_aa M) (m_an M), (0, M), rfl, ⟨rfl, rfl⟩, by rw [ht]; exact hP, hD⟩, hS.F ht⟩) hS.2.2 dX1_paid_8
set_option maxHeartbeats 4000000 in
set_option maxRecDepth 100000 in
theorem c1_toCome (l : Launch) (D : va_G) (h : Nat → Nat) (cA : ClassId) (rf : Int32) (M : MM) (hM : OK1 M) (sz : Nat) : Met l yX1_toCome wsX1_toCome ({ frames := 1, cells := 0, slots := 0, locals := 23 } : Room) (va_Pc [.ref (h 0)] (pW D [(cA, .int)] (w1 h cA rf M) sz)) (va_Qi (fun (r : Int32) (u : Int32 × MM) => r = psum (m_lv M) (m_ln M) - y_psum (m_as M) (m_aa M) (m_an M) ∧ u = (0, M)) (fun u => qW D (va_A (w1 h cA rf M) sz) (w1 h cA u.1 u.2)) (va_A (w1 h cA rf M) sz)) 0 0 (va_A (w1 h cA rf M) sz) := by
  refine Met.ofW (cc := cX1_toCome) (maxL := 1) (ret := (some .int)) (by decide) rfl ?_
  intro p e s m args below meth c s₁ B hml hv
  obtain ⟨rfl, hsz, hP, hK, hD0⟩ := hv
  have hx := B.exec
  have hb := B.bytes
  have hr := B.returns
  have hts := atoms_spec (ws := wsX1_toCome) B.pre
  have hown : s.vm.findClass RX1 = some m.cls := findClass_of_methodNamed B.named
  have hlocks := B.notSynchronized
  have kw0 := hts (.fieldLink RX1 7 "ProgressBillingModel" "values" "[I") (by decide +kernel)
  have hin0 : ∀ w ∈ u_ws RX1 TX1 14, w ∈ wsX1_toCome := by decide +kernel
  subst hsz
  have hD := hD0.self (sz := s.heap.size)
  generalize hAe : va_A (w1 h cA rf M) s.heap.size = A at hD ⊢
  have hA : ∀ q : Nat, s.heap.size ≤ q → A q := fun q h => by rw [← hAe]; exact Or.inr h
  have hS : va_S A s.heap s.heap [] := va_S.rf
  have hP : va_P D vwCl (w1 h cA rf M) s.heap := hP
  obtain ⟨hn1, hn4⟩ := id hM
  have hl := lv_entry ([.ref (h 0)]) (n := 1) (Nat.le_of_ble_eq_true rfl)
  rw [lg_entry_eq]
  generalize (lg_sl ([.ref (h 0)]) ++ List.replicate (1 - (lg_sl ([.ref (h 0)])).length) Slot.unset).toArray = ls at hl ⊢
  have hl : lv_has ls 1 [(0, .ref (h 0))] := hl
  refine w_abs (fun Q hQ => ?_)
  refine lv_aload_n hx hb dX1_toCome_0 rfl (lv_at hl 0 rfl) ?_
  refine lv_aload_n hx hb dX1_toCome_1 rfl (lv_at hl 0 rfl) ?_
  refine lv_aload_n hx hb dX1_toCome_2 rfl (lv_at hl 0 rfl) ?_
  refine va_get (D := D) (ci := 1) (v := .ref (h 1)) (C := RX1) (T := TX1) (N := 14) hx hb hts hin0 hown hK hP 0 rfl rfl 2 (by decide) kw0 (fun _ h9 => h9) rfl dX1_toCome_3 ?_
  refine vp_callSi (W.runV (As := [.ref (h 1)]) (rest := [.ref (h 0)]) ⟨hx, hb, hml, hown, hts⟩ (c1_sum l D h cA rf M hM 1 (m_lv M) rfl) (cwV 1 hts gX1_toCome_X1_sum rfl rfl rfl (by decide +kernel) ⟨Nat.le_of_ble_eq_true rfl, Nat.le_of_ble_eq_true rfl⟩) ⟨pR_fb, va_recv hK hP (ci := 1) (q0 := 0) rfl rfl, pR_mk hP hK⟩ rfl rfl hl.1 rfl (lv_room (Nat.le_of_ble_eq_true rfl)) dX1_toCome_6 ⟨Nat.le_of_ble_eq_true rfl, Nat.le_of_ble_eq_true rfl⟩) (fun r1 qr1 => ?_)
  have qr1 : r1 = psum (m_lv M) (m_ln M) := qr1
  subst qr1
  refine lv_aload_n hx hb dX1_toCome_9 rfl (lv_at hl 0 rfl) ?_
  refine vp_callSi (W.runV (As := []) (rest := [.int (psum (m_lv M) (m_ln M)), .ref (h 0)]) ⟨hx, hb, hml, hown, hts⟩ (c1_sumPaid l D h cA rf M hM) (cwV 0 hts gX1_toCome_X1_sumPaid rfl rfl rfl (by decide +kernel) ⟨Nat.le_of_ble_eq_true rfl, Nat.le_of_ble_eq_true rfl⟩) ⟨pR_fb, va_recv hK hP (ci := 1) (q0 := 0) rfl rfl, pR_mk hP hK⟩ rfl rfl hl.1 rfl (lv_room (Nat.le_of_ble_eq_true rfl)) dX1_toCome_10 ⟨Nat.le_of_ble_eq_true rfl, Nat.le_of_ble_eq_true rfl⟩) (fun r2 qr2 => ?_)
  have qr2 : r2 = y_psum (m_as M) (m_aa M) (m_an M) := qr2
  subst qr2
  refine lv_isub hx hb dX1_toCome_13 ?_
  refine g_calliS (wf := fun u : Int32 => w1 h cA u M) (va_runV (As := [.int ((psum (m_lv M) (m_ln M)) - (y_psum (m_as M) (m_aa M) (m_an M)))]) (rest := []) ⟨hx, hb, hml, hown, hts⟩ (c1_fine l D h cA rf M ((psum (m_lv M) (m_ln M)) - (y_psum (m_as M) (m_aa M) (m_an M))) s.heap.size) (cwV 1 hts gX1_toCome_X1_fine rfl rfl rfl (by decide +kernel) ⟨Nat.le_of_ble_eq_true rfl, Nat.le_of_ble_eq_true rfl⟩) ⟨pW_fb, va_recv hK hP (ci := 1) (q0 := 0) rfl rfl, pW_mk hP hK hD⟩ rfl rfl hl.1 rfl (lv_room (Nat.le_of_ble_eq_true rfl)) dX1_toCome_14 ⟨Nat.le_of_ble_eq_true rfl, Nat.le_of_ble_eq_true rfl⟩) hP hD hS hA (fun r3 ur3 H locs qr3 hP hD hS => ?_)
  obtain ⟨qr3, eur3⟩ := qr3
  have qr3 : r3 = (psum (m_lv M) (m_ln M)) - (y_psum (m_as M) (m_aa M) (m_an M)) := qr3
  subst qr3
  have eur3 : ur3 = 0 := eur3
  subst eur3
  subst hQ
  exact W.iret (v := (psum (m_lv M) (m_ln M)) - (y_psum (m_as M) (m_aa M) (m_an M))) hx hb hr (fun t ht hW => ⟨⟨(psum (m_lv M) (m_ln M)) - (y_psum (m_as M) (m_aa M) (m_an M)), (0, M), rfl, ⟨rfl, rfl⟩, by rw [ht]; exact hP, hD⟩, hS.F ht⟩) hS.2.2 dX1_toCome_17
set_option maxHeartbeats 4000000 in
set_option maxRecDepth 100000 in
theorem c1_steps (l : Launch) (D : va_G) (h : Nat → Nat) (cA : ClassId) (rf : Int32) (M : MM) (hM : OK1 M) (sz : Nat) : Met l yX1_steps wsX1_steps ({ frames := 1, cells := 0, slots := 0, locals := 22 } : Room) (va_Pc [.ref (h 0)] (pW D [(cA, .int)] (w1 h cA rf M) sz)) (va_Qi (fun (r : Int32) (u : Int32 × MM) => r = nI (cntS (m_rt M) 1001) ∧ u = (0, M)) (fun u => qW D (va_A (w1 h cA rf M) sz) (w1 h cA u.1 u.2)) (va_A (w1 h cA rf M) sz)) 0 0 (va_A (w1 h cA rf M) sz) := by
  refine Met.ofW (cc := cX1_steps) (maxL := 1) (ret := (some .int)) (by decide) rfl ?_
  intro p e s m args below meth c s₁ B hml hv
  obtain ⟨rfl, hsz, hP, hK, hD0⟩ := hv
  have hx := B.exec
  have hb := B.bytes
  have hr := B.returns
  have hts := atoms_spec (ws := wsX1_steps) B.pre
  have hown : s.vm.findClass RX1 = some m.cls := findClass_of_methodNamed B.named
  have hlocks := B.notSynchronized
  subst hsz
  have hD := hD0.self (sz := s.heap.size)
  generalize hAe : va_A (w1 h cA rf M) s.heap.size = A at hD ⊢
  have hA : ∀ q : Nat, s.heap.size ≤ q → A q := fun q h => by rw [← hAe]; exact Or.inr h
  have hS : va_S A s.heap s.heap [] := va_S.rf
  have hP : va_P D vwCl (w1 h cA rf M) s.heap := hP
  obtain ⟨hn1, hn4⟩ := id hM
  have hl := lv_entry ([.ref (h 0)]) (n := 1) (Nat.le_of_ble_eq_true rfl)
  rw [lg_entry_eq]
  generalize (lg_sl ([.ref (h 0)]) ++ List.replicate (1 - (lg_sl ([.ref (h 0)])).length) Slot.unset).toArray = ls at hl ⊢
  have hl : lv_has ls 1 [(0, .ref (h 0))] := hl
  refine w_abs (fun Q hQ => ?_)
  refine lv_aload_n hx hb dX1_steps_0 rfl (lv_at hl 0 rfl) ?_
  refine lv_aload_n hx hb dX1_steps_1 rfl (lv_at hl 0 rfl) ?_
  refine vp_callSi (W.runV (As := []) (rest := [.ref (h 0)]) ⟨hx, hb, hml, hown, hts⟩ (c1_countSteps l D h cA rf M hM) (cwV 0 hts gX1_steps_X1_countSteps rfl rfl rfl (by decide +kernel) ⟨Nat.le_of_ble_eq_true rfl, Nat.le_of_ble_eq_true rfl⟩) ⟨pR_fb, va_recv hK hP (ci := 1) (q0 := 0) rfl rfl, pR_mk hP hK⟩ rfl rfl hl.1 rfl (lv_room (Nat.le_of_ble_eq_true rfl)) dX1_steps_2 ⟨Nat.le_of_ble_eq_true rfl, Nat.le_of_ble_eq_true rfl⟩) (fun r1 qr1 => ?_)
  have qr1 : r1 = nI (cntS (m_rt M) 1001) := qr1
  subst qr1
  have hcs : cntS (m_rt M) 1001 ≤ 1001 := cntS_le _ _
  refine g_calliS (wf := fun u : Int32 => w1 h cA u M) (va_runV (As := [.int (nI (cntS (m_rt M) 1001))]) (rest := []) ⟨hx, hb, hml, hown, hts⟩ (c1_fine l D h cA rf M (nI (cntS (m_rt M) 1001)) s.heap.size) (cwV 1 hts gX1_steps_X1_fine rfl rfl rfl (by decide +kernel) ⟨Nat.le_of_ble_eq_true rfl, Nat.le_of_ble_eq_true rfl⟩) ⟨pW_fb, va_recv hK hP (ci := 1) (q0 := 0) rfl rfl, pW_mk hP hK hD⟩ rfl rfl hl.1 rfl (lv_room (Nat.le_of_ble_eq_true rfl)) dX1_steps_5 ⟨Nat.le_of_ble_eq_true rfl, Nat.le_of_ble_eq_true rfl⟩) hP hD hS hA (fun r2 ur2 H locs qr2 hP hD hS => ?_)
  obtain ⟨qr2, eur2⟩ := qr2
  have qr2 : r2 = nI (cntS (m_rt M) 1001) := qr2
  subst qr2
  have eur2 : ur2 = 0 := eur2
  subst eur2
  subst hQ
  exact W.iret (v := nI (cntS (m_rt M) 1001)) hx hb hr (fun t ht hW => ⟨⟨nI (cntS (m_rt M) 1001), (0, M), rfl, ⟨rfl, rfl⟩, by rw [ht]; exact hP, hD⟩, hS.F ht⟩) hS.2.2 dX1_steps_8
set_option maxHeartbeats 4000000 in
set_option maxRecDepth 100000 in
theorem c1_progress (l : Launch) (D : va_G) (h : Nat → Nat) (cA : ClassId) (rf : Int32) (M : MM) (hM : OK1 M) (sz : Nat) : Met l yX1_progress wsX1_progress ({ frames := 2, cells := 0, slots := 0, locals := 43 } : Room) (va_Pc [.ref (h 0)] (pW D [(cA, .int)] (w1 h cA rf M) sz)) (va_Qi (fun (r : Int32) (u : Int32 × MM) => r = y_reached M ∧ u = (0, M)) (fun u => qW D (va_A (w1 h cA rf M) sz) (w1 h cA u.1 u.2)) (va_A (w1 h cA rf M) sz)) 0 0 (va_A (w1 h cA rf M) sz) := by
  refine Met.ofW (cc := cX1_progress) (maxL := 1) (ret := (some .int)) (by decide) rfl ?_
  intro p e s m args below meth c s₁ B hml hv
  obtain ⟨rfl, hsz, hP, hK, hD0⟩ := hv
  have hx := B.exec
  have hb := B.bytes
  have hr := B.returns
  have hts := atoms_spec (ws := wsX1_progress) B.pre
  have hown : s.vm.findClass RX1 = some m.cls := findClass_of_methodNamed B.named
  have hlocks := B.notSynchronized
  subst hsz
  have hD := hD0.self (sz := s.heap.size)
  generalize hAe : va_A (w1 h cA rf M) s.heap.size = A at hD ⊢
  have hA : ∀ q : Nat, s.heap.size ≤ q → A q := fun q h => by rw [← hAe]; exact Or.inr h
  have hS : va_S A s.heap s.heap [] := va_S.rf
  have hP : va_P D vwCl (w1 h cA rf M) s.heap := hP
  obtain ⟨hn1, hn4⟩ := id hM
  have hl := lv_entry ([.ref (h 0)]) (n := 1) (Nat.le_of_ble_eq_true rfl)
  rw [lg_entry_eq]
  generalize (lg_sl ([.ref (h 0)]) ++ List.replicate (1 - (lg_sl ([.ref (h 0)])).length) Slot.unset).toArray = ls at hl ⊢
  have hl : lv_has ls 1 [(0, .ref (h 0))] := hl
  refine w_abs (fun Q hQ => ?_)
  refine lv_aload_n hx hb dX1_progress_0 rfl (lv_at hl 0 rfl) ?_
  refine lv_aload_n hx hb dX1_progress_1 rfl (lv_at hl 0 rfl) ?_
  refine vp_callSi (W.runV (As := []) (rest := [.ref (h 0)]) ⟨hx, hb, hml, hown, hts⟩ (c1_reached l D h cA rf M hM) (cwV 0 hts gX1_progress_X1_reached rfl rfl rfl (by decide +kernel) ⟨Nat.le_of_ble_eq_true rfl, Nat.le_of_ble_eq_true rfl⟩) ⟨pR_fb, va_recv hK hP (ci := 1) (q0 := 0) rfl rfl, pR_mk hP hK⟩ rfl rfl hl.1 rfl (lv_room (Nat.le_of_ble_eq_true rfl)) dX1_progress_2 ⟨Nat.le_of_ble_eq_true rfl, Nat.le_of_ble_eq_true rfl⟩) (fun r1 qr1 => ?_)
  have qr1 : r1 = y_reached M := qr1
  subst qr1
  refine g_calliS (wf := fun u : Int32 => w1 h cA u M) (va_runV (As := [.int (y_reached M)]) (rest := []) ⟨hx, hb, hml, hown, hts⟩ (c1_fine l D h cA rf M (y_reached M) s.heap.size) (cwV 1 hts gX1_progress_X1_fine rfl rfl rfl (by decide +kernel) ⟨Nat.le_of_ble_eq_true rfl, Nat.le_of_ble_eq_true rfl⟩) ⟨pW_fb, va_recv hK hP (ci := 1) (q0 := 0) rfl rfl, pW_mk hP hK hD⟩ rfl rfl hl.1 rfl (lv_room (Nat.le_of_ble_eq_true rfl)) dX1_progress_5 ⟨Nat.le_of_ble_eq_true rfl, Nat.le_of_ble_eq_true rfl⟩) hP hD hS hA (fun r2 ur2 H locs qr2 hP hD hS => ?_)
  obtain ⟨qr2, eur2⟩ := qr2
  have qr2 : r2 = y_reached M := qr2
  subst qr2
  have eur2 : ur2 = 0 := eur2
  subst eur2
  subst hQ
  exact W.iret (v := y_reached M) hx hb hr (fun t ht hW => ⟨⟨y_reached M, (0, M), rfl, ⟨rfl, rfl⟩, by rw [ht]; exact hP, hD⟩, hS.F ht⟩) hS.2.2 dX1_progress_8
set_option maxHeartbeats 4000000 in
set_option maxRecDepth 100000 in
theorem c1_rate (l : Launch) (D : va_G) (h : Nat → Nat) (cA : ClassId) (rf : Int32) (M : MM) (hM : RTM M) (sz : Nat) : Met l yX1_rate wsX1_rate ({ frames := 3, cells := 0, slots := 0, locals := 64 } : Room) (va_Pc [.ref (h 0)] (pW D [(cA, .int)] (w1 h cA rf M) sz)) (va_Qi (fun (r : Int32) (u : Int32 × MM) => r = y_rate M ∧ u = (0, M)) (fun u => qW D (va_A (w1 h cA rf M) sz) (w1 h cA u.1 u.2)) (va_A (w1 h cA rf M) sz)) 0 0 (va_A (w1 h cA rf M) sz) := by
  refine Met.ofW (cc := cX1_rate) (maxL := 1) (ret := (some .int)) (by decide) rfl ?_
  intro p e s m args below meth c s₁ B hml hv
  obtain ⟨rfl, hsz, hP, hK, hD0⟩ := hv
  have hx := B.exec
  have hb := B.bytes
  have hr := B.returns
  have hts := atoms_spec (ws := wsX1_rate) B.pre
  have hown : s.vm.findClass RX1 = some m.cls := findClass_of_methodNamed B.named
  have hlocks := B.notSynchronized
  subst hsz
  have hD := hD0.self (sz := s.heap.size)
  generalize hAe : va_A (w1 h cA rf M) s.heap.size = A at hD ⊢
  have hA : ∀ q : Nat, s.heap.size ≤ q → A q := fun q h => by rw [← hAe]; exact Or.inr h
  have hS : va_S A s.heap s.heap [] := va_S.rf
  have hP : va_P D vwCl (w1 h cA rf M) s.heap := hP
  obtain ⟨hn1, hn4, ⟨k0, hk0, ek0⟩, hr0⟩ := id hM
  have hl := lv_entry ([.ref (h 0)]) (n := 1) (Nat.le_of_ble_eq_true rfl)
  rw [lg_entry_eq]
  generalize (lg_sl ([.ref (h 0)]) ++ List.replicate (1 - (lg_sl ([.ref (h 0)])).length) Slot.unset).toArray = ls at hl ⊢
  have hl : lv_has ls 1 [(0, .ref (h 0))] := hl
  refine w_abs (fun Q hQ => ?_)
  refine lv_aload_n hx hb dX1_rate_0 rfl (lv_at hl 0 rfl) ?_
  refine lv_aload_n hx hb dX1_rate_1 rfl (lv_at hl 0 rfl) ?_
  refine vp_callSi (W.runV (As := []) (rest := [.ref (h 0)]) ⟨hx, hb, hml, hown, hts⟩ (c1_rateNow l D h cA rf M hM) (cwV 0 hts gX1_rate_X1_rateNow rfl rfl rfl (by decide +kernel) ⟨Nat.le_of_ble_eq_true rfl, Nat.le_of_ble_eq_true rfl⟩) ⟨pR_fb, va_recv hK hP (ci := 1) (q0 := 0) rfl rfl, pR_mk hP hK⟩ rfl rfl hl.1 rfl (lv_room (Nat.le_of_ble_eq_true rfl)) dX1_rate_2 ⟨Nat.le_of_ble_eq_true rfl, Nat.le_of_ble_eq_true rfl⟩) (fun r1 qr1 => ?_)
  have qr1 : r1 = y_rate M := qr1
  subst qr1
  refine g_calliS (wf := fun u : Int32 => w1 h cA u M) (va_runV (As := [.int (y_rate M)]) (rest := []) ⟨hx, hb, hml, hown, hts⟩ (c1_fine l D h cA rf M (y_rate M) s.heap.size) (cwV 1 hts gX1_rate_X1_fine rfl rfl rfl (by decide +kernel) ⟨Nat.le_of_ble_eq_true rfl, Nat.le_of_ble_eq_true rfl⟩) ⟨pW_fb, va_recv hK hP (ci := 1) (q0 := 0) rfl rfl, pW_mk hP hK hD⟩ rfl rfl hl.1 rfl (lv_room (Nat.le_of_ble_eq_true rfl)) dX1_rate_5 ⟨Nat.le_of_ble_eq_true rfl, Nat.le_of_ble_eq_true rfl⟩) hP hD hS hA (fun r2 ur2 H locs qr2 hP hD hS => ?_)
  obtain ⟨qr2, eur2⟩ := qr2
  have qr2 : r2 = y_rate M := qr2
  subst qr2
  have eur2 : ur2 = 0 := eur2
  subst eur2
  subst hQ
  exact W.iret (v := y_rate M) hx hb hr (fun t ht hW => ⟨⟨y_rate M, (0, M), rfl, ⟨rfl, rfl⟩, by rw [ht]; exact hP, hD⟩, hS.F ht⟩) hS.2.2 dX1_rate_8
set_option maxHeartbeats 4000000 in
set_option maxRecDepth 100000 in
theorem c1_nextAmount (l : Launch) (D : va_G) (h : Nat → Nat) (cA : ClassId) (rf : Int32) (M : MM) (hM : RTM M) (sz : Nat) : Met l yX1_nextAmount wsX1_nextAmount ({ frames := 5, cells := 0, slots := 0, locals := 108 } : Room) (va_Pc [.ref (h 0)] (pW D [(cA, .int)] (w1 h cA rf M) sz)) (va_Qi (fun (r : Int32) (u : Int32 × MM) => r = y_amt M ∧ u = (0, M)) (fun u => qW D (va_A (w1 h cA rf M) sz) (w1 h cA u.1 u.2)) (va_A (w1 h cA rf M) sz)) 0 0 (va_A (w1 h cA rf M) sz) := by
  refine Met.ofW (cc := cX1_nextAmount) (maxL := 1) (ret := (some .int)) (by decide) rfl ?_
  intro p e s m args below meth c s₁ B hml hv
  obtain ⟨rfl, hsz, hP, hK, hD0⟩ := hv
  have hx := B.exec
  have hb := B.bytes
  have hr := B.returns
  have hts := atoms_spec (ws := wsX1_nextAmount) B.pre
  have hown : s.vm.findClass RX1 = some m.cls := findClass_of_methodNamed B.named
  have hlocks := B.notSynchronized
  subst hsz
  have hD := hD0.self (sz := s.heap.size)
  generalize hAe : va_A (w1 h cA rf M) s.heap.size = A at hD ⊢
  have hA : ∀ q : Nat, s.heap.size ≤ q → A q := fun q h => by rw [← hAe]; exact Or.inr h
  have hS : va_S A s.heap s.heap [] := va_S.rf
  have hP : va_P D vwCl (w1 h cA rf M) s.heap := hP
  obtain ⟨hn1, hn4, ⟨k0, hk0, ek0⟩, hr0⟩ := id hM
  have hl := lv_entry ([.ref (h 0)]) (n := 1) (Nat.le_of_ble_eq_true rfl)
  rw [lg_entry_eq]
  generalize (lg_sl ([.ref (h 0)]) ++ List.replicate (1 - (lg_sl ([.ref (h 0)])).length) Slot.unset).toArray = ls at hl ⊢
  have hl : lv_has ls 1 [(0, .ref (h 0))] := hl
  refine w_abs (fun Q hQ => ?_)
  refine lv_aload_n hx hb dX1_nextAmount_0 rfl (lv_at hl 0 rfl) ?_
  refine lv_aload_n hx hb dX1_nextAmount_1 rfl (lv_at hl 0 rfl) ?_
  refine vp_callSi (W.runV (As := []) (rest := [.ref (h 0)]) ⟨hx, hb, hml, hown, hts⟩ (c1_amountNow l D h cA rf M hM) (cwV 0 hts gX1_nextAmount_X1_amountNow rfl rfl rfl (by decide +kernel) ⟨Nat.le_of_ble_eq_true rfl, Nat.le_of_ble_eq_true rfl⟩) ⟨pR_fb, va_recv hK hP (ci := 1) (q0 := 0) rfl rfl, pR_mk hP hK⟩ rfl rfl hl.1 rfl (lv_room (Nat.le_of_ble_eq_true rfl)) dX1_nextAmount_2 ⟨Nat.le_of_ble_eq_true rfl, Nat.le_of_ble_eq_true rfl⟩) (fun r1 qr1 => ?_)
  have qr1 : r1 = y_amt M := qr1
  subst qr1
  refine g_calliS (wf := fun u : Int32 => w1 h cA u M) (va_runV (As := [.int (y_amt M)]) (rest := []) ⟨hx, hb, hml, hown, hts⟩ (c1_fine l D h cA rf M (y_amt M) s.heap.size) (cwV 1 hts gX1_nextAmount_X1_fine rfl rfl rfl (by decide +kernel) ⟨Nat.le_of_ble_eq_true rfl, Nat.le_of_ble_eq_true rfl⟩) ⟨pW_fb, va_recv hK hP (ci := 1) (q0 := 0) rfl rfl, pW_mk hP hK hD⟩ rfl rfl hl.1 rfl (lv_room (Nat.le_of_ble_eq_true rfl)) dX1_nextAmount_5 ⟨Nat.le_of_ble_eq_true rfl, Nat.le_of_ble_eq_true rfl⟩) hP hD hS hA (fun r2 ur2 H locs qr2 hP hD hS => ?_)
  obtain ⟨qr2, eur2⟩ := qr2
  have qr2 : r2 = y_amt M := qr2
  subst qr2
  have eur2 : ur2 = 0 := eur2
  subst eur2
  subst hQ
  exact W.iret (v := y_amt M) hx hb hr (fun t ht hW => ⟨⟨y_amt M, (0, M), rfl, ⟨rfl, rfl⟩, by rw [ht]; exact hP, hD⟩, hS.F ht⟩) hS.2.2 dX1_nextAmount_8
set_option maxHeartbeats 4000000 in
set_option maxRecDepth 100000 in
theorem c1_hold (l : Launch) (D : va_G) (h : Nat → Nat) (cA : ClassId) (rf : Int32) (M : MM) (hM : OK1 M) (v9 : Int32) (hv : v9 = 0 ∨ v9 = 1) (hh : m_hb M = 0 ∨ m_hb M = 1) (sz : Nat) : Met l yX1_hold wsX1_hold ({ frames := 0, cells := 0, slots := 0, locals := 0 } : Room) (va_Pc [.ref (h 0), .int v9] (pW D [(cA, .int)] (w1 h cA rf M) sz)) (va_Qi (fun (r : Int32) (u : Int32 × MM) => r = m_hb M ∧ u = (0, s_hb M v9)) (fun u => qW D (va_A (w1 h cA rf M) sz) (w1 h cA u.1 u.2)) (va_A (w1 h cA rf M) sz)) 0 0 (va_A (w1 h cA rf M) sz) := by
  refine Met.ofW (cc := cX1_hold) (maxL := 3) (ret := (some .boolean)) (by decide) rfl ?_
  intro p e s m args below meth c s₁ B hml hv
  obtain ⟨rfl, hsz, hP, hK, hD0⟩ := hv
  have hx := B.exec
  have hb := B.bytes
  have hr := B.returns
  have hts := atoms_spec (ws := wsX1_hold) B.pre
  have hown : s.vm.findClass RX1 = some m.cls := findClass_of_methodNamed B.named
  have hlocks := B.notSynchronized
  have kw0 := hts (.fieldLink RX1 40 "ProgressBillingModel" "refusal" "I") (by decide +kernel)
  have kw1 := hts (.fieldLink RX1 79 "ProgressBillingModel" "isByIncrease" "Z") (by decide +kernel)
  have hin0 : ∀ w ∈ u_ws RX1 TX1 14, w ∈ wsX1_hold := by decide +kernel
  subst hsz
  have hD := hD0.self (sz := s.heap.size)
  generalize hAe : va_A (w1 h cA rf M) s.heap.size = A at hD ⊢
  have hA : ∀ q : Nat, s.heap.size ≤ q → A q := fun q h => by rw [← hAe]; exact Or.inr h
  have hS : va_S A s.heap s.heap [] := va_S.rf
  have hP : va_P D vwCl (w1 h cA rf M) s.heap := hP
  obtain ⟨hn1, hn4⟩ := id hM
  have hl := lv_entry ([.ref (h 0), .int v9]) (n := 3) (Nat.le_of_ble_eq_true rfl)
  rw [lg_entry_eq]
  generalize (lg_sl ([.ref (h 0), .int v9]) ++ List.replicate (3 - (lg_sl ([.ref (h 0), .int v9])).length) Slot.unset).toArray = ls at hl ⊢
  have hl : lv_has ls 3 [(0, .ref (h 0)), (1, .int v9)] := hl
  refine w_abs (fun Q hQ => ?_)
  refine lv_aload_n hx hb dX1_hold_0 rfl (lv_at hl 0 rfl) ?_
  refine lv_iconst (v := 0) hx hb dX1_hold_1 (by decide) ?_
  refine va_put (D := D) (ci := 1) (v := .int 0) (ty := .int) (C := RX1) (T := TX1) (N := 14) hx hb hts hin0 tyX1 tyX1_ok nmX1 hown hK hP hD hS 0 rfl rfl 0 (by decide) kw0 (fun _ h9 => h9) rfl (by decide +kernel) rfl rfl (Nat.le_of_ble_eq_true rfl) dX1_hold_2 (fun H locs hP hD hS => ?_)
  rw [q1_rf] at hP hD
  refine lv_aload_n hx hb dX1_hold_5 rfl (lv_at hl 0 rfl) ?_
  refine va_get (D := D) (ci := 1) (v := .int (m_hb M)) (C := RX1) (T := TX1) (N := 14) hx hb hts hin0 hown hK hP 0 rfl rfl 8 (by decide) kw1 (fun _ h9 => h9) rfl dX1_hold_6 ?_
  refine lv_istore_n (lv' := [(2, .int (m_hb M)), (0, .ref (h 0)), (1, .int v9)]) hx hb dX1_hold_9 rfl hl (by decide) rfl (fun ls hl => ?_)
  refine lv_aload_n hx hb dX1_hold_10 rfl (lv_at hl 1 rfl) ?_
  refine lv_iload_n hx hb dX1_hold_11 rfl (lv_at hl 2 rfl) ?_
  refine va_put (D := D) (ci := 1) (v := .int v9) (ty := .boolean) (C := RX1) (T := TX1) (N := 14) hx hb hts hin0 tyX1 tyX1_ok nmX1 hown hK hP hD hS 0 rfl rfl 8 (by decide) kw1 (fun _ h9 => h9) rfl (by decide +kernel) (by rcases hv with rfl | rfl <;> rfl) (by rcases hv with rfl | rfl <;> rfl) (Nat.le_of_ble_eq_true rfl) dX1_hold_12 (fun H locs hP hD hS => ?_)
  obtain ⟨N1, eN1⟩ : ∃ N9 : MM, N9 = s_hb M v9 := ⟨_, rfl⟩
  rw [q1_hb, ← eN1] at hP hD
  have aN1_hb : m_hb N1 = v9 := by rw [eN1]; rfl
  refine lv_iload_n hx hb dX1_hold_15 rfl (lv_at hl 0 rfl) ?_
  subst hQ
  exact W.zret (v := m_hb M) (ty := .boolean) hx hb hr (by rcases hh with z | z <;> rw [z] <;> rfl) (fun t ht hW => ⟨⟨m_hb M, (0, N1), rfl, (by subst eN1; exact ⟨rfl, rfl⟩), by rw [ht]; exact hP, hD⟩, hS.F ht⟩) hS.2.2 dX1_hold_16
