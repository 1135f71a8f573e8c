/-! THE CLASS: lines, work and goods -/
set_option maxHeartbeats 4000000 in
set_option maxRecDepth 100000 in
theorem c0_addLine (l : Launch) (hlt : l.stackTraces = false) (D : va_G) (h : Nat → Nat) (cA : ClassId) (M : MM) (hM : OKM M) (v : Int32) (sz : Nat) : vx_Met l yX0_addLine wsX0_addLine ({ frames := 7, cells := 1, slots := 6, locals := 112 } : Room) (va_Pc [.ref (h 0), .int v] (fun U => pW D [(cA, .int)] (w0 h cA M) sz U ∧ x_En U)) (va_Qi (fun (r : Int32) (u : MM) => o_addLine M v = (0, r, u)) (fun u => qW D (va_A (w0 h cA M) sz) (w0 h cA u)) (va_A (w0 h cA M) sz)) (g_X (fun E : String => (E = E_ia ∧ (o_addLine M v).1 = 1) ∨ (E = E_is ∧ (o_addLine M v).1 = 2))) 1 6 (va_A (w0 h cA M) sz) := by
  refine vx_ofW (cc := cX0_addLine) (maxL := 3) (ret := (some .int)) (by decide) rfl ?_
  intro p e s m args below meth c s₁ B hml htab hv
  obtain ⟨rfl, ⟨hsz, hP, hK, hD0⟩, hE⟩ := hv
  have hx := B.exec
  have hb := B.bytes
  have hr := B.returns
  have hts := atoms_spec (ws := wsX0_addLine) B.pre
  have hown : s.vm.findClass RX0 = some m.cls := findClass_of_methodNamed B.named
  have hlocks := B.notSynchronized
  have kw0 := hts (.constant RX0 47 (10000000)) (by decide +kernel)
  have kw1 := hts (.fieldLink RX0 55 "ProgressBilling" "lineCount" "I") (by decide +kernel)
  have kw2 := hts (.fieldLink RX0 9 "ProgressBilling" "lineValue" "[I") (by decide +kernel)
  have hin0 : ∀ w ∈ u_ws RX0 TX0 15, w ∈ wsX0_addLine := by decide +kernel
  subst hsz
  have hD := hD0.self (sz := s.heap.size)
  generalize hAe : va_A (w0 h cA M) s.heap.size = A at hD ⊢
  have hA : ∀ q : Nat, s.heap.size ≤ q → A q := fun q h => by rw [← hAe]; exact Or.inr h
  have hS : va_S A s.heap s.heap [] := va_S.rf
  have hP : va_P D vwCl (w0 h cA M) s.heap := hP
  obtain ⟨hn1, hn2, hn3, hn4⟩ := id hM
  have hl := lv_entry ([.ref (h 0), .int v]) (n := 3) (Nat.le_of_ble_eq_true rfl)
  rw [lg_entry_eq]
  generalize (lg_sl ([.ref (h 0), .int v]) ++ List.replicate (3 - (lg_sl ([.ref (h 0), .int v])).length) Slot.unset).toArray = ls at hl ⊢
  have hl : lv_has ls 3 [(0, .ref (h 0)), (1, .int v)] := hl
  refine w_abs (fun Q hQ => ?_)
  refine lv_iload_n hx hb dX0_addLine_0 rfl (lv_at hl 1 rfl) ?_
  refine lv_iconst (v := 0) hx hb dX0_addLine_1 (by decide) ?_
  refine lv_ldc hx hb hown kw0 dX0_addLine_2 ?_
  refine g_callv (vx_runS (As := [.int v, .int 0, .int 10000000]) (rest := []) ⟨hx, hb, hml, hown, hts⟩ (c0_requireBetween l hlt v 0 10000000) (va_cwS 3 hts gX0_addLine_X0_requireBetween rfl rfl rfl (by decide +kernel) ⟨Nat.le_of_ble_eq_true rfl, Nat.le_of_ble_eq_true rfl⟩) ⟨pE_fb nil_fb, pE_mk rfl nil_mk hE⟩ rfl rfl hl.1 rfl (lv_room (Nat.le_of_ble_eq_true rfl)) dX0_addLine_4 ⟨Nat.le_of_ble_eq_true rfl, Nat.le_of_ble_eq_true rfl⟩) (fun E ce q9 H1 hpx g1 g2 hce hcv hcl => ?_) (fun q1 => ?_)
  · subst hQ
    exact r_out htab hlocks g1 g2 hce hcv hcl (Or.inl (⟨hpx.1, by first | (simp only [o_addLine]; simp [hpx.2]; done) | (simp [o_addLine, hpx.2]; done)⟩)) (by decide) (by decide)
  · have q1 : inR v 0 10000000 = true := q1
    refine lv_aload_n hx hb dX0_addLine_7 rfl (lv_at hl 0 rfl) ?_
    refine g_callv (vx_runV (As := []) (rest := []) ⟨hx, hb, hml, hown, hts⟩ (c0_requireRoomForLine l hlt D h cA M hM) (cwV 0 hts gX0_addLine_X0_requireRoomForLine rfl rfl rfl (by decide +kernel) ⟨Nat.le_of_ble_eq_true rfl, Nat.le_of_ble_eq_true rfl⟩) ⟨pE_fb pR_fb, va_recv hK hP (ci := 0) (q0 := 0) rfl rfl, pE_mk rfl (pR_mk hP hK) hE⟩ rfl rfl hl.1 rfl (lv_room (Nat.le_of_ble_eq_true rfl)) dX0_addLine_8 ⟨Nat.le_of_ble_eq_true rfl, Nat.le_of_ble_eq_true rfl⟩) (fun E ce q9 H1 hpx g1 g2 hce hcv hcl => ?_) (fun q2 => ?_)
    · subst hQ
      exact r_out htab hlocks g1 g2 hce hcv hcl (Or.inr (⟨hpx.1, by first | (simp only [o_addLine, q1]; simp [hpx.2]; done) | (simp [o_addLine, q1, hpx.2]; done)⟩)) (by decide) (by decide)
    · have q2 : ¬ m_ln M = 16 := q2
      refine lv_aload_n hx hb dX0_addLine_11 rfl (lv_at hl 0 rfl) ?_
      refine va_get (D := D) (ci := 0) (v := .int (nI (m_ln M))) (C := RX0) (T := TX0) (N := 15) hx hb hts hin0 hown hK hP 0 rfl rfl 5 (by decide) kw1 (fun _ h9 => h9) rfl dX0_addLine_12 ?_
      refine lv_istore_n (lv' := [(2, .int (nI (m_ln M))), (0, .ref (h 0)), (1, .int v)]) hx hb dX0_addLine_15 rfl hl (by decide) rfl (fun ls hl => ?_)
      refine lv_aload_n hx hb dX0_addLine_16 rfl (lv_at hl 1 rfl) ?_
      refine va_get (D := D) (ci := 0) (v := .ref (h 1)) (C := RX0) (T := TX0) (N := 15) hx hb hts hin0 hown hK hP 0 rfl rfl 0 (by decide) kw2 (fun _ h9 => h9) rfl dX0_addLine_17 ?_
      refine lv_iload_n hx hb dX0_addLine_20 rfl (lv_at hl 0 rfl) ?_
      refine lv_iload_n hx hb dX0_addLine_21 rfl (lv_at hl 2 rfl) ?_
      refine r_ast (f := m_lv M) (j := (m_ln M)) (v := v) hx hb hK hP hD hS 1 0 rfl rfl (by omega) (by omega) dX0_addLine_22 (fun H locs hP hD hS => ?_)
      have hP : va_P D vwCl (w0 h cA (s_lv M (upd (m_lv M) (m_ln M) v))) H := hP
      have hD : va_D A (w0 h cA (s_lv M (upd (m_lv M) (m_ln M) v))) := hD
      refine lv_aload_n hx hb dX0_addLine_23 rfl (lv_at hl 1 rfl) ?_
      refine lv_iload_n hx hb dX0_addLine_24 rfl (lv_at hl 0 rfl) ?_
      refine lv_iconst (v := 1) hx hb dX0_addLine_25 (by decide) ?_
      refine lv_iadd hx hb dX0_addLine_26 ?_
      refine lv_topi (fun y3 ey3 => ?_)
      obtain rfl : y3 = nI ((m_ln M) + 1) := ey3.trans (nI_1 _)
      refine va_put (D := D) (ci := 0) (v := .int (nI ((m_ln M) + 1))) (ty := .int) (C := RX0) (T := TX0) (N := 15) hx hb hts hin0 tyX0 tyX0_ok nmX0 hown hK hP hD hS 0 rfl rfl 5 (by decide) kw1 (fun _ h9 => h9) rfl (by decide +kernel) rfl rfl (Nat.le_of_ble_eq_true rfl) dX0_addLine_27 (fun H locs hP hD hS => ?_)
      have hP : va_P D vwCl (w0 h cA (s_ln (s_lv M (upd (m_lv M) (m_ln M) v)) ((m_ln M) + 1))) H := hP
      have hD : va_D A (w0 h cA (s_ln (s_lv M (upd (m_lv M) (m_ln M) v)) ((m_ln M) + 1))) := hD
      refine lv_iload_n hx hb dX0_addLine_30 rfl (lv_at hl 0 rfl) ?_
      subst hQ
      refine vx_ret ?_
      refine W.widen (k := 1) (n := 6) (by decide) (by decide) ?_
      exact W.iret (v := nI (m_ln M)) hx hb hr (fun t ht hW => ⟨⟨nI (m_ln M), s_ln (s_lv M (upd (m_lv M) (m_ln M) v)) ((m_ln M) + 1), rfl, (by simp [o_addLine, q1, q2, pk_us]), by rw [ht]; exact hP, hD⟩, hS.F ht⟩) hS.2.2 dX0_addLine_31
set_option maxHeartbeats 4000000 in
set_option maxRecDepth 100000 in
theorem c0_changeValue (l : Launch) (hlt : l.stackTraces = false) (D : va_G) (h : Nat → Nat) (cA : ClassId) (M : MM) (hM : OKM M) (x v : Int32) (sz : Nat) : vx_Met l yX0_changeValue wsX0_changeValue ({ frames := 7, cells := 1, slots := 6, locals := 112 } : Room) (va_Pc [.ref (h 0), .int x, .int v] (fun U => pW D [(cA, .int)] (w0 h cA M) sz U ∧ x_En U)) (va_Qi (fun (r : Int32) (u : MM) => o_changeValue M x v = (0, r, u)) (fun u => qW D (va_A (w0 h cA M) sz) (w0 h cA u)) (va_A (w0 h cA M) sz)) (g_X (fun E : String => (E = E_io ∧ (o_changeValue M x v).1 = 1) ∨ (E = E_ia ∧ (o_changeValue M x v).1 = 2) ∨ (E = E_is ∧ (o_changeValue M x v).1 = 3))) 1 6 (va_A (w0 h cA M) sz) := by
  refine vx_ofW (cc := cX0_changeValue) (maxL := 4) (ret := (some .int)) (by decide) rfl ?_
  intro p e s m args below meth c s₁ B hml htab hv
  obtain ⟨rfl, ⟨hsz, hP, hK, hD0⟩, hE⟩ := hv
  have hx := B.exec
  have hb := B.bytes
  have hr := B.returns
  have hts := atoms_spec (ws := wsX0_changeValue) B.pre
  have hown : s.vm.findClass RX0 = some m.cls := findClass_of_methodNamed B.named
  have hlocks := B.notSynchronized
  have kw0 := hts (.constant RX0 47 (10000000)) (by decide +kernel)
  have kw1 := hts (.fieldLink RX0 13 "ProgressBilling" "lineEarned" "[I") (by decide +kernel)
  have kw2 := hts (.fieldLink RX0 9 "ProgressBilling" "lineValue" "[I") (by decide +kernel)
  have hin0 : ∀ w ∈ u_ws RX0 TX0 15, w ∈ wsX0_changeValue := by decide +kernel
  have ht_is : ∀ w ∈ t_is, w ∈ wsX0_changeValue := by decide +kernel
  subst hsz
  have hD := hD0.self (sz := s.heap.size)
  generalize hAe : va_A (w0 h cA M) s.heap.size = A at hD ⊢
  have hA : ∀ q : Nat, s.heap.size ≤ q → A q := fun q h => by rw [← hAe]; exact Or.inr h
  have hS : va_S A s.heap s.heap [] := va_S.rf
  have hP : va_P D vwCl (w0 h cA M) s.heap := hP
  obtain ⟨hn1, hn2, hn3, hn4⟩ := id hM
  have hl := lv_entry ([.ref (h 0), .int x, .int v]) (n := 4) (Nat.le_of_ble_eq_true rfl)
  rw [lg_entry_eq]
  generalize (lg_sl ([.ref (h 0), .int x, .int v]) ++ List.replicate (4 - (lg_sl ([.ref (h 0), .int x, .int v])).length) Slot.unset).toArray = ls at hl ⊢
  have hl : lv_has ls 4 [(0, .ref (h 0)), (1, .int x), (2, .int v)] := hl
  refine w_abs (fun Q hQ => ?_)
  refine lv_aload_n hx hb dX0_changeValue_0 rfl (lv_at hl 0 rfl) ?_
  refine lv_iload_n hx hb dX0_changeValue_1 rfl (lv_at hl 1 rfl) ?_
  refine g_callv (vx_runV (As := [.int x]) (rest := []) ⟨hx, hb, hml, hown, hts⟩ (c0_requireLine l hlt D h cA M hM x) (cwV 1 hts gX0_changeValue_X0_requireLine rfl rfl rfl (by decide +kernel) ⟨Nat.le_of_ble_eq_true rfl, Nat.le_of_ble_eq_true rfl⟩) ⟨pE_fb pR_fb, va_recv hK hP (ci := 0) (q0 := 0) rfl rfl, pE_mk rfl (pR_mk hP hK) hE⟩ rfl rfl hl.1 rfl (lv_room (Nat.le_of_ble_eq_true rfl)) dX0_changeValue_2 ⟨Nat.le_of_ble_eq_true rfl, Nat.le_of_ble_eq_true rfl⟩) (fun E ce q9 H1 hpx g1 g2 hce hcv hcl => ?_) (fun q1 => ?_)
  · subst hQ
    exact r_out htab hlocks g1 g2 hce hcv hcl (Or.inl (⟨hpx.1, by first | (simp only [o_changeValue]; simp [hpx.2]; done) | (simp [o_changeValue, hpx.2]; done)⟩)) (by decide) (by decide)
  · obtain ⟨j, hj, q1, hix⟩ := q1
    subst q1
    refine lv_iload_n hx hb dX0_changeValue_5 rfl (lv_at hl 2 rfl) ?_
    refine lv_iconst (v := 0) hx hb dX0_changeValue_6 (by decide) ?_
    refine lv_ldc hx hb hown kw0 dX0_changeValue_7 ?_
    refine g_callv (vx_runS (As := [.int v, .int 0, .int 10000000]) (rest := []) ⟨hx, hb, hml, hown, hts⟩ (c0_requireBetween l hlt v 0 10000000) (va_cwS 3 hts gX0_changeValue_X0_requireBetween rfl rfl rfl (by decide +kernel) ⟨Nat.le_of_ble_eq_true rfl, Nat.le_of_ble_eq_true rfl⟩) ⟨pE_fb nil_fb, pE_mk rfl nil_mk hE⟩ rfl rfl hl.1 rfl (lv_room (Nat.le_of_ble_eq_true rfl)) dX0_changeValue_9 ⟨Nat.le_of_ble_eq_true rfl, Nat.le_of_ble_eq_true rfl⟩) (fun E ce q9 H1 hpx g1 g2 hce hcv hcl => ?_) (fun q2 => ?_)
    · subst hQ
      exact r_out htab hlocks g1 g2 hce hcv hcl (Or.inr (Or.inl (⟨hpx.1, by first | (simp only [o_changeValue, hix]; simp [hpx.2]; done) | (simp [o_changeValue, hix, hpx.2]; done)⟩))) (by decide) (by decide)
    · have q2 : inR v 0 10000000 = true := q2
      refine lv_iload_n hx hb dX0_changeValue_12 rfl (lv_at hl 2 rfl) ?_
      refine lv_aload_n hx hb dX0_changeValue_13 rfl (lv_at hl 0 rfl) ?_
      refine va_get (D := D) (ci := 0) (v := .ref (h 2)) (C := RX0) (T := TX0) (N := 15) hx hb hts hin0 hown hK hP 0 rfl rfl 1 (by decide) kw1 (fun _ h9 => h9) rfl dX0_changeValue_14 ?_
      refine lv_iload_n hx hb dX0_changeValue_17 rfl (lv_at hl 1 rfl) ?_
      refine r_ald (f := m_le M) (j := j) hx hb hK hP 2 0 rfl rfl (by omega) (by omega) dX0_changeValue_18 ?_
      refine lv_icmp_ge (tgt := 32) hx hb dX0_changeValue_19 (by decide) (fun c3 => ?_) (fun c3 => ?_)
      · have c3 := Int32.not_lt.mpr c3
        refine lv_iload_n hx hb dX0_changeValue_32 rfl (lv_at hl 2 rfl) ?_
        refine lv_aload_n hx hb dX0_changeValue_33 rfl (lv_at hl 0 rfl) ?_
        refine va_get (D := D) (ci := 0) (v := .ref (h 1)) (C := RX0) (T := TX0) (N := 15) hx hb hts hin0 hown hK hP 0 rfl rfl 0 (by decide) kw2 (fun _ h9 => h9) rfl dX0_changeValue_34 ?_
        refine lv_iload_n hx hb dX0_changeValue_37 rfl (lv_at hl 1 rfl) ?_
        refine r_ald (f := m_lv M) (j := j) hx hb hK hP 1 0 rfl rfl (by omega) (by omega) dX0_changeValue_38 ?_
        refine lv_isub hx hb dX0_changeValue_39 ?_
        refine lv_istore_n (lv' := [(3, .int (v - ((m_lv M) j))), (0, .ref (h 0)), (1, .int (nI j)), (2, .int v)]) hx hb dX0_changeValue_40 rfl hl (by decide) rfl (fun ls hl => ?_)
        refine lv_aload_n hx hb dX0_changeValue_41 rfl (lv_at hl 1 rfl) ?_
        refine va_get (D := D) (ci := 0) (v := .ref (h 1)) (C := RX0) (T := TX0) (N := 15) hx hb hts hin0 hown hK hP 0 rfl rfl 0 (by decide) kw2 (fun _ h9 => h9) rfl dX0_changeValue_42 ?_
        refine lv_iload_n hx hb dX0_changeValue_45 rfl (lv_at hl 2 rfl) ?_
        refine lv_iload_n hx hb dX0_changeValue_46 rfl (lv_at hl 3 rfl) ?_
        refine r_ast (f := m_lv M) (j := j) (v := v) hx hb hK hP hD hS 1 0 rfl rfl (by omega) (by omega) dX0_changeValue_47 (fun H locs hP hD hS => ?_)
        have hP : va_P D vwCl (w0 h cA (s_lv M (upd (m_lv M) j v))) H := hP
        have hD : va_D A (w0 h cA (s_lv M (upd (m_lv M) j v))) := hD
        refine lv_iload_n hx hb dX0_changeValue_48 rfl (lv_at hl 0 rfl) ?_
        subst hQ
        refine vx_ret ?_
        refine W.widen (k := 1) (n := 6) (by decide) (by decide) ?_
        exact W.iret (v := v - ((m_lv M) j)) hx hb hr (fun t ht hW => ⟨⟨v - ((m_lv M) j), s_lv M (upd (m_lv M) j v), rfl, (by simp [o_changeValue, hix, q2, c3, pk_us]), by rw [ht]; exact hP, hD⟩, hS.F ht⟩) hS.2.2 dX0_changeValue_49
      · have c3 := Int32.not_le.mp c3
        subst hQ
        exact r_is (text := "the line has earned more than this value") hx hb hlt hown hts ht_is hE (by decide +kernel) (hl.1.trans hml.symm) dX0_changeValue_22 dX0_changeValue_25 dX0_changeValue_26 dX0_changeValue_28 dX0_changeValue_31 htab ⟨Nat.le_of_ble_eq_true rfl, Nat.le_of_ble_eq_true rfl, Nat.le_of_ble_eq_true rfl, Nat.le_of_ble_eq_true rfl⟩ hlocks (Or.inr (Or.inr (⟨rfl, by simp [o_changeValue, hix, q2, c3]⟩)))
set_option maxHeartbeats 4000000 in
set_option maxRecDepth 100000 in
theorem c0_store (l : Launch) (hlt : l.stackTraces = false) (D : va_G) (h : Nat → Nat) (cA : ClassId) (M : MM) (hM : OKM M) (x c9 : Int32) (sz : Nat) : vx_Met l yX0_store wsX0_store ({ frames := 7, cells := 1, slots := 6, locals := 112 } : Room) (va_Pc [.ref (h 0), .int x, .int c9] (fun U => pW D [(cA, .int)] (w0 h cA M) sz U ∧ x_En U)) (va_Qi (fun (r : Int32) (u : MM) => x_store M x c9 = (0, r, u)) (fun u => qW D (va_A (w0 h cA M) sz) (w0 h cA u)) (va_A (w0 h cA M) sz)) (g_X (fun E : String => (E = E_io ∧ (x_store M x c9).1 = 1) ∨ (E = E_ia ∧ (x_store M x c9).1 = 2) ∨ (E = E_is ∧ (x_store M x c9).1 = 3))) 1 6 (va_A (w0 h cA M) sz) := by
  refine vx_ofW (cc := cX0_store) (maxL := 3) (ret := (some .int)) (by decide) rfl ?_
  intro p e s m args below meth c s₁ B hml htab hv
  obtain ⟨rfl, ⟨hsz, hP, hK, hD0⟩, hE⟩ := hv
  have hx := B.exec
  have hb := B.bytes
  have hr := B.returns
  have hts := atoms_spec (ws := wsX0_store) B.pre
  have hown : s.vm.findClass RX0 = some m.cls := findClass_of_methodNamed B.named
  have hlocks := B.notSynchronized
  have kw0 := hts (.constant RX0 47 (10000000)) (by decide +kernel)
  have kw1 := hts (.fieldLink RX0 13 "ProgressBilling" "lineEarned" "[I") (by decide +kernel)
  have kw2 := hts (.fieldLink RX0 16 "ProgressBilling" "lineWork" "[I") (by decide +kernel)
  have hin0 : ∀ w ∈ u_ws RX0 TX0 15, w ∈ wsX0_store := by decide +kernel
  subst hsz
  have hD := hD0.self (sz := s.heap.size)
  generalize hAe : va_A (w0 h cA M) s.heap.size = A at hD ⊢
  have hA : ∀ q : Nat, s.heap.size ≤ q → A q := fun q h => by rw [← hAe]; exact Or.inr h
  have hS : va_S A s.heap s.heap [] := va_S.rf
  have hP : va_P D vwCl (w0 h cA M) s.heap := hP
  obtain ⟨hn1, hn2, hn3, hn4⟩ := id hM
  have hl := lv_entry ([.ref (h 0), .int x, .int c9]) (n := 3) (Nat.le_of_ble_eq_true rfl)
  rw [lg_entry_eq]
  generalize (lg_sl ([.ref (h 0), .int x, .int c9]) ++ List.replicate (3 - (lg_sl ([.ref (h 0), .int x, .int c9])).length) Slot.unset).toArray = ls at hl ⊢
  have hl : lv_has ls 3 [(0, .ref (h 0)), (1, .int x), (2, .int c9)] := hl
  refine w_abs (fun Q hQ => ?_)
  refine lv_aload_n hx hb dX0_store_0 rfl (lv_at hl 0 rfl) ?_
  refine lv_iload_n hx hb dX0_store_1 rfl (lv_at hl 1 rfl) ?_
  refine g_callv (vx_runV (As := [.int x]) (rest := []) ⟨hx, hb, hml, hown, hts⟩ (c0_requireLine l hlt D h cA M hM x) (cwV 1 hts gX0_store_X0_requireLine rfl rfl rfl (by decide +kernel) ⟨Nat.le_of_ble_eq_true rfl, Nat.le_of_ble_eq_true rfl⟩) ⟨pE_fb pR_fb, va_recv hK hP (ci := 0) (q0 := 0) rfl rfl, pE_mk rfl (pR_mk hP hK) hE⟩ rfl rfl hl.1 rfl (lv_room (Nat.le_of_ble_eq_true rfl)) dX0_store_2 ⟨Nat.le_of_ble_eq_true rfl, Nat.le_of_ble_eq_true rfl⟩) (fun E ce q9 H1 hpx g1 g2 hce hcv hcl => ?_) (fun q1 => ?_)
  · subst hQ
    exact r_out htab hlocks g1 g2 hce hcv hcl (Or.inl (⟨hpx.1, by first | (simp only [x_store]; simp [hpx.2]; done) | (simp [x_store, hpx.2]; done)⟩)) (by decide) (by decide)
  · obtain ⟨j, hj, q1, hix⟩ := q1
    subst q1
    refine lv_iload_n hx hb dX0_store_5 rfl (lv_at hl 2 rfl) ?_
    refine lv_iconst (v := 1) hx hb dX0_store_6 (by decide) ?_
    refine lv_ldc hx hb hown kw0 dX0_store_7 ?_
    refine g_callv (vx_runS (As := [.int c9, .int 1, .int 10000000]) (rest := []) ⟨hx, hb, hml, hown, hts⟩ (c0_requireBetween l hlt c9 1 10000000) (va_cwS 3 hts gX0_store_X0_requireBetween rfl rfl rfl (by decide +kernel) ⟨Nat.le_of_ble_eq_true rfl, Nat.le_of_ble_eq_true rfl⟩) ⟨pE_fb nil_fb, pE_mk rfl nil_mk hE⟩ rfl rfl hl.1 rfl (lv_room (Nat.le_of_ble_eq_true rfl)) dX0_store_9 ⟨Nat.le_of_ble_eq_true rfl, Nat.le_of_ble_eq_true rfl⟩) (fun E ce q9 H1 hpx g1 g2 hce hcv hcl => ?_) (fun q2 => ?_)
    · subst hQ
      exact r_out htab hlocks g1 g2 hce hcv hcl (Or.inr (Or.inl (⟨hpx.1, by first | (simp only [x_store, hix]; simp [hpx.2]; done) | (simp [x_store, hix, hpx.2]; done)⟩))) (by decide) (by decide)
    · have q2 : inR c9 1 10000000 = true := q2
      refine lv_aload_n hx hb dX0_store_12 rfl (lv_at hl 0 rfl) ?_
      refine lv_iload_n hx hb dX0_store_13 rfl (lv_at hl 1 rfl) ?_
      refine lv_iload_n hx hb dX0_store_14 rfl (lv_at hl 2 rfl) ?_
      refine g_callv (vx_runV (As := [.int (nI j), .int c9]) (rest := []) ⟨hx, hb, hml, hown, hts⟩ (c0_requireValueFor l hlt D h cA M hM j hj c9) (cwV 2 hts gX0_store_X0_requireValueFor rfl rfl rfl (by decide +kernel) ⟨Nat.le_of_ble_eq_true rfl, Nat.le_of_ble_eq_true rfl⟩) ⟨pE_fb pR_fb, va_recv hK hP (ci := 0) (q0 := 0) rfl rfl, pE_mk rfl (pR_mk hP hK) hE⟩ rfl rfl hl.1 rfl (lv_room (Nat.le_of_ble_eq_true rfl)) dX0_store_15 ⟨Nat.le_of_ble_eq_true rfl, Nat.le_of_ble_eq_true rfl⟩) (fun E ce q9 H1 hpx g1 g2 hce hcv hcl => ?_) (fun q3 => ?_)
      · subst hQ
        exact r_out htab hlocks g1 g2 hce hcv hcl (Or.inr (Or.inr (⟨hpx.1, by first | (simp only [x_store, hix, q2]; simp [hpx.2]; done) | (simp [x_store, hix, q2, hpx.2]; done)⟩))) (by decide) (by decide)
      · have q3 : ¬ m_lv M j < m_le M j + c9 := q3
        refine lv_aload_n hx hb dX0_store_18 rfl (lv_at hl 0 rfl) ?_
        refine va_get (D := D) (ci := 0) (v := .ref (h 2)) (C := RX0) (T := TX0) (N := 15) hx hb hts hin0 hown hK hP 0 rfl rfl 1 (by decide) kw1 (fun _ h9 => h9) rfl dX0_store_19 ?_
        refine lv_iload_n hx hb dX0_store_22 rfl (lv_at hl 1 rfl) ?_
        refine lv_dup2_11 hx hb dX0_store_23 rfl rfl ?_
        refine r_ald (f := m_le M) (j := j) hx hb hK hP 2 0 rfl rfl (by omega) (by omega) dX0_store_24 ?_
        refine lv_iload_n hx hb dX0_store_25 rfl (lv_at hl 2 rfl) ?_
        refine lv_iadd hx hb dX0_store_26 ?_
        refine r_ast (f := m_le M) (j := j) (v := ((m_le M) j) + c9) hx hb hK hP hD hS 2 0 rfl rfl (by omega) (by omega) dX0_store_27 (fun H locs hP hD hS => ?_)
        have hP : va_P D vwCl (w0 h cA (s_le M (upd (m_le M) j (((m_le M) j) + c9)))) H := hP
        have hD : va_D A (w0 h cA (s_le M (upd (m_le M) j (((m_le M) j) + c9)))) := hD
        refine lv_aload_n hx hb dX0_store_28 rfl (lv_at hl 0 rfl) ?_
        refine va_get (D := D) (ci := 0) (v := .ref (h 2)) (C := RX0) (T := TX0) (N := 15) hx hb hts hin0 hown hK hP 0 rfl rfl 1 (by decide) kw1 (fun _ h9 => h9) rfl dX0_store_29 ?_
        refine lv_iload_n hx hb dX0_store_32 rfl (lv_at hl 1 rfl) ?_
        refine r_ald (f := upd (m_le M) j (((m_le M) j) + c9)) (j := j) hx hb hK hP 2 0 rfl rfl (by omega) (by omega) dX0_store_33 ?_
        refine lv_aload_n hx hb dX0_store_34 rfl (lv_at hl 0 rfl) ?_
        refine va_get (D := D) (ci := 0) (v := .ref (h 3)) (C := RX0) (T := TX0) (N := 15) hx hb hts hin0 hown hK hP 0 rfl rfl 2 (by decide) kw2 (fun _ h9 => h9) rfl dX0_store_35 ?_
        refine lv_iload_n hx hb dX0_store_38 rfl (lv_at hl 1 rfl) ?_
        refine r_ald (f := m_lw M) (j := j) hx hb hK hP 3 0 rfl rfl (by omega) (by omega) dX0_store_39 ?_
        refine lv_isub hx hb dX0_store_40 ?_
        subst hQ
        refine vx_ret ?_
        refine W.widen (k := 1) (n := 6) (by decide) (by decide) ?_
        exact W.iret (v := ((upd (m_le M) j (((m_le M) j) + c9)) j) - ((m_lw M) j)) hx hb hr (fun t ht hW => ⟨⟨((upd (m_le M) j (((m_le M) j) + c9)) j) - ((m_lw M) j), s_le M (upd (m_le M) j (((m_le M) j) + c9)), rfl, (by simp [x_store, hix, q2, q3, pk_us]), by rw [ht]; exact hP, hD⟩, hS.F ht⟩) hS.2.2 dX0_store_41
set_option maxHeartbeats 4000000 in
set_option maxRecDepth 100000 in
theorem c0_place (l : Launch) (hlt : l.stackTraces = false) (D : va_G) (h : Nat → Nat) (cA : ClassId) (M : MM) (hM : OKM M) (x c9 : Int32) (sz : Nat) : vx_Met l yX0_place wsX0_place ({ frames := 7, cells := 1, slots := 6, locals := 112 } : Room) (va_Pc [.ref (h 0), .int x, .int c9] (fun U => pW D [(cA, .int)] (w0 h cA M) sz U ∧ x_En U)) (va_Qi (fun (r : Int32) (u : MM) => o_place M x c9 = (0, r, u)) (fun u => qW D (va_A (w0 h cA M) sz) (w0 h cA u)) (va_A (w0 h cA M) sz)) (g_X (fun E : String => (E = E_io ∧ (o_place M x c9).1 = 1) ∨ (E = E_ia ∧ (o_place M x c9).1 = 2) ∨ (E = E_is ∧ (o_place M x c9).1 = 3))) 1 6 (va_A (w0 h cA M) sz) := by
  refine vx_ofW (cc := cX0_place) (maxL := 3) (ret := (some .int)) (by decide) rfl ?_
  intro p e s m args below meth c s₁ B hml htab hv
  obtain ⟨rfl, ⟨hsz, hP, hK, hD0⟩, hE⟩ := hv
  have hx := B.exec
  have hb := B.bytes
  have hr := B.returns
  have hts := atoms_spec (ws := wsX0_place) B.pre
  have hown : s.vm.findClass RX0 = some m.cls := findClass_of_methodNamed B.named
  have hlocks := B.notSynchronized
  have kw0 := hts (.constant RX0 47 (10000000)) (by decide +kernel)
  have kw1 := hts (.fieldLink RX0 13 "ProgressBilling" "lineEarned" "[I") (by decide +kernel)
  have kw2 := hts (.fieldLink RX0 16 "ProgressBilling" "lineWork" "[I") (by decide +kernel)
  have hin0 : ∀ w ∈ u_ws RX0 TX0 15, w ∈ wsX0_place := by decide +kernel
  have ht_is : ∀ w ∈ t_is, w ∈ wsX0_place := by decide +kernel
  subst hsz
  have hD := hD0.self (sz := s.heap.size)
  generalize hAe : va_A (w0 h cA M) s.heap.size = A at hD ⊢
  have hA : ∀ q : Nat, s.heap.size ≤ q → A q := fun q h => by rw [← hAe]; exact Or.inr h
  have hS : va_S A s.heap s.heap [] := va_S.rf
  have hP : va_P D vwCl (w0 h cA M) s.heap := hP
  obtain ⟨hn1, hn2, hn3, hn4⟩ := id hM
  have hl := lv_entry ([.ref (h 0), .int x, .int c9]) (n := 3) (Nat.le_of_ble_eq_true rfl)
  rw [lg_entry_eq]
  generalize (lg_sl ([.ref (h 0), .int x, .int c9]) ++ List.replicate (3 - (lg_sl ([.ref (h 0), .int x, .int c9])).length) Slot.unset).toArray = ls at hl ⊢
  have hl : lv_has ls 3 [(0, .ref (h 0)), (1, .int x), (2, .int c9)] := hl
  refine w_abs (fun Q hQ => ?_)
  refine lv_aload_n hx hb dX0_place_0 rfl (lv_at hl 0 rfl) ?_
  refine lv_iload_n hx hb dX0_place_1 rfl (lv_at hl 1 rfl) ?_
  refine g_callv (vx_runV (As := [.int x]) (rest := []) ⟨hx, hb, hml, hown, hts⟩ (c0_requireLine l hlt D h cA M hM x) (cwV 1 hts gX0_place_X0_requireLine rfl rfl rfl (by decide +kernel) ⟨Nat.le_of_ble_eq_true rfl, Nat.le_of_ble_eq_true rfl⟩) ⟨pE_fb pR_fb, va_recv hK hP (ci := 0) (q0 := 0) rfl rfl, pE_mk rfl (pR_mk hP hK) hE⟩ rfl rfl hl.1 rfl (lv_room (Nat.le_of_ble_eq_true rfl)) dX0_place_2 ⟨Nat.le_of_ble_eq_true rfl, Nat.le_of_ble_eq_true rfl⟩) (fun E ce q9 H1 hpx g1 g2 hce hcv hcl => ?_) (fun q1 => ?_)
  · subst hQ
    exact r_out htab hlocks g1 g2 hce hcv hcl (Or.inl (⟨hpx.1, by first | (simp only [o_place]; simp [hpx.2]; done) | (simp [o_place, hpx.2]; done)⟩)) (by decide) (by decide)
  · obtain ⟨j, hj, q1, hix⟩ := q1
    subst q1
    refine lv_iload_n hx hb dX0_place_5 rfl (lv_at hl 2 rfl) ?_
    refine lv_iconst (v := 1) hx hb dX0_place_6 (by decide) ?_
    refine lv_ldc hx hb hown kw0 dX0_place_7 ?_
    refine g_callv (vx_runS (As := [.int c9, .int 1, .int 10000000]) (rest := []) ⟨hx, hb, hml, hown, hts⟩ (c0_requireBetween l hlt c9 1 10000000) (va_cwS 3 hts gX0_place_X0_requireBetween rfl rfl rfl (by decide +kernel) ⟨Nat.le_of_ble_eq_true rfl, Nat.le_of_ble_eq_true rfl⟩) ⟨pE_fb nil_fb, pE_mk rfl nil_mk hE⟩ rfl rfl hl.1 rfl (lv_room (Nat.le_of_ble_eq_true rfl)) dX0_place_9 ⟨Nat.le_of_ble_eq_true rfl, Nat.le_of_ble_eq_true rfl⟩) (fun E ce q9 H1 hpx g1 g2 hce hcv hcl => ?_) (fun q2 => ?_)
    · subst hQ
      exact r_out htab hlocks g1 g2 hce hcv hcl (Or.inr (Or.inl (⟨hpx.1, by first | (simp only [o_place, hix]; simp [hpx.2]; done) | (simp [o_place, hix, hpx.2]; done)⟩))) (by decide) (by decide)
    · have q2 : inR c9 1 10000000 = true := q2
      refine lv_iload_n hx hb dX0_place_12 rfl (lv_at hl 2 rfl) ?_
      refine lv_aload_n hx hb dX0_place_13 rfl (lv_at hl 0 rfl) ?_
      refine va_get (D := D) (ci := 0) (v := .ref (h 2)) (C := RX0) (T := TX0) (N := 15) hx hb hts hin0 hown hK hP 0 rfl rfl 1 (by decide) kw1 (fun _ h9 => h9) rfl dX0_place_14 ?_
      refine lv_iload_n hx hb dX0_place_17 rfl (lv_at hl 1 rfl) ?_
      refine r_ald (f := m_le M) (j := j) hx hb hK hP 2 0 rfl rfl (by omega) (by omega) dX0_place_18 ?_
      refine lv_aload_n hx hb dX0_place_19 rfl (lv_at hl 0 rfl) ?_
      refine va_get (D := D) (ci := 0) (v := .ref (h 3)) (C := RX0) (T := TX0) (N := 15) hx hb hts hin0 hown hK hP 0 rfl rfl 2 (by decide) kw2 (fun _ h9 => h9) rfl dX0_place_20 ?_
      refine lv_iload_n hx hb dX0_place_23 rfl (lv_at hl 1 rfl) ?_
      refine r_ald (f := m_lw M) (j := j) hx hb hK hP 3 0 rfl rfl (by omega) (by omega) dX0_place_24 ?_
      refine lv_isub hx hb dX0_place_25 ?_
      refine lv_icmp_le (tgt := 39) hx hb dX0_place_26 (by decide) (fun c3 => ?_) (fun c3 => ?_)
      · have c3 := Int32.not_lt.mpr c3
        refine lv_aload_n hx hb dX0_place_39 rfl (lv_at hl 0 rfl) ?_
        refine va_get (D := D) (ci := 0) (v := .ref (h 3)) (C := RX0) (T := TX0) (N := 15) hx hb hts hin0 hown hK hP 0 rfl rfl 2 (by decide) kw2 (fun _ h9 => h9) rfl dX0_place_40 ?_
        refine lv_iload_n hx hb dX0_place_43 rfl (lv_at hl 1 rfl) ?_
        refine lv_dup2_11 hx hb dX0_place_44 rfl rfl ?_
        refine r_ald (f := m_lw M) (j := j) hx hb hK hP 3 0 rfl rfl (by omega) (by omega) dX0_place_45 ?_
        refine lv_iload_n hx hb dX0_place_46 rfl (lv_at hl 2 rfl) ?_
        refine lv_iadd hx hb dX0_place_47 ?_
        refine r_ast (f := m_lw M) (j := j) (v := ((m_lw M) j) + c9) hx hb hK hP hD hS 3 0 rfl rfl (by omega) (by omega) dX0_place_48 (fun H locs hP hD hS => ?_)
        have hP : va_P D vwCl (w0 h cA (s_lw M (upd (m_lw M) j (((m_lw M) j) + c9)))) H := hP
        have hD : va_D A (w0 h cA (s_lw M (upd (m_lw M) j (((m_lw M) j) + c9)))) := hD
        refine lv_aload_n hx hb dX0_place_49 rfl (lv_at hl 0 rfl) ?_
        refine va_get (D := D) (ci := 0) (v := .ref (h 3)) (C := RX0) (T := TX0) (N := 15) hx hb hts hin0 hown hK hP 0 rfl rfl 2 (by decide) kw2 (fun _ h9 => h9) rfl dX0_place_50 ?_
        refine lv_iload_n hx hb dX0_place_53 rfl (lv_at hl 1 rfl) ?_
        refine r_ald (f := upd (m_lw M) j (((m_lw M) j) + c9)) (j := j) hx hb hK hP 3 0 rfl rfl (by omega) (by omega) dX0_place_54 ?_
        subst hQ
        refine vx_ret ?_
        refine W.widen (k := 1) (n := 6) (by decide) (by decide) ?_
        exact W.iret (v := (upd (m_lw M) j (((m_lw M) j) + c9)) j) hx hb hr (fun t ht hW => ⟨⟨(upd (m_lw M) j (((m_lw M) j) + c9)) j, s_lw M (upd (m_lw M) j (((m_lw M) j) + c9)), rfl, (by simp [o_place, hix, q2, c3, pk_us]), by rw [ht]; exact hP, hD⟩, hS.F ht⟩) hS.2.2 dX0_place_55
      · have c3 := Int32.not_le.mp c3
        subst hQ
        exact r_is (text := "the line has not so many goods") hx hb hlt hown hts ht_is hE (by decide +kernel) (hl.1.trans hml.symm) dX0_place_29 dX0_place_32 dX0_place_33 dX0_place_35 dX0_place_38 htab ⟨Nat.le_of_ble_eq_true rfl, Nat.le_of_ble_eq_true rfl, Nat.le_of_ble_eq_true rfl, Nat.le_of_ble_eq_true rfl⟩ hlocks (Or.inr (Or.inr (⟨rfl, by simp [o_place, hix, q2, c3]⟩)))
set_option maxHeartbeats 4000000 in
set_option maxRecDepth 100000 in
theorem c0_setWork (l : Launch) (hlt : l.stackTraces = false) (D : va_G) (h : Nat → Nat) (cA : ClassId) (M : MM) (hM : OKM M) (x s9 : Int32) (sz : Nat) : vx_Met l yX0_setWork wsX0_setWork ({ frames := 7, cells := 1, slots := 6, locals := 112 } : Room) (va_Pc [.ref (h 0), .int x, .int s9] (fun U => pW D [(cA, .int)] (w0 h cA M) sz U ∧ x_En U)) (va_Qi (fun (r : Int32) (u : MM) => x_setWork M x s9 = (0, r, u)) (fun u => qW D (va_A (w0 h cA M) sz) (w0 h cA u)) (va_A (w0 h cA M) sz)) (g_X (fun E : String => (E = E_io ∧ (x_setWork M x s9).1 = 1) ∨ (E = E_ia ∧ (x_setWork M x s9).1 = 2) ∨ (E = E_is ∧ (x_setWork M x s9).1 = 3))) 1 6 (va_A (w0 h cA M) sz) := by
  refine vx_ofW (cc := cX0_setWork) (maxL := 4) (ret := (some .int)) (by decide) rfl ?_
  intro p e s m args below meth c s₁ B hml htab hv
  obtain ⟨rfl, ⟨hsz, hP, hK, hD0⟩, hE⟩ := hv
  have hx := B.exec
  have hb := B.bytes
  have hr := B.returns
  have hts := atoms_spec (ws := wsX0_setWork) B.pre
  have hown : s.vm.findClass RX0 = some m.cls := findClass_of_methodNamed B.named
  have hlocks := B.notSynchronized
  have kw0 := hts (.fieldLink RX0 9 "ProgressBilling" "lineValue" "[I") (by decide +kernel)
  have kw1 := hts (.fieldLink RX0 16 "ProgressBilling" "lineWork" "[I") (by decide +kernel)
  have kw2 := hts (.fieldLink RX0 13 "ProgressBilling" "lineEarned" "[I") (by decide +kernel)
  have hin0 : ∀ w ∈ u_ws RX0 TX0 15, w ∈ wsX0_setWork := by decide +kernel
  have ht_is : ∀ w ∈ t_is, w ∈ wsX0_setWork := by decide +kernel
  subst hsz
  have hD := hD0.self (sz := s.heap.size)
  generalize hAe : va_A (w0 h cA M) s.heap.size = A at hD ⊢
  have hA : ∀ q : Nat, s.heap.size ≤ q → A q := fun q h => by rw [← hAe]; exact Or.inr h
  have hS : va_S A s.heap s.heap [] := va_S.rf
  have hP : va_P D vwCl (w0 h cA M) s.heap := hP
  obtain ⟨hn1, hn2, hn3, hn4⟩ := id hM
  have hl := lv_entry ([.ref (h 0), .int x, .int s9]) (n := 4) (Nat.le_of_ble_eq_true rfl)
  rw [lg_entry_eq]
  generalize (lg_sl ([.ref (h 0), .int x, .int s9]) ++ List.replicate (4 - (lg_sl ([.ref (h 0), .int x, .int s9])).length) Slot.unset).toArray = ls at hl ⊢
  have hl : lv_has ls 4 [(0, .ref (h 0)), (1, .int x), (2, .int s9)] := hl
  refine w_abs (fun Q hQ => ?_)
  refine lv_aload_n hx hb dX0_setWork_0 rfl (lv_at hl 0 rfl) ?_
  refine lv_iload_n hx hb dX0_setWork_1 rfl (lv_at hl 1 rfl) ?_
  refine g_callv (vx_runV (As := [.int x]) (rest := []) ⟨hx, hb, hml, hown, hts⟩ (c0_requireLine l hlt D h cA M hM x) (cwV 1 hts gX0_setWork_X0_requireLine rfl rfl rfl (by decide +kernel) ⟨Nat.le_of_ble_eq_true rfl, Nat.le_of_ble_eq_true rfl⟩) ⟨pE_fb pR_fb, va_recv hK hP (ci := 0) (q0 := 0) rfl rfl, pE_mk rfl (pR_mk hP hK) hE⟩ rfl rfl hl.1 rfl (lv_room (Nat.le_of_ble_eq_true rfl)) dX0_setWork_2 ⟨Nat.le_of_ble_eq_true rfl, Nat.le_of_ble_eq_true rfl⟩) (fun E ce q9 H1 hpx g1 g2 hce hcv hcl => ?_) (fun q1 => ?_)
  · subst hQ
    exact r_out htab hlocks g1 g2 hce hcv hcl (Or.inl (⟨hpx.1, by first | (simp only [x_setWork]; simp [hpx.2]; done) | (simp [x_setWork, hpx.2]; done)⟩)) (by decide) (by decide)
  · obtain ⟨j, hj, q1, hix⟩ := q1
    subst q1
    refine lv_iload_n hx hb dX0_setWork_5 rfl (lv_at hl 2 rfl) ?_
    refine lv_iconst (v := 0) hx hb dX0_setWork_6 (by decide) ?_
    refine lv_sipush (v := 1000) hx hb dX0_setWork_7 (by decide) ?_
    refine g_callv (vx_runS (As := [.int s9, .int 0, .int 1000]) (rest := []) ⟨hx, hb, hml, hown, hts⟩ (c0_requireBetween l hlt s9 0 1000) (va_cwS 3 hts gX0_setWork_X0_requireBetween rfl rfl rfl (by decide +kernel) ⟨Nat.le_of_ble_eq_true rfl, Nat.le_of_ble_eq_true rfl⟩) ⟨pE_fb nil_fb, pE_mk rfl nil_mk hE⟩ rfl rfl hl.1 rfl (lv_room (Nat.le_of_ble_eq_true rfl)) dX0_setWork_10 ⟨Nat.le_of_ble_eq_true rfl, Nat.le_of_ble_eq_true rfl⟩) (fun E ce q9 H1 hpx g1 g2 hce hcv hcl => ?_) (fun q2 => ?_)
    · subst hQ
      exact r_out htab hlocks g1 g2 hce hcv hcl (Or.inr (Or.inl (⟨hpx.1, by first | (simp only [x_setWork, hix]; simp [hpx.2]; done) | (simp [x_setWork, hix, hpx.2]; done)⟩))) (by decide) (by decide)
    · have q2 : inR s9 0 1000 = true := q2
      refine lv_aload_n hx hb dX0_setWork_13 rfl (lv_at hl 0 rfl) ?_
      refine va_get (D := D) (ci := 0) (v := .ref (h 1)) (C := RX0) (T := TX0) (N := 15) hx hb hts hin0 hown hK hP 0 rfl rfl 0 (by decide) kw0 (fun _ h9 => h9) rfl dX0_setWork_14 ?_
      refine lv_iload_n hx hb dX0_setWork_17 rfl (lv_at hl 1 rfl) ?_
      refine r_ald (f := m_lv M) (j := j) hx hb hK hP 1 0 rfl rfl (by omega) (by omega) dX0_setWork_18 ?_
      refine lv_iload_n hx hb dX0_setWork_19 rfl (lv_at hl 2 rfl) ?_
      refine vp_callSi (W.runS (As := [.int ((m_lv M) j), .int s9]) (rest := []) ⟨hx, hb, hml, hown, hts⟩ (c0_thousandths l ((m_lv M) j) s9) (va_cwS 2 hts gX0_setWork_X0_thousandths rfl rfl rfl (by decide +kernel) ⟨Nat.le_of_ble_eq_true rfl, Nat.le_of_ble_eq_true rfl⟩) ⟨nil_fb, nil_mk⟩ rfl rfl hl.1 rfl (lv_room (Nat.le_of_ble_eq_true rfl)) dX0_setWork_20 ⟨Nat.le_of_ble_eq_true rfl, Nat.le_of_ble_eq_true rfl⟩) (fun r3 qr3 => ?_)
      have qr3 : r3 = x_th ((m_lv M) j) s9 := qr3
      subst qr3
      refine lv_aload_n hx hb dX0_setWork_23 rfl (lv_at hl 0 rfl) ?_
      refine va_get (D := D) (ci := 0) (v := .ref (h 3)) (C := RX0) (T := TX0) (N := 15) hx hb hts hin0 hown hK hP 0 rfl rfl 2 (by decide) kw1 (fun _ h9 => h9) rfl dX0_setWork_24 ?_
      refine lv_iload_n hx hb dX0_setWork_27 rfl (lv_at hl 1 rfl) ?_
      refine r_ald (f := m_lw M) (j := j) hx hb hK hP 3 0 rfl rfl (by omega) (by omega) dX0_setWork_28 ?_
      refine lv_isub hx hb dX0_setWork_29 ?_
      refine lv_istore_n (lv' := [(3, .int ((x_th ((m_lv M) j) s9) - ((m_lw M) j))), (0, .ref (h 0)), (1, .int (nI j)), (2, .int s9)]) hx hb dX0_setWork_30 rfl hl (by decide) rfl (fun ls hl => ?_)
      refine lv_iload_n hx hb dX0_setWork_31 rfl (lv_at hl 0 rfl) ?_
      refine lv_if_ge (tgt := 45) hx hb dX0_setWork_32 (by decide) (fun c4 => ?_) (fun c4 => ?_)
      · have c4 := Int32.not_lt.mpr c4
        refine lv_aload_n hx hb dX0_setWork_45 rfl (lv_at hl 1 rfl) ?_
        refine lv_iload_n hx hb dX0_setWork_46 rfl (lv_at hl 2 rfl) ?_
        refine lv_iload_n hx hb dX0_setWork_47 rfl (lv_at hl 0 rfl) ?_
        refine g_callv (vx_runV (As := [.int (nI j), .int ((x_th ((m_lv M) j) s9) - ((m_lw M) j))]) (rest := []) ⟨hx, hb, hml, hown, hts⟩ (c0_requireValueFor l hlt D h cA M hM j hj ((x_th ((m_lv M) j) s9) - ((m_lw M) j))) (cwV 2 hts gX0_setWork_X0_requireValueFor rfl rfl rfl (by decide +kernel) ⟨Nat.le_of_ble_eq_true rfl, Nat.le_of_ble_eq_true rfl⟩) ⟨pE_fb pR_fb, va_recv hK hP (ci := 0) (q0 := 0) rfl rfl, pE_mk rfl (pR_mk hP hK) hE⟩ rfl rfl hl.1 rfl (lv_room (Nat.le_of_ble_eq_true rfl)) dX0_setWork_48 ⟨Nat.le_of_ble_eq_true rfl, Nat.le_of_ble_eq_true rfl⟩) (fun E ce q9 H1 hpx g1 g2 hce hcv hcl => ?_) (fun q5 => ?_)
        · subst hQ
          exact r_out htab hlocks g1 g2 hce hcv hcl (Or.inr (Or.inr (⟨hpx.1, by first | (simp only [x_setWork, hix, q2, c4]; simp [hpx.2]; done) | (simp [x_setWork, hix, q2, c4, hpx.2]; done)⟩))) (by decide) (by decide)
        · have q5 : ¬ m_lv M j < m_le M j + ((x_th ((m_lv M) j) s9) - ((m_lw M) j)) := q5
          refine lv_aload_n hx hb dX0_setWork_51 rfl (lv_at hl 1 rfl) ?_
          refine va_get (D := D) (ci := 0) (v := .ref (h 3)) (C := RX0) (T := TX0) (N := 15) hx hb hts hin0 hown hK hP 0 rfl rfl 2 (by decide) kw1 (fun _ h9 => h9) rfl dX0_setWork_52 ?_
          refine lv_iload_n hx hb dX0_setWork_55 rfl (lv_at hl 2 rfl) ?_
          refine lv_dup2_11 hx hb dX0_setWork_56 rfl rfl ?_
          refine r_ald (f := m_lw M) (j := j) hx hb hK hP 3 0 rfl rfl (by omega) (by omega) dX0_setWork_57 ?_
          refine lv_iload_n hx hb dX0_setWork_58 rfl (lv_at hl 0 rfl) ?_
          refine lv_iadd hx hb dX0_setWork_59 ?_
          refine r_ast (f := m_lw M) (j := j) (v := ((m_lw M) j) + ((x_th ((m_lv M) j) s9) - ((m_lw M) j))) hx hb hK hP hD hS 3 0 rfl rfl (by omega) (by omega) dX0_setWork_60 (fun H locs hP hD hS => ?_)
          have hP : va_P D vwCl (w0 h cA (s_lw M (upd (m_lw M) j (((m_lw M) j) + ((x_th ((m_lv M) j) s9) - ((m_lw M) j)))))) H := hP
          have hD : va_D A (w0 h cA (s_lw M (upd (m_lw M) j (((m_lw M) j) + ((x_th ((m_lv M) j) s9) - ((m_lw M) j)))))) := hD
          refine lv_aload_n hx hb dX0_setWork_61 rfl (lv_at hl 1 rfl) ?_
          refine va_get (D := D) (ci := 0) (v := .ref (h 2)) (C := RX0) (T := TX0) (N := 15) hx hb hts hin0 hown hK hP 0 rfl rfl 1 (by decide) kw2 (fun _ h9 => h9) rfl dX0_setWork_62 ?_
          refine lv_iload_n hx hb dX0_setWork_65 rfl (lv_at hl 2 rfl) ?_
          refine lv_dup2_11 hx hb dX0_setWork_66 rfl rfl ?_
          refine r_ald (f := m_le M) (j := j) hx hb hK hP 2 0 rfl rfl (by omega) (by omega) dX0_setWork_67 ?_
          refine lv_iload_n hx hb dX0_setWork_68 rfl (lv_at hl 0 rfl) ?_
          refine lv_iadd hx hb dX0_setWork_69 ?_
          refine r_ast (f := m_le M) (j := j) (v := ((m_le M) j) + ((x_th ((m_lv M) j) s9) - ((m_lw M) j))) hx hb hK hP hD hS 2 0 rfl rfl (by omega) (by omega) dX0_setWork_70 (fun H locs hP hD hS => ?_)
          have hP : va_P D vwCl (w0 h cA (s_le (s_lw M (upd (m_lw M) j (((m_lw M) j) + ((x_th ((m_lv M) j) s9) - ((m_lw M) j))))) (upd (m_le M) j (((m_le M) j) + ((x_th ((m_lv M) j) s9) - ((m_lw M) j)))))) H := hP
          have hD : va_D A (w0 h cA (s_le (s_lw M (upd (m_lw M) j (((m_lw M) j) + ((x_th ((m_lv M) j) s9) - ((m_lw M) j))))) (upd (m_le M) j (((m_le M) j) + ((x_th ((m_lv M) j) s9) - ((m_lw M) j)))))) := hD
          refine lv_iload_n hx hb dX0_setWork_71 rfl (lv_at hl 0 rfl) ?_
          subst hQ
          refine vx_ret ?_
          refine W.widen (k := 1) (n := 6) (by decide) (by decide) ?_
          exact W.iret (v := (x_th ((m_lv M) j) s9) - ((m_lw M) j)) hx hb hr (fun t ht hW => ⟨⟨(x_th ((m_lv M) j) s9) - ((m_lw M) j), s_le (s_lw M (upd (m_lw M) j (((m_lw M) j) + ((x_th ((m_lv M) j) s9) - ((m_lw M) j))))) (upd (m_le M) j (((m_le M) j) + ((x_th ((m_lv M) j) s9) - ((m_lw M) j)))), rfl, (by simp [x_setWork, hix, q2, c4, q5, pk_us]), by rw [ht]; exact hP, hD⟩, hS.F ht⟩) hS.2.2 dX0_setWork_72
      · have c4 := Int32.not_le.mp c4
        subst hQ
        exact r_is (text := "the work would become less") hx hb hlt hown hts ht_is hE (by decide +kernel) (hl.1.trans hml.symm) dX0_setWork_35 dX0_setWork_38 dX0_setWork_39 dX0_setWork_41 dX0_setWork_44 htab ⟨Nat.le_of_ble_eq_true rfl, Nat.le_of_ble_eq_true rfl, Nat.le_of_ble_eq_true rfl, Nat.le_of_ble_eq_true rfl⟩ hlocks (Or.inr (Or.inr (⟨rfl, by simp [x_setWork, hix, q2, c4]⟩)))
