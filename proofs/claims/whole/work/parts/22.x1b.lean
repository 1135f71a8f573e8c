/-! THE REFERENCE: lines -/
set_option maxHeartbeats 4000000 in
set_option maxRecDepth 100000 in
theorem c1_addLine (l : Launch) (D : va_G) (h : Nat → Nat) (cA : ClassId) (rf : Int32) (M : MM) (hM : OK1 M) (hZ : ∀ f ∈ [m_le M, m_lw M, m_lb M, m_lh M], ∀ i : Nat, m_ln M ≤ i → f i = 0) (v : Int32) (sz : Nat) : Met l yX1_addLine wsX1_addLine ({ frames := 1, cells := 0, slots := 0, locals := 26 } : Room) (va_Pc [.ref (h 0), .int v] (pW D [(cA, .int)] (w1 h cA rf M) sz)) (va_Qi (fun (r : Int32) (u : Int32 × MM) => y_post (o_addLine M v) r u) (fun u => qW D (va_A (w1 h cA rf M) sz) (w1 h cA u.1 u.2)) (va_A (w1 h cA rf M) sz)) 0 0 (va_A (w1 h cA rf M) sz) := by
  refine Met.ofW (cc := cX1_addLine) (maxL := 2) (ret := (some .int)) (by decide) rfl ?_
  intro p e s m args below meth c s₁ B hml hv
  obtain ⟨rfl, hsz, hP, hK, hD0⟩ := hv
  have hx := B.exec
  have hb := B.bytes
  have hr := B.returns
  have hts := atoms_spec (ws := wsX1_addLine) B.pre
  have hown : s.vm.findClass RX1 = some m.cls := findClass_of_methodNamed B.named
  have hlocks := B.notSynchronized
  have kw0 := hts (.constant RX1 55 (10000000)) (by decide +kernel)
  have kw1 := hts (.fieldLink RX1 44 "ProgressBillingModel" "lines" "I") (by decide +kernel)
  have hin0 : ∀ w ∈ u_ws RX1 TX1 14, w ∈ wsX1_addLine := by decide +kernel
  subst hsz
  have hD := hD0.self (sz := s.heap.size)
  generalize hAe : va_A (w1 h cA rf M) s.heap.size = A at hD ⊢
  have hA : ∀ q : Nat, s.heap.size ≤ q → A q := fun q h => by rw [← hAe]; exact Or.inr h
  have hS : va_S A s.heap s.heap [] := va_S.rf
  have hP : va_P D vwCl (w1 h cA rf M) s.heap := hP
  obtain ⟨hn1, hn4⟩ := id hM
  have hl := lv_entry ([.ref (h 0), .int v]) (n := 2) (Nat.le_of_ble_eq_true rfl)
  rw [lg_entry_eq]
  generalize (lg_sl ([.ref (h 0), .int v]) ++ List.replicate (2 - (lg_sl ([.ref (h 0), .int v])).length) Slot.unset).toArray = ls at hl ⊢
  have hl : lv_has ls 2 [(0, .ref (h 0)), (1, .int v)] := hl
  refine w_abs (fun Q hQ => ?_)
  refine lv_aload_n hx hb dX1_addLine_0 rfl (lv_at hl 0 rfl) ?_
  refine lv_iload_n hx hb dX1_addLine_1 rfl (lv_at hl 1 rfl) ?_
  refine lv_iconst (v := 0) hx hb dX1_addLine_2 (by decide) ?_
  refine lv_ldc hx hb hown kw0 dX1_addLine_3 ?_
  refine vp_callSi (W.runS (As := [.int v, .int 0, .int 10000000]) (rest := [.ref (h 0)]) ⟨hx, hb, hml, hown, hts⟩ (c1_in l v 0 10000000) (va_cwS 3 hts gX1_addLine_X1_in rfl rfl rfl (by decide +kernel) ⟨Nat.le_of_ble_eq_true rfl, Nat.le_of_ble_eq_true rfl⟩) ⟨nil_fb, nil_mk⟩ rfl rfl hl.1 rfl (lv_room (Nat.le_of_ble_eq_true rfl)) dX1_addLine_5 ⟨Nat.le_of_ble_eq_true rfl, Nat.le_of_ble_eq_true rfl⟩) (fun r1 qr1 => ?_)
  rcases bl_c (inR v 0 10000000) with z2 | z2
  · have qr1 : r1 = 1 := by rw [qr1, z2]; rfl
    subst qr1
    refine lv_if_ne (tgt := 15) hx hb dX1_addLine_8 (by decide) (fun c3 => ?_) (fun c3 => ?_)
    · refine lv_aload_n hx hb dX1_addLine_15 rfl (lv_at hl 0 rfl) ?_
      refine va_get (D := D) (ci := 1) (v := .int (nI (m_ln M))) (C := RX1) (T := TX1) (N := 14) hx hb hts hin0 hown hK hP 0 rfl rfl 1 (by decide) kw1 (fun _ h9 => h9) rfl dX1_addLine_16 ?_
      refine lv_bipush (v := 16) hx hb dX1_addLine_19 (by decide) ?_
      refine lv_icmp_ne (tgt := 28) hx hb dX1_addLine_21 (by decide) (fun c4 => ?_) (fun c4 => ?_)
      · have c4 := k_ne (a := (m_ln M)) (b := 16) (by omega) (by omega) c4
        refine lv_iconst (v := 0) hx hb dX1_addLine_28 (by decide) ?_
        refine g_calliS (wf := fun u : Int32 => w1 h cA u M) (va_runV (As := [.int 0]) (rest := []) ⟨hx, hb, hml, hown, hts⟩ (c1_refused l D h cA rf M 0 s.heap.size) (cwV 1 hts gX1_addLine_X1_refused rfl rfl rfl (by decide +kernel) ⟨Nat.le_of_ble_eq_true rfl, Nat.le_of_ble_eq_true rfl⟩) ⟨pW_fb, va_recv hK hP (ci := 1) (q0 := 0) rfl rfl, pW_mk hP hK hD⟩ rfl rfl hl.1 rfl (lv_room (Nat.le_of_ble_eq_true rfl)) dX1_addLine_29 ⟨Nat.le_of_ble_eq_true rfl, Nat.le_of_ble_eq_true rfl⟩) hP hD hS hA (fun r5 ur5 H locs qr5 hP hD hS => ?_)
        obtain ⟨qr5, eur5⟩ := qr5
        have qr5 : r5 = 0 := qr5
        subst qr5
        have eur5 : ur5 = 0 := eur5
        subst eur5
        refine lv_if_eq (tgt := 37) hx hb dX1_addLine_32 (by decide) (fun c6 => ?_) (fun c6 => ?_)
        · refine lv_aload_n hx hb dX1_addLine_37 rfl (lv_at hl 0 rfl) ?_
          refine lv_aload_n hx hb dX1_addLine_38 rfl (lv_at hl 0 rfl) ?_
          refine va_get (D := D) (ci := 1) (v := .int (nI (m_ln M))) (C := RX1) (T := TX1) (N := 14) hx hb hts hin0 hown hK hP 0 rfl rfl 1 (by decide) kw1 (fun _ h9 => h9) rfl dX1_addLine_39 ?_
          refine lv_iload_n hx hb dX1_addLine_42 rfl (lv_at hl 1 rfl) ?_
          refine lv_iconst (v := 0) hx hb dX1_addLine_43 (by decide) ?_
          refine lv_iconst (v := 0) hx hb dX1_addLine_44 (by decide) ?_
          refine lv_iconst (v := 0) hx hb dX1_addLine_45 (by decide) ?_
          refine lv_iconst (v := 0) hx hb dX1_addLine_46 (by decide) ?_
          refine g_callvS (wf := fun u : MM => w1 h cA 0 u) (va_runV (As := [.int (nI (m_ln M)), .int v, .int 0, .int 0, .int 0, .int 0]) (rest := []) ⟨hx, hb, hml, hown, hts⟩ (c1_put l D h cA 0 M (m_ln M) (by omega) v 0 0 0 0 H.size) (cwV 6 hts gX1_addLine_X1_put rfl rfl rfl (by decide +kernel) ⟨Nat.le_of_ble_eq_true rfl, Nat.le_of_ble_eq_true rfl⟩) ⟨pW_fb, va_recv hK hP (ci := 1) (q0 := 0) rfl rfl, pW_mk hP hK hD⟩ rfl rfl hl.1 rfl (lv_room (Nat.le_of_ble_eq_true rfl)) dX1_addLine_47 ⟨Nat.le_of_ble_eq_true rfl, Nat.le_of_ble_eq_true rfl⟩) hP hD hS hA (fun N7 H locs qN7 hP hD hS => ?_)
          have qN7 : N7 = z_put M (m_ln M) v 0 0 0 0 := qN7
          have aN7_lv : m_lv N7 = upd (m_lv M) (m_ln M) v := by rw [qN7]; rfl
          have aN7_le : m_le N7 = upd (m_le M) (m_ln M) 0 := by rw [qN7]; rfl
          have aN7_lw : m_lw N7 = upd (m_lw M) (m_ln M) 0 := by rw [qN7]; rfl
          have aN7_lb : m_lb N7 = upd (m_lb M) (m_ln M) 0 := by rw [qN7]; rfl
          have aN7_lh : m_lh N7 = upd (m_lh M) (m_ln M) 0 := by rw [qN7]; rfl
          have aN7_ln : m_ln N7 = m_ln M := by rw [qN7]; rfl
          have aN7_st : m_st N7 = m_st M := by rw [qN7]; rfl
          have aN7_sr : m_sr N7 = m_sr M := by rw [qN7]; rfl
          have aN7_sn : m_sn N7 = m_sn M := by rw [qN7]; rfl
          have aN7_rt : m_rt N7 = m_rt M := by rw [qN7]; rfl
          have aN7_hb : m_hb N7 = m_hb M := by rw [qN7]; rfl
          have aN7_as : m_as N7 = m_as M := by rw [qN7]; rfl
          have aN7_aa : m_aa N7 = m_aa M := by rw [qN7]; rfl
          have aN7_ab : m_ab N7 = m_ab M := by rw [qN7]; rfl
          have aN7_ah : m_ah N7 = m_ah M := by rw [qN7]; rfl
          have aN7_an : m_an N7 = m_an M := by rw [qN7]; rfl
          refine lv_aload_n hx hb dX1_addLine_50 rfl (lv_at hl 0 rfl) ?_
          refine lv_dup hx hb dX1_addLine_51 rfl ?_
          refine va_get (D := D) (ci := 1) (v := .int (nI (m_ln N7))) (C := RX1) (T := TX1) (N := 14) hx hb hts hin0 hown hK hP 0 rfl rfl 1 (by decide) kw1 (fun _ h9 => h9) rfl dX1_addLine_52 ?_
          refine lv_topi (fun y8 ey8 => ?_)
          rw [aN7_ln] at ey8
          subst ey8
          refine lv_iconst (v := 1) hx hb dX1_addLine_55 (by decide) ?_
          refine lv_iadd hx hb dX1_addLine_56 ?_
          refine lv_topi (fun y9 ey9 => ?_)
          obtain rfl : y9 = nI ((m_ln M) + 1) := ey9.trans (nI_1 _)
          refine va_put (D := D) (ci := 1) (v := .int (nI ((m_ln M) + 1))) (ty := .int) (C := RX1) (T := TX1) (N := 14) hx hb hts hin0 tyX1 tyX1_ok nmX1 hown hK hP hD hS 0 rfl rfl 1 (by decide) kw1 (fun _ h9 => h9) rfl (by decide +kernel) rfl rfl (Nat.le_of_ble_eq_true rfl) dX1_addLine_57 (fun H locs hP hD hS => ?_)
          obtain ⟨N10, eN10⟩ : ∃ N9 : MM, N9 = s_ln N7 ((m_ln M) + 1) := ⟨_, rfl⟩
          rw [q1_ln, ← eN10] at hP hD
          have aN10_lv : m_lv N10 = upd (m_lv M) (m_ln M) v := by rw [eN10]; exact aN7_lv
          have aN10_le : m_le N10 = upd (m_le M) (m_ln M) 0 := by rw [eN10]; exact aN7_le
          have aN10_lw : m_lw N10 = upd (m_lw M) (m_ln M) 0 := by rw [eN10]; exact aN7_lw
          have aN10_lb : m_lb N10 = upd (m_lb M) (m_ln M) 0 := by rw [eN10]; exact aN7_lb
          have aN10_lh : m_lh N10 = upd (m_lh M) (m_ln M) 0 := by rw [eN10]; exact aN7_lh
          have aN10_ln : m_ln N10 = ((m_ln M) + 1) := by rw [eN10]; rfl
          have aN10_st : m_st N10 = m_st M := by rw [eN10]; exact aN7_st
          have aN10_sr : m_sr N10 = m_sr M := by rw [eN10]; exact aN7_sr
          have aN10_sn : m_sn N10 = m_sn M := by rw [eN10]; exact aN7_sn
          have aN10_rt : m_rt N10 = m_rt M := by rw [eN10]; exact aN7_rt
          have aN10_hb : m_hb N10 = m_hb M := by rw [eN10]; exact aN7_hb
          have aN10_as : m_as N10 = m_as M := by rw [eN10]; exact aN7_as
          have aN10_aa : m_aa N10 = m_aa M := by rw [eN10]; exact aN7_aa
          have aN10_ab : m_ab N10 = m_ab M := by rw [eN10]; exact aN7_ab
          have aN10_ah : m_ah N10 = m_ah M := by rw [eN10]; exact aN7_ah
          have aN10_an : m_an N10 = m_an M := by rw [eN10]; exact aN7_an
          refine lv_aload_n hx hb dX1_addLine_60 rfl (lv_at hl 0 rfl) ?_
          refine va_get (D := D) (ci := 1) (v := .int (nI (m_ln N10))) (C := RX1) (T := TX1) (N := 14) hx hb hts hin0 hown hK hP 0 rfl rfl 1 (by decide) kw1 (fun _ h9 => h9) rfl dX1_addLine_61 ?_
          refine lv_topi (fun y11 ey11 => ?_)
          rw [aN10_ln] at ey11
          subst ey11
          refine lv_iconst (v := 1) hx hb dX1_addLine_64 (by decide) ?_
          refine lv_isub hx hb dX1_addLine_65 ?_
          refine lv_topi (fun y12 ey12 => ?_)
          obtain rfl : y12 = nI (m_ln M) := ey12.trans (nI_pred _)
          subst hQ
          exact W.iret (v := nI (m_ln M)) hx hb hr (fun t ht hW => ⟨⟨nI (m_ln M), (0, N10), rfl, (y_pk 0 (by rw [mk_eta N10, aN10_lv, aN10_le, aN10_lw, aN10_lb, aN10_lh, aN10_ln, aN10_st, aN10_sr, aN10_sn, aN10_rt, aN10_hb, aN10_as, aN10_aa, aN10_ab, aN10_ah, aN10_an]; exact o_addLine_1 hZ z2 c4) rfl), by rw [ht]; exact hP, hD⟩, hS.F ht⟩) hS.2.2 dX1_addLine_66
        · exact absurd c6 (by decide)
      · have c4 := k_eq (a := (m_ln M)) (b := 16) (by omega) (by omega) c4
        refine lv_iconst (v := 2) hx hb dX1_addLine_24 (by decide) ?_
        refine lv_goto (tgt := 29) hx hb dX1_addLine_25 (by decide) ?_
        refine g_calliS (wf := fun u : Int32 => w1 h cA u M) (va_runV (As := [.int 2]) (rest := []) ⟨hx, hb, hml, hown, hts⟩ (c1_refused l D h cA rf M 2 s.heap.size) (cwV 1 hts gX1_addLine_X1_refused rfl rfl rfl (by decide +kernel) ⟨Nat.le_of_ble_eq_true rfl, Nat.le_of_ble_eq_true rfl⟩) ⟨pW_fb, va_recv hK hP (ci := 1) (q0 := 0) rfl rfl, pW_mk hP hK hD⟩ rfl rfl hl.1 rfl (lv_room (Nat.le_of_ble_eq_true rfl)) dX1_addLine_29 ⟨Nat.le_of_ble_eq_true rfl, Nat.le_of_ble_eq_true rfl⟩) hP hD hS hA (fun r13 ur13 H locs qr13 hP hD hS => ?_)
        obtain ⟨qr13, eur13⟩ := qr13
        have qr13 : r13 = 1 := qr13
        subst qr13
        have eur13 : ur13 = 2 := eur13
        subst eur13
        refine lv_if_eq (tgt := 37) hx hb dX1_addLine_32 (by decide) (fun c14 => ?_) (fun c14 => ?_)
        · exact absurd c14 (by decide)
        · refine lv_iconst (v := 0) hx hb dX1_addLine_35 (by decide) ?_
          subst hQ
          exact W.iret (v := 0) hx hb hr (fun t ht hW => ⟨⟨0, (2, M), rfl, (y_pk 2 (by first | (simp [o_addLine, z2, c4, pk_us]; done) | (simp only [o_addLine, z2]; simp [c4, pk_us]; done)) rfl), by rw [ht]; exact hP, hD⟩, hS.F ht⟩) hS.2.2 dX1_addLine_36
    · exact absurd c3 (by decide)
  · have qr1 : r1 = 0 := by rw [qr1, z2]; rfl
    subst qr1
    refine lv_if_ne (tgt := 15) hx hb dX1_addLine_8 (by decide) (fun c15 => ?_) (fun c15 => ?_)
    · exact absurd c15 (by decide)
    · refine lv_iconst (v := 1) hx hb dX1_addLine_11 (by decide) ?_
      refine lv_goto (tgt := 29) hx hb dX1_addLine_12 (by decide) ?_
      refine g_calliS (wf := fun u : Int32 => w1 h cA u M) (va_runV (As := [.int 1]) (rest := []) ⟨hx, hb, hml, hown, hts⟩ (c1_refused l D h cA rf M 1 s.heap.size) (cwV 1 hts gX1_addLine_X1_refused rfl rfl rfl (by decide +kernel) ⟨Nat.le_of_ble_eq_true rfl, Nat.le_of_ble_eq_true rfl⟩) ⟨pW_fb, va_recv hK hP (ci := 1) (q0 := 0) rfl rfl, pW_mk hP hK hD⟩ rfl rfl hl.1 rfl (lv_room (Nat.le_of_ble_eq_true rfl)) dX1_addLine_29 ⟨Nat.le_of_ble_eq_true rfl, Nat.le_of_ble_eq_true rfl⟩) hP hD hS hA (fun r16 ur16 H locs qr16 hP hD hS => ?_)
      obtain ⟨qr16, eur16⟩ := qr16
      have qr16 : r16 = 1 := qr16
      subst qr16
      have eur16 : ur16 = 1 := eur16
      subst eur16
      refine lv_if_eq (tgt := 37) hx hb dX1_addLine_32 (by decide) (fun c17 => ?_) (fun c17 => ?_)
      · exact absurd c17 (by decide)
      · refine lv_iconst (v := 0) hx hb dX1_addLine_35 (by decide) ?_
        subst hQ
        exact W.iret (v := 0) hx hb hr (fun t ht hW => ⟨⟨0, (1, M), rfl, (y_pk 1 (by simp [o_addLine, z2, pk_us]) rfl), by rw [ht]; exact hP, hD⟩, hS.F ht⟩) hS.2.2 dX1_addLine_36
set_option maxHeartbeats 4000000 in
set_option maxRecDepth 100000 in
theorem c1_changeValue (l : Launch) (D : va_G) (h : Nat → Nat) (cA : ClassId) (rf : Int32) (M : MM) (hM : OK1 M) (x v : Int32) (sz : Nat) : Met l yX1_changeValue wsX1_changeValue ({ frames := 2, cells := 0, slots := 0, locals := 43 } : Room) (va_Pc [.ref (h 0), .int x, .int v] (pW D [(cA, .int)] (w1 h cA rf M) sz)) (va_Qi (fun (r : Int32) (u : Int32 × MM) => y_post (o_changeValue M x v) r u) (fun u => qW D (va_A (w1 h cA rf M) sz) (w1 h cA u.1 u.2)) (va_A (w1 h cA rf M) sz)) 0 0 (va_A (w1 h cA rf M) sz) := by
  refine Met.ofW (cc := cX1_changeValue) (maxL := 4) (ret := (some .int)) (by decide) rfl ?_
  intro p e s m args below meth c s₁ B hml hv
  obtain ⟨rfl, hsz, hP, hK, hD0⟩ := hv
  have hx := B.exec
  have hb := B.bytes
  have hr := B.returns
  have hts := atoms_spec (ws := wsX1_changeValue) B.pre
  have hown : s.vm.findClass RX1 = some m.cls := findClass_of_methodNamed B.named
  have hlocks := B.notSynchronized
  have kw0 := hts (.constant RX1 55 (10000000)) (by decide +kernel)
  have kw1 := hts (.fieldLink RX1 13 "ProgressBillingModel" "earned" "[I") (by decide +kernel)
  have kw2 := hts (.fieldLink RX1 7 "ProgressBillingModel" "values" "[I") (by decide +kernel)
  have hin0 : ∀ w ∈ u_ws RX1 TX1 14, w ∈ wsX1_changeValue := by decide +kernel
  subst hsz
  have hD := hD0.self (sz := s.heap.size)
  generalize hAe : va_A (w1 h cA rf M) s.heap.size = A at hD ⊢
  have hA : ∀ q : Nat, s.heap.size ≤ q → A q := fun q h => by rw [← hAe]; exact Or.inr h
  have hS : va_S A s.heap s.heap [] := va_S.rf
  have hP : va_P D vwCl (w1 h cA rf M) s.heap := hP
  obtain ⟨hn1, hn4⟩ := id hM
  have hl := lv_entry ([.ref (h 0), .int x, .int v]) (n := 4) (Nat.le_of_ble_eq_true rfl)
  rw [lg_entry_eq]
  generalize (lg_sl ([.ref (h 0), .int x, .int v]) ++ List.replicate (4 - (lg_sl ([.ref (h 0), .int x, .int v])).length) Slot.unset).toArray = ls at hl ⊢
  have hl : lv_has ls 4 [(0, .ref (h 0)), (1, .int x), (2, .int v)] := hl
  refine w_abs (fun Q hQ => ?_)
  refine lv_aload_n hx hb dX1_changeValue_0 rfl (lv_at hl 0 rfl) ?_
  refine lv_aload_n hx hb dX1_changeValue_1 rfl (lv_at hl 0 rfl) ?_
  refine lv_iload_n hx hb dX1_changeValue_2 rfl (lv_at hl 1 rfl) ?_
  refine vp_callSi (W.runV (As := [.int x]) (rest := [.ref (h 0)]) ⟨hx, hb, hml, hown, hts⟩ (c1_isLine l D h cA rf M hM x) (cwV 1 hts gX1_changeValue_X1_isLine rfl rfl rfl (by decide +kernel) ⟨Nat.le_of_ble_eq_true rfl, Nat.le_of_ble_eq_true rfl⟩) ⟨pR_fb, va_recv hK hP (ci := 1) (q0 := 0) rfl rfl, pR_mk hP hK⟩ rfl rfl hl.1 rfl (lv_room (Nat.le_of_ble_eq_true rfl)) dX1_changeValue_3 ⟨Nat.le_of_ble_eq_true rfl, Nat.le_of_ble_eq_true rfl⟩) (fun r1 qr1 => ?_)
  rcases ixL_c (n := m_ln M) (x := x) (by omega) with hix | ⟨j, hj, ex, hix⟩
  · have qr1 : r1 = 0 := by rw [qr1, hix]; rfl
    subst qr1
    refine lv_if_ne (tgt := 13) hx hb dX1_changeValue_6 (by decide) (fun c2 => ?_) (fun c2 => ?_)
    · exact absurd c2 (by decide)
    · refine lv_iconst (v := 1) hx hb dX1_changeValue_9 (by decide) ?_
      refine lv_goto (tgt := 42) hx hb dX1_changeValue_10 (by decide) ?_
      refine g_calliS (wf := fun u : Int32 => w1 h cA u M) (va_runV (As := [.int 1]) (rest := []) ⟨hx, hb, hml, hown, hts⟩ (c1_refused l D h cA rf M 1 s.heap.size) (cwV 1 hts gX1_changeValue_X1_refused rfl rfl rfl (by decide +kernel) ⟨Nat.le_of_ble_eq_true rfl, Nat.le_of_ble_eq_true rfl⟩) ⟨pW_fb, va_recv hK hP (ci := 1) (q0 := 0) rfl rfl, pW_mk hP hK hD⟩ rfl rfl hl.1 rfl (lv_room (Nat.le_of_ble_eq_true rfl)) dX1_changeValue_42 ⟨Nat.le_of_ble_eq_true rfl, Nat.le_of_ble_eq_true rfl⟩) hP hD hS hA (fun r3 ur3 H locs qr3 hP hD hS => ?_)
      obtain ⟨qr3, eur3⟩ := qr3
      have qr3 : r3 = 1 := qr3
      subst qr3
      have eur3 : ur3 = 1 := eur3
      subst eur3
      refine lv_if_eq (tgt := 50) hx hb dX1_changeValue_45 (by decide) (fun c4 => ?_) (fun c4 => ?_)
      · exact absurd c4 (by decide)
      · refine lv_iconst (v := 0) hx hb dX1_changeValue_48 (by decide) ?_
        subst hQ
        exact W.iret (v := 0) hx hb hr (fun t ht hW => ⟨⟨0, (1, M), rfl, (y_pk 1 (by simp [o_changeValue, hix, pk_us]) rfl), by rw [ht]; exact hP, hD⟩, hS.F ht⟩) hS.2.2 dX1_changeValue_49
  · have qr1 : r1 = 1 := by rw [qr1, hix]; rfl
    subst qr1
    subst ex
    refine lv_if_ne (tgt := 13) hx hb dX1_changeValue_6 (by decide) (fun c5 => ?_) (fun c5 => ?_)
    · refine lv_iload_n hx hb dX1_changeValue_13 rfl (lv_at hl 2 rfl) ?_
      refine lv_iconst (v := 0) hx hb dX1_changeValue_14 (by decide) ?_
      refine lv_ldc hx hb hown kw0 dX1_changeValue_15 ?_
      refine vp_callSi (W.runS (As := [.int v, .int 0, .int 10000000]) (rest := [.ref (h 0)]) ⟨hx, hb, hml, hown, hts⟩ (c1_in l v 0 10000000) (va_cwS 3 hts gX1_changeValue_X1_in rfl rfl rfl (by decide +kernel) ⟨Nat.le_of_ble_eq_true rfl, Nat.le_of_ble_eq_true rfl⟩) ⟨nil_fb, nil_mk⟩ rfl rfl hl.1 rfl (lv_room (Nat.le_of_ble_eq_true rfl)) dX1_changeValue_17 ⟨Nat.le_of_ble_eq_true rfl, Nat.le_of_ble_eq_true rfl⟩) (fun r6 qr6 => ?_)
      rcases bl_c (inR v 0 10000000) with z7 | z7
      · have qr6 : r6 = 1 := by rw [qr6, z7]; rfl
        subst qr6
        refine lv_if_ne (tgt := 27) hx hb dX1_changeValue_20 (by decide) (fun c8 => ?_) (fun c8 => ?_)
        · refine lv_iload_n hx hb dX1_changeValue_27 rfl (lv_at hl 2 rfl) ?_
          refine lv_aload_n hx hb dX1_changeValue_28 rfl (lv_at hl 0 rfl) ?_
          refine va_get (D := D) (ci := 1) (v := .ref (h 2)) (C := RX1) (T := TX1) (N := 14) hx hb hts hin0 hown hK hP 0 rfl rfl 3 (by decide) kw1 (fun _ h9 => h9) rfl dX1_changeValue_29 ?_
          refine lv_iload_n hx hb dX1_changeValue_32 rfl (lv_at hl 1 rfl) ?_
          refine r_ald (f := m_le M) (j := j) hx hb hK hP 2 0 rfl rfl (by omega) (by omega) dX1_changeValue_33 ?_
          refine lv_icmp_ge (tgt := 41) hx hb dX1_changeValue_34 (by decide) (fun c9 => ?_) (fun c9 => ?_)
          · have c9 := Int32.not_lt.mpr c9
            refine lv_iconst (v := 0) hx hb dX1_changeValue_41 (by decide) ?_
            refine g_calliS (wf := fun u : Int32 => w1 h cA u M) (va_runV (As := [.int 0]) (rest := []) ⟨hx, hb, hml, hown, hts⟩ (c1_refused l D h cA rf M 0 s.heap.size) (cwV 1 hts gX1_changeValue_X1_refused rfl rfl rfl (by decide +kernel) ⟨Nat.le_of_ble_eq_true rfl, Nat.le_of_ble_eq_true rfl⟩) ⟨pW_fb, va_recv hK hP (ci := 1) (q0 := 0) rfl rfl, pW_mk hP hK hD⟩ rfl rfl hl.1 rfl (lv_room (Nat.le_of_ble_eq_true rfl)) dX1_changeValue_42 ⟨Nat.le_of_ble_eq_true rfl, Nat.le_of_ble_eq_true rfl⟩) hP hD hS hA (fun r10 ur10 H locs qr10 hP hD hS => ?_)
            obtain ⟨qr10, eur10⟩ := qr10
            have qr10 : r10 = 0 := qr10
            subst qr10
            have eur10 : ur10 = 0 := eur10
            subst eur10
            refine lv_if_eq (tgt := 50) hx hb dX1_changeValue_45 (by decide) (fun c11 => ?_) (fun c11 => ?_)
            · refine lv_aload_n hx hb dX1_changeValue_50 rfl (lv_at hl 0 rfl) ?_
              refine va_get (D := D) (ci := 1) (v := .ref (h 1)) (C := RX1) (T := TX1) (N := 14) hx hb hts hin0 hown hK hP 0 rfl rfl 2 (by decide) kw2 (fun _ h9 => h9) rfl dX1_changeValue_51 ?_
              refine lv_iload_n hx hb dX1_changeValue_54 rfl (lv_at hl 1 rfl) ?_
              refine r_ald (f := m_lv M) (j := j) hx hb hK hP 1 0 rfl rfl (by omega) (by omega) dX1_changeValue_55 ?_
              refine lv_istore_n (lv' := [(3, .int ((m_lv M) j)), (0, .ref (h 0)), (1, .int (nI j)), (2, .int v)]) hx hb dX1_changeValue_56 rfl hl (by decide) rfl (fun ls hl => ?_)
              refine lv_aload_n hx hb dX1_changeValue_57 rfl (lv_at hl 1 rfl) ?_
              refine va_get (D := D) (ci := 1) (v := .ref (h 1)) (C := RX1) (T := TX1) (N := 14) hx hb hts hin0 hown hK hP 0 rfl rfl 2 (by decide) kw2 (fun _ h9 => h9) rfl dX1_changeValue_58 ?_
              refine lv_iload_n hx hb dX1_changeValue_61 rfl (lv_at hl 2 rfl) ?_
              refine lv_iload_n hx hb dX1_changeValue_62 rfl (lv_at hl 3 rfl) ?_
              refine r_ast (f := m_lv M) (j := j) (v := v) hx hb hK hP hD hS 1 0 rfl rfl (by omega) (by omega) dX1_changeValue_63 (fun H locs hP hD hS => ?_)
              obtain ⟨N12, eN12⟩ : ∃ N9 : MM, N9 = s_lv M (upd (m_lv M) j v) := ⟨_, rfl⟩
              rw [q1_lv, ← eN12] at hP hD
              have aN12_le : m_le N12 = m_le M := by rw [eN12]; rfl
              have aN12_lv : m_lv N12 = upd (m_lv M) j v := by rw [eN12]; rfl
              refine lv_iload_n hx hb dX1_changeValue_64 rfl (lv_at hl 3 rfl) ?_
              refine lv_iload_n hx hb dX1_changeValue_65 rfl (lv_at hl 0 rfl) ?_
              refine lv_isub hx hb dX1_changeValue_66 ?_
              subst hQ
              exact W.iret (v := v - ((m_lv M) j)) hx hb hr (fun t ht hW => ⟨⟨v - ((m_lv M) j), (0, N12), rfl, (by subst eN12; exact (y_pk 0 (by first | (simp [o_changeValue, hix, z7, c9, pk_us]; done) | (simp only [o_changeValue, hix, z7]; simp [c9, pk_us]; done)) rfl)), by rw [ht]; exact hP, hD⟩, hS.F ht⟩) hS.2.2 dX1_changeValue_67
            · exact absurd c11 (by decide)
          · have c9 := Int32.not_le.mp c9
            refine lv_iconst (v := 3) hx hb dX1_changeValue_37 (by decide) ?_
            refine lv_goto (tgt := 42) hx hb dX1_changeValue_38 (by decide) ?_
            refine g_calliS (wf := fun u : Int32 => w1 h cA u M) (va_runV (As := [.int 3]) (rest := []) ⟨hx, hb, hml, hown, hts⟩ (c1_refused l D h cA rf M 3 s.heap.size) (cwV 1 hts gX1_changeValue_X1_refused rfl rfl rfl (by decide +kernel) ⟨Nat.le_of_ble_eq_true rfl, Nat.le_of_ble_eq_true rfl⟩) ⟨pW_fb, va_recv hK hP (ci := 1) (q0 := 0) rfl rfl, pW_mk hP hK hD⟩ rfl rfl hl.1 rfl (lv_room (Nat.le_of_ble_eq_true rfl)) dX1_changeValue_42 ⟨Nat.le_of_ble_eq_true rfl, Nat.le_of_ble_eq_true rfl⟩) hP hD hS hA (fun r13 ur13 H locs qr13 hP hD hS => ?_)
            obtain ⟨qr13, eur13⟩ := qr13
            have qr13 : r13 = 1 := qr13
            subst qr13
            have eur13 : ur13 = 3 := eur13
            subst eur13
            refine lv_if_eq (tgt := 50) hx hb dX1_changeValue_45 (by decide) (fun c14 => ?_) (fun c14 => ?_)
            · exact absurd c14 (by decide)
            · refine lv_iconst (v := 0) hx hb dX1_changeValue_48 (by decide) ?_
              subst hQ
              exact W.iret (v := 0) hx hb hr (fun t ht hW => ⟨⟨0, (3, M), rfl, (y_pk 3 (by first | (simp [o_changeValue, hix, z7, c9, pk_us]; done) | (simp only [o_changeValue, hix, z7]; simp [c9, pk_us]; done)) rfl), by rw [ht]; exact hP, hD⟩, hS.F ht⟩) hS.2.2 dX1_changeValue_49
        · exact absurd c8 (by decide)
      · have qr6 : r6 = 0 := by rw [qr6, z7]; rfl
        subst qr6
        refine lv_if_ne (tgt := 27) hx hb dX1_changeValue_20 (by decide) (fun c15 => ?_) (fun c15 => ?_)
        · exact absurd c15 (by decide)
        · refine lv_iconst (v := 2) hx hb dX1_changeValue_23 (by decide) ?_
          refine lv_goto (tgt := 42) hx hb dX1_changeValue_24 (by decide) ?_
          refine g_calliS (wf := fun u : Int32 => w1 h cA u M) (va_runV (As := [.int 2]) (rest := []) ⟨hx, hb, hml, hown, hts⟩ (c1_refused l D h cA rf M 2 s.heap.size) (cwV 1 hts gX1_changeValue_X1_refused rfl rfl rfl (by decide +kernel) ⟨Nat.le_of_ble_eq_true rfl, Nat.le_of_ble_eq_true rfl⟩) ⟨pW_fb, va_recv hK hP (ci := 1) (q0 := 0) rfl rfl, pW_mk hP hK hD⟩ rfl rfl hl.1 rfl (lv_room (Nat.le_of_ble_eq_true rfl)) dX1_changeValue_42 ⟨Nat.le_of_ble_eq_true rfl, Nat.le_of_ble_eq_true rfl⟩) hP hD hS hA (fun r16 ur16 H locs qr16 hP hD hS => ?_)
          obtain ⟨qr16, eur16⟩ := qr16
          have qr16 : r16 = 1 := qr16
          subst qr16
          have eur16 : ur16 = 2 := eur16
          subst eur16
          refine lv_if_eq (tgt := 50) hx hb dX1_changeValue_45 (by decide) (fun c17 => ?_) (fun c17 => ?_)
          · exact absurd c17 (by decide)
          · refine lv_iconst (v := 0) hx hb dX1_changeValue_48 (by decide) ?_
            subst hQ
            exact W.iret (v := 0) hx hb hr (fun t ht hW => ⟨⟨0, (2, M), rfl, (y_pk 2 (by first | (simp [o_changeValue, hix, z7, pk_us]; done) | (simp only [o_changeValue, hix]; simp [z7, pk_us]; done)) rfl), by rw [ht]; exact hP, hD⟩, hS.F ht⟩) hS.2.2 dX1_changeValue_49
    · exact absurd c5 (by decide)
