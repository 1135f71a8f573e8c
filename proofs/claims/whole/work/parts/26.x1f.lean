/-! THE REFERENCE: closings and shares -/
set_option maxHeartbeats 4000000 in
set_option maxRecDepth 100000 in
theorem c1_close (l : Launch) (D : va_G) (h : Nat → Nat) (cA : ClassId) (rf : Int32) (M : MM) (hM : RTM M) (sz : Nat) : Met l yX1_close wsX1_close ({ frames := 5, cells := 0, slots := 0, locals := 108 } : Room) (va_Pc [.ref (h 0)] (pW D [(cA, .int)] (w1 h cA rf M) sz)) (va_Qi (fun (r : Int32) (u : Int32 × MM) => y_post (y_close M) r u) (fun u => qW D (va_A (w1 h cA rf M) sz) (w1 h cA u.1 u.2)) (va_A (w1 h cA rf M) sz)) 0 0 (va_A (w1 h cA rf M) sz) := by
  refine Met.ofW (cc := cX1_close) (maxL := 2) (ret := (some .int)) (by decide) rfl ?_
  intro p e s m args below meth c s₁ B hml hv
  obtain ⟨rfl, hsz, hP, hK, hD0⟩ := hv
  have hx := B.exec
  have hb := B.bytes
  have hr := B.returns
  have hts := atoms_spec (ws := wsX1_close) B.pre
  have hown : s.vm.findClass RX1 = some m.cls := findClass_of_methodNamed B.named
  have hlocks := B.notSynchronized
  have kw0 := hts (.fieldLink RX1 44 "ProgressBillingModel" "lines" "I") (by decide +kernel)
  have kw1 := hts (.fieldLink RX1 100 "ProgressBillingModel" "applications" "I") (by decide +kernel)
  have kw2 := hts (.fieldLink RX1 31 "ProgressBillingModel" "amounts" "[I") (by decide +kernel)
  have kw3 := hts (.fieldLink RX1 28 "ProgressBillingModel" "states" "[I") (by decide +kernel)
  have kw4 := hts (.fieldLink RX1 34 "ProgressBillingModel" "billedThen" "[I") (by decide +kernel)
  have kw5 := hts (.fieldLink RX1 19 "ProgressBillingModel" "billed" "[I") (by decide +kernel)
  have kw6 := hts (.fieldLink RX1 37 "ProgressBillingModel" "heldThen" "[I") (by decide +kernel)
  have kw7 := hts (.fieldLink RX1 22 "ProgressBillingModel" "held" "[I") (by decide +kernel)
  have kw8 := hts (.fieldLink RX1 13 "ProgressBillingModel" "earned" "[I") (by decide +kernel)
  have hin0 : ∀ w ∈ u_ws RX1 TX1 14, w ∈ wsX1_close := by decide +kernel
  subst hsz
  have hD := hD0.self (sz := s.heap.size)
  generalize hAe : va_A (w1 h cA rf M) s.heap.size = A at hD ⊢
  have hA : ∀ q : Nat, s.heap.size ≤ q → A q := fun q h => by rw [← hAe]; exact Or.inr h
  have hS : va_S A s.heap s.heap [] := va_S.rf
  have hP : va_P D vwCl (w1 h cA rf M) s.heap := hP
  obtain ⟨hn1, hn4, ⟨k0, hk0, ek0⟩, hr0⟩ := id hM
  have hl := lv_entry ([.ref (h 0)]) (n := 2) (Nat.le_of_ble_eq_true rfl)
  rw [lg_entry_eq]
  generalize (lg_sl ([.ref (h 0)]) ++ List.replicate (2 - (lg_sl ([.ref (h 0)])).length) Slot.unset).toArray = ls at hl ⊢
  have hl : lv_has ls 2 [(0, .ref (h 0))] := hl
  refine w_abs (fun Q hQ => ?_)
  refine lv_aload_n hx hb dX1_close_0 rfl (lv_at hl 0 rfl) ?_
  refine lv_aload_n hx hb dX1_close_1 rfl (lv_at hl 0 rfl) ?_
  refine va_get (D := D) (ci := 1) (v := .int (nI (m_ln M))) (C := RX1) (T := TX1) (N := 14) hx hb hts hin0 hown hK hP 0 rfl rfl 1 (by decide) kw0 (fun _ h9 => h9) rfl dX1_close_2 ?_
  refine lv_if_eq (tgt := 17) hx hb dX1_close_5 (by decide) (fun c1 => ?_) (fun c1 => ?_)
  · have c1 := k_eq (a := (m_ln M)) (b := 0) (by omega) (by omega) c1
    refine lv_iconst (v := 1) hx hb dX1_close_17 (by decide) ?_
    refine lv_goto (tgt := 22) hx hb dX1_close_18 (by decide) ?_
    refine g_calliS (wf := fun u : Int32 => w1 h cA u M) (va_runV (As := [.int 1]) (rest := []) ⟨hx, hb, hml, hown, hts⟩ (c1_refused l D h cA rf M 1 s.heap.size) (cwV 1 hts gX1_close_X1_refused rfl rfl rfl (by decide +kernel) ⟨Nat.le_of_ble_eq_true rfl, Nat.le_of_ble_eq_true rfl⟩) ⟨pW_fb, va_recv hK hP (ci := 1) (q0 := 0) rfl rfl, pW_mk hP hK hD⟩ rfl rfl hl.1 rfl (lv_room (Nat.le_of_ble_eq_true rfl)) dX1_close_22 ⟨Nat.le_of_ble_eq_true rfl, Nat.le_of_ble_eq_true rfl⟩) hP hD hS hA (fun r2 ur2 H locs qr2 hP hD hS => ?_)
    obtain ⟨qr2, eur2⟩ := qr2
    have qr2 : r2 = 1 := qr2
    subst qr2
    have eur2 : ur2 = 1 := eur2
    subst eur2
    refine lv_if_eq (tgt := 30) hx hb dX1_close_25 (by decide) (fun c3 => ?_) (fun c3 => ?_)
    · exact absurd c3 (by decide)
    · refine lv_iconst (v := 0) hx hb dX1_close_28 (by decide) ?_
      subst hQ
      exact W.iret (v := 0) hx hb hr (fun t ht hW => ⟨⟨0, (1, M), rfl, (y_pk 1 (by unfold y_close; rw [if_pos c1]) rfl), by rw [ht]; exact hP, hD⟩, hS.F ht⟩) hS.2.2 dX1_close_29
  · have c1 := k_ne (a := (m_ln M)) (b := 0) (by omega) (by omega) c1
    refine lv_aload_n hx hb dX1_close_8 rfl (lv_at hl 0 rfl) ?_
    refine va_get (D := D) (ci := 1) (v := .int (nI (m_an M))) (C := RX1) (T := TX1) (N := 14) hx hb hts hin0 hown hK hP 0 rfl rfl 9 (by decide) kw1 (fun _ h9 => h9) rfl dX1_close_9 ?_
    refine lv_bipush (v := 60) hx hb dX1_close_12 (by decide) ?_
    refine lv_icmp_ne (tgt := 21) hx hb dX1_close_14 (by decide) (fun c4 => ?_) (fun c4 => ?_)
    · have c4 := k_ne (a := (m_an M)) (b := 60) (by omega) (by omega) c4
      refine lv_iconst (v := 0) hx hb dX1_close_21 (by decide) ?_
      refine g_calliS (wf := fun u : Int32 => w1 h cA u M) (va_runV (As := [.int 0]) (rest := []) ⟨hx, hb, hml, hown, hts⟩ (c1_refused l D h cA rf M 0 s.heap.size) (cwV 1 hts gX1_close_X1_refused rfl rfl rfl (by decide +kernel) ⟨Nat.le_of_ble_eq_true rfl, Nat.le_of_ble_eq_true rfl⟩) ⟨pW_fb, va_recv hK hP (ci := 1) (q0 := 0) rfl rfl, pW_mk hP hK hD⟩ rfl rfl hl.1 rfl (lv_room (Nat.le_of_ble_eq_true rfl)) dX1_close_22 ⟨Nat.le_of_ble_eq_true rfl, Nat.le_of_ble_eq_true rfl⟩) hP hD hS hA (fun r5 ur5 H locs qr5 hP hD hS => ?_)
      obtain ⟨qr5, eur5⟩ := qr5
      have qr5 : r5 = 0 := qr5
      subst qr5
      have eur5 : ur5 = 0 := eur5
      subst eur5
      refine lv_if_eq (tgt := 30) hx hb dX1_close_25 (by decide) (fun c6 => ?_) (fun c6 => ?_)
      · refine lv_aload_n hx hb dX1_close_30 rfl (lv_at hl 0 rfl) ?_
        refine va_get (D := D) (ci := 1) (v := .ref (h 8)) (C := RX1) (T := TX1) (N := 14) hx hb hts hin0 hown hK hP 0 rfl rfl 11 (by decide) kw2 (fun _ h9 => h9) rfl dX1_close_31 ?_
        refine lv_aload_n hx hb dX1_close_34 rfl (lv_at hl 0 rfl) ?_
        refine va_get (D := D) (ci := 1) (v := .int (nI (m_an M))) (C := RX1) (T := TX1) (N := 14) hx hb hts hin0 hown hK hP 0 rfl rfl 9 (by decide) kw1 (fun _ h9 => h9) rfl dX1_close_35 ?_
        refine lv_aload_n hx hb dX1_close_38 rfl (lv_at hl 0 rfl) ?_
        refine vp_callSi (W.runV (As := []) (rest := [.int (nI (m_an M)), .ref (h 8)]) ⟨hx, hb, hml, hown, hts⟩ (c1_amountNow l D h cA 0 M hM) (cwV 0 hts gX1_close_X1_amountNow rfl rfl rfl (by decide +kernel) ⟨Nat.le_of_ble_eq_true rfl, Nat.le_of_ble_eq_true rfl⟩) ⟨pR_fb, va_recv hK hP (ci := 1) (q0 := 0) rfl rfl, pR_mk hP hK⟩ rfl rfl hl.1 rfl (lv_room (Nat.le_of_ble_eq_true rfl)) dX1_close_39 ⟨Nat.le_of_ble_eq_true rfl, Nat.le_of_ble_eq_true rfl⟩) (fun r7 qr7 => ?_)
        have qr7 : r7 = y_amt M := qr7
        subst qr7
        refine r_ast (f := m_aa M) (j := (m_an M)) (v := y_amt M) hx hb hK hP hD hS 8 0 rfl rfl (by omega) (by omega) dX1_close_42 (fun H locs hP hD hS => ?_)
        obtain ⟨N8, eN8⟩ : ∃ N9 : MM, N9 = s_aa M (upd (m_aa M) (m_an M) (y_amt M)) := ⟨_, rfl⟩
        rw [q1_aa, ← eN8] at hP hD
        have aN8_ln : m_ln N8 = m_ln M := by rw [eN8]; rfl
        have aN8_an : m_an N8 = m_an M := by rw [eN8]; rfl
        have aN8_as : m_as N8 = m_as M := by rw [eN8]; rfl
        have aN8_aa : m_aa N8 = upd (m_aa M) (m_an M) (y_amt M) := by rw [eN8]; rfl
        have aN8_ab : m_ab N8 = m_ab M := by rw [eN8]; rfl
        have aN8_ah : m_ah N8 = m_ah M := by rw [eN8]; rfl
        have aN8_lb : m_lb N8 = m_lb M := by rw [eN8]; rfl
        have aN8_lh : m_lh N8 = m_lh M := by rw [eN8]; rfl
        have aN8_le : m_le N8 = m_le M := by rw [eN8]; rfl
        refine lv_iconst (v := 0) hx hb dX1_close_43 (by decide) ?_
        refine lv_istore_n (lv' := [(1, .int 0), (0, .ref (h 0))]) hx hb dX1_close_44 rfl hl (by decide) rfl (fun ls hl => ?_)
        have loop : ∀ (fu : Nat) (k : Nat) (N : MM), k ≤ m_ln M → N = y_bill (y_cl1 M) k → RTM N → m_ln N = m_ln M → m_an N = m_an M → m_ln M - k < fu → ∀ (H : Heap) (locs : List Loc), va_P D vwCl (w1 h cA 0 N) H → va_D A (w1 h cA 0 N) → va_S A s.heap H locs → ∀ (ls : Array Slot), lv_has ls 2 [(0, .ref (h 0)), (1, .int (nI k))] → W p l e (headSpec wsX1_close ({ frames := 5, cells := 0, slots := 0, locals := 108 } : Room)).room s m ([.ref (h 0)] : List Value).toArray below meth c H locs 0 0 Q (F0 m 45 ls []) := by
          intro fu
          induction fu with
          | zero => intro k N hk eN hN hNl hNa hfu; exact absurd hfu (by omega)
          | succ fu ih =>
            intro k N hk eN hN hNl hNa hfu H locs hP hD hS ls hl
            refine lv_iload_n hx hb dX1_close_45 rfl (lv_at hl 1 rfl) ?_
            refine lv_aload_n hx hb dX1_close_46 rfl (lv_at hl 0 rfl) ?_
            refine va_get (D := D) (ci := 1) (v := .int (nI (m_ln N))) (C := RX1) (T := TX1) (N := 14) hx hb hts hin0 hown hK hP 0 rfl rfl 1 (by decide) kw0 (fun _ h9 => h9) rfl dX1_close_47 ?_
            refine lv_topi (fun y9 ey9 => ?_)
            rw [hNl] at ey9
            subst ey9
            refine lv_icmp_ge (tgt := 82) hx hb dX1_close_50 (by decide) (fun c10 => ?_) (fun c10 => ?_)
            · have c10 := k_le (a := (m_ln M)) (b := k) (by omega) (by omega) c10
              refine lv_aload_n hx hb dX1_close_82 rfl (lv_at hl 0 rfl) ?_
              refine va_get (D := D) (ci := 1) (v := .ref (h 7)) (C := RX1) (T := TX1) (N := 14) hx hb hts hin0 hown hK hP 0 rfl rfl 10 (by decide) kw3 (fun _ h9 => h9) rfl dX1_close_83 ?_
              refine lv_aload_n hx hb dX1_close_86 rfl (lv_at hl 0 rfl) ?_
              refine va_get (D := D) (ci := 1) (v := .int (nI (m_an N))) (C := RX1) (T := TX1) (N := 14) hx hb hts hin0 hown hK hP 0 rfl rfl 9 (by decide) kw1 (fun _ h9 => h9) rfl dX1_close_87 ?_
              refine lv_topi (fun y11 ey11 => ?_)
              rw [hNa] at ey11
              subst ey11
              refine lv_iconst (v := 0) hx hb dX1_close_90 (by decide) ?_
              refine r_ast (f := m_as N) (j := (m_an M)) (v := 0) hx hb hK hP hD hS 7 0 rfl rfl (by omega) (by omega) dX1_close_91 (fun H locs hP hD hS => ?_)
              obtain ⟨N12, eN12⟩ : ∃ N9 : MM, N9 = s_as N (upd (m_as N) (m_an M) 0) := ⟨_, rfl⟩
              rw [q1_as, ← eN12] at hP hD
              have aN12_ln : m_ln N12 = m_ln M := by rw [eN12]; exact hNl
              have aN12_an : m_an N12 = m_an M := by rw [eN12]; exact hNa
              have aN12_as : m_as N12 = upd (m_as N) (m_an M) 0 := by rw [eN12]; rfl
              have aN12_aa : m_aa N12 = m_aa N := by rw [eN12]; rfl
              have aN12_ab : m_ab N12 = m_ab N := by rw [eN12]; rfl
              have aN12_ah : m_ah N12 = m_ah N := by rw [eN12]; rfl
              have aN12_lb : m_lb N12 = m_lb N := by rw [eN12]; rfl
              have aN12_lh : m_lh N12 = m_lh N := by rw [eN12]; rfl
              have aN12_le : m_le N12 = m_le N := by rw [eN12]; rfl
              refine lv_aload_n hx hb dX1_close_92 rfl (lv_at hl 0 rfl) ?_
              refine va_get (D := D) (ci := 1) (v := .ref (h 9)) (C := RX1) (T := TX1) (N := 14) hx hb hts hin0 hown hK hP 0 rfl rfl 12 (by decide) kw4 (fun _ h9 => h9) rfl dX1_close_93 ?_
              refine lv_aload_n hx hb dX1_close_96 rfl (lv_at hl 0 rfl) ?_
              refine va_get (D := D) (ci := 1) (v := .int (nI (m_an N12))) (C := RX1) (T := TX1) (N := 14) hx hb hts hin0 hown hK hP 0 rfl rfl 9 (by decide) kw1 (fun _ h9 => h9) rfl dX1_close_97 ?_
              refine lv_topi (fun y13 ey13 => ?_)
              rw [aN12_an] at ey13
              subst ey13
              refine lv_aload_n hx hb dX1_close_100 rfl (lv_at hl 0 rfl) ?_
              refine lv_aload_n hx hb dX1_close_101 rfl (lv_at hl 0 rfl) ?_
              refine va_get (D := D) (ci := 1) (v := .ref (h 4)) (C := RX1) (T := TX1) (N := 14) hx hb hts hin0 hown hK hP 0 rfl rfl 5 (by decide) kw5 (fun _ h9 => h9) rfl dX1_close_102 ?_
              refine vp_callSi (W.runV (As := [.ref (h 4)]) (rest := [.int (nI (m_an M)), .ref (h 9)]) ⟨hx, hb, hml, hown, hts⟩ (c1_sum l D h cA 0 N12 ⟨by rw [aN12_ln]; exact hn1, by rw [aN12_an]; exact hn4⟩ 4 (m_lb N12) rfl) (cwV 1 hts gX1_close_X1_sum rfl rfl rfl (by decide +kernel) ⟨Nat.le_of_ble_eq_true rfl, Nat.le_of_ble_eq_true rfl⟩) ⟨pR_fb, va_recv hK hP (ci := 1) (q0 := 0) rfl rfl, pR_mk hP hK⟩ rfl rfl hl.1 rfl (lv_room (Nat.le_of_ble_eq_true rfl)) dX1_close_105 ⟨Nat.le_of_ble_eq_true rfl, Nat.le_of_ble_eq_true rfl⟩) (fun r14 qr14 => ?_)
              have qr14 : r14 = psum (m_lb N12) (m_ln N12) := qr14
              rw [aN12_lb] at qr14
              rw [aN12_ln] at qr14
              subst qr14
              refine r_ast (f := m_ab N12) (j := (m_an M)) (v := psum (m_lb N) (m_ln M)) hx hb hK hP hD hS 9 0 rfl rfl (by omega) (by omega) dX1_close_108 (fun H locs hP hD hS => ?_)
              rw [aN12_ab] at hP hD
              obtain ⟨N16, eN16⟩ : ∃ N9 : MM, N9 = s_ab N12 (upd (m_ab N) (m_an M) (psum (m_lb N) (m_ln M))) := ⟨_, rfl⟩
              rw [q1_ab, ← eN16] at hP hD
              have aN16_ln : m_ln N16 = m_ln M := by rw [eN16]; exact aN12_ln
              have aN16_an : m_an N16 = m_an M := by rw [eN16]; exact aN12_an
              have aN16_as : m_as N16 = upd (m_as N) (m_an M) 0 := by rw [eN16]; exact aN12_as
              have aN16_aa : m_aa N16 = m_aa N := by rw [eN16]; exact aN12_aa
              have aN16_ab : m_ab N16 = upd (m_ab N) (m_an M) (psum (m_lb N) (m_ln M)) := by rw [eN16]; rfl
              have aN16_ah : m_ah N16 = m_ah N := by rw [eN16]; exact aN12_ah
              have aN16_lb : m_lb N16 = m_lb N := by rw [eN16]; exact aN12_lb
              have aN16_lh : m_lh N16 = m_lh N := by rw [eN16]; exact aN12_lh
              have aN16_le : m_le N16 = m_le N := by rw [eN16]; exact aN12_le
              refine lv_aload_n hx hb dX1_close_109 rfl (lv_at hl 0 rfl) ?_
              refine va_get (D := D) (ci := 1) (v := .ref (h 10)) (C := RX1) (T := TX1) (N := 14) hx hb hts hin0 hown hK hP 0 rfl rfl 13 (by decide) kw6 (fun _ h9 => h9) rfl dX1_close_110 ?_
              refine lv_aload_n hx hb dX1_close_113 rfl (lv_at hl 0 rfl) ?_
              refine va_get (D := D) (ci := 1) (v := .int (nI (m_an N16))) (C := RX1) (T := TX1) (N := 14) hx hb hts hin0 hown hK hP 0 rfl rfl 9 (by decide) kw1 (fun _ h9 => h9) rfl dX1_close_114 ?_
              refine lv_topi (fun y17 ey17 => ?_)
              rw [aN16_an] at ey17
              subst ey17
              refine lv_aload_n hx hb dX1_close_117 rfl (lv_at hl 0 rfl) ?_
              refine lv_aload_n hx hb dX1_close_118 rfl (lv_at hl 0 rfl) ?_
              refine va_get (D := D) (ci := 1) (v := .ref (h 5)) (C := RX1) (T := TX1) (N := 14) hx hb hts hin0 hown hK hP 0 rfl rfl 6 (by decide) kw7 (fun _ h9 => h9) rfl dX1_close_119 ?_
              refine vp_callSi (W.runV (As := [.ref (h 5)]) (rest := [.int (nI (m_an M)), .ref (h 10)]) ⟨hx, hb, hml, hown, hts⟩ (c1_sum l D h cA 0 N16 ⟨by rw [aN16_ln]; exact hn1, by rw [aN16_an]; exact hn4⟩ 5 (m_lh N16) rfl) (cwV 1 hts gX1_close_X1_sum rfl rfl rfl (by decide +kernel) ⟨Nat.le_of_ble_eq_true rfl, Nat.le_of_ble_eq_true rfl⟩) ⟨pR_fb, va_recv hK hP (ci := 1) (q0 := 0) rfl rfl, pR_mk hP hK⟩ rfl rfl hl.1 rfl (lv_room (Nat.le_of_ble_eq_true rfl)) dX1_close_122 ⟨Nat.le_of_ble_eq_true rfl, Nat.le_of_ble_eq_true rfl⟩) (fun r18 qr18 => ?_)
              have qr18 : r18 = psum (m_lh N16) (m_ln N16) := qr18
              rw [aN16_lh] at qr18
              rw [aN16_ln] at qr18
              subst qr18
              refine r_ast (f := m_ah N16) (j := (m_an M)) (v := psum (m_lh N) (m_ln M)) hx hb hK hP hD hS 10 0 rfl rfl (by omega) (by omega) dX1_close_125 (fun H locs hP hD hS => ?_)
              rw [aN16_ah] at hP hD
              obtain ⟨N20, eN20⟩ : ∃ N9 : MM, N9 = s_ah N16 (upd (m_ah N) (m_an M) (psum (m_lh N) (m_ln M))) := ⟨_, rfl⟩
              rw [q1_ah, ← eN20] at hP hD
              have aN20_ln : m_ln N20 = m_ln M := by rw [eN20]; exact aN16_ln
              have aN20_an : m_an N20 = m_an M := by rw [eN20]; exact aN16_an
              have aN20_as : m_as N20 = upd (m_as N) (m_an M) 0 := by rw [eN20]; exact aN16_as
              have aN20_aa : m_aa N20 = m_aa N := by rw [eN20]; exact aN16_aa
              have aN20_ab : m_ab N20 = upd (m_ab N) (m_an M) (psum (m_lb N) (m_ln M)) := by rw [eN20]; exact aN16_ab
              have aN20_ah : m_ah N20 = upd (m_ah N) (m_an M) (psum (m_lh N) (m_ln M)) := by rw [eN20]; rfl
              have aN20_lb : m_lb N20 = m_lb N := by rw [eN20]; exact aN16_lb
              have aN20_lh : m_lh N20 = m_lh N := by rw [eN20]; exact aN16_lh
              have aN20_le : m_le N20 = m_le N := by rw [eN20]; exact aN16_le
              refine lv_aload_n hx hb dX1_close_126 rfl (lv_at hl 0 rfl) ?_
              refine lv_dup hx hb dX1_close_127 rfl ?_
              refine va_get (D := D) (ci := 1) (v := .int (nI (m_an N20))) (C := RX1) (T := TX1) (N := 14) hx hb hts hin0 hown hK hP 0 rfl rfl 9 (by decide) kw1 (fun _ h9 => h9) rfl dX1_close_128 ?_
              refine lv_topi (fun y21 ey21 => ?_)
              rw [aN20_an] at ey21
              subst ey21
              refine lv_iconst (v := 1) hx hb dX1_close_131 (by decide) ?_
              refine lv_iadd hx hb dX1_close_132 ?_
              refine lv_topi (fun y22 ey22 => ?_)
              obtain rfl : y22 = nI ((m_an M) + 1) := ey22.trans (nI_1 _)
              refine va_put (D := D) (ci := 1) (v := .int (nI ((m_an M) + 1))) (ty := .int) (C := RX1) (T := TX1) (N := 14) hx hb hts hin0 tyX1 tyX1_ok nmX1 hown hK hP hD hS 0 rfl rfl 9 (by decide) kw1 (fun _ h9 => h9) rfl (by decide +kernel) rfl rfl (Nat.le_of_ble_eq_true rfl) dX1_close_133 (fun H locs hP hD hS => ?_)
              obtain ⟨N23, eN23⟩ : ∃ N9 : MM, N9 = s_an N20 ((m_an M) + 1) := ⟨_, rfl⟩
              rw [q1_an, ← eN23] at hP hD
              have aN23_ln : m_ln N23 = m_ln M := by rw [eN23]; exact aN20_ln
              have aN23_an : m_an N23 = ((m_an M) + 1) := by rw [eN23]; rfl
              have aN23_as : m_as N23 = upd (m_as N) (m_an M) 0 := by rw [eN23]; exact aN20_as
              have aN23_aa : m_aa N23 = m_aa N := by rw [eN23]; exact aN20_aa
              have aN23_ab : m_ab N23 = upd (m_ab N) (m_an M) (psum (m_lb N) (m_ln M)) := by rw [eN23]; exact aN20_ab
              have aN23_ah : m_ah N23 = upd (m_ah N) (m_an M) (psum (m_lh N) (m_ln M)) := by rw [eN23]; exact aN20_ah
              have aN23_lb : m_lb N23 = m_lb N := by rw [eN23]; exact aN20_lb
              have aN23_lh : m_lh N23 = m_lh N := by rw [eN23]; exact aN20_lh
              have aN23_le : m_le N23 = m_le N := by rw [eN23]; exact aN20_le
              refine lv_aload_n hx hb dX1_close_136 rfl (lv_at hl 0 rfl) ?_
              refine va_get (D := D) (ci := 1) (v := .int (nI (m_an N23))) (C := RX1) (T := TX1) (N := 14) hx hb hts hin0 hown hK hP 0 rfl rfl 9 (by decide) kw1 (fun _ h9 => h9) rfl dX1_close_137 ?_
              refine lv_topi (fun y24 ey24 => ?_)
              rw [aN23_an] at ey24
              subst ey24
              refine lv_iconst (v := 1) hx hb dX1_close_140 (by decide) ?_
              refine lv_isub hx hb dX1_close_141 ?_
              refine lv_topi (fun y25 ey25 => ?_)
              obtain rfl : y25 = nI (m_an M) := ey25.trans (nI_pred _)
              subst hQ
              exact W.iret (v := nI (m_an M)) hx hb hr (fun t ht hW => ⟨⟨nI (m_an M), (0, N23), rfl, (by subst eN12 eN16 eN20 eN23; exact (y_pk 0 (y_close_ok c1 c4 (by rw [eN, show k = m_ln M by omega]) hNl) rfl)), by rw [ht]; exact hP, hD⟩, hS.F ht⟩) hS.2.2 dX1_close_142
            · have c10 := k_nle (a := (m_ln M)) (b := k) (by omega) (by omega) c10
              refine lv_aload_n hx hb dX1_close_53 rfl (lv_at hl 0 rfl) ?_
              refine va_get (D := D) (ci := 1) (v := .ref (h 5)) (C := RX1) (T := TX1) (N := 14) hx hb hts hin0 hown hK hP 0 rfl rfl 6 (by decide) kw7 (fun _ h9 => h9) rfl dX1_close_54 ?_
              refine lv_iload_n hx hb dX1_close_57 rfl (lv_at hl 1 rfl) ?_
              refine lv_aload_n hx hb dX1_close_58 rfl (lv_at hl 0 rfl) ?_
              refine lv_iload_n hx hb dX1_close_59 rfl (lv_at hl 1 rfl) ?_
              refine vp_callSi (W.runV (As := [.int (nI k)]) (rest := [.int (nI k), .ref (h 5)]) ⟨hx, hb, hml, hown, hts⟩ (c1_holdsThen l D h cA 0 N hN k (by omega)) (cwV 1 hts gX1_close_X1_holdsThen rfl rfl rfl (by decide +kernel) ⟨Nat.le_of_ble_eq_true rfl, Nat.le_of_ble_eq_true rfl⟩) ⟨pR_fb, va_recv hK hP (ci := 1) (q0 := 0) rfl rfl, pR_mk hP hK⟩ rfl rfl hl.1 rfl (lv_room (Nat.le_of_ble_eq_true rfl)) dX1_close_60 ⟨Nat.le_of_ble_eq_true rfl, Nat.le_of_ble_eq_true rfl⟩) (fun r26 qr26 => ?_)
              have qr26 : r26 = y_hTh N k := qr26
              subst qr26
              refine r_ast (f := m_lh N) (j := k) (v := y_hTh N k) hx hb hK hP hD hS 5 0 rfl rfl (by omega) (by omega) dX1_close_63 (fun H locs hP hD hS => ?_)
              obtain ⟨N27, eN27⟩ : ∃ N9 : MM, N9 = s_lh N (upd (m_lh N) k (y_hTh N k)) := ⟨_, rfl⟩
              rw [q1_lh, ← eN27] at hP hD
              have aN27_ln : m_ln N27 = m_ln M := by rw [eN27]; exact hNl
              have aN27_an : m_an N27 = m_an M := by rw [eN27]; exact hNa
              have aN27_as : m_as N27 = m_as N := by rw [eN27]; rfl
              have aN27_aa : m_aa N27 = m_aa N := by rw [eN27]; rfl
              have aN27_ab : m_ab N27 = m_ab N := by rw [eN27]; rfl
              have aN27_ah : m_ah N27 = m_ah N := by rw [eN27]; rfl
              have aN27_lb : m_lb N27 = m_lb N := by rw [eN27]; rfl
              have aN27_lh : m_lh N27 = upd (m_lh N) k (y_hTh N k) := by rw [eN27]; rfl
              have aN27_le : m_le N27 = m_le N := by rw [eN27]; rfl
              refine lv_aload_n hx hb dX1_close_64 rfl (lv_at hl 0 rfl) ?_
              refine va_get (D := D) (ci := 1) (v := .ref (h 4)) (C := RX1) (T := TX1) (N := 14) hx hb hts hin0 hown hK hP 0 rfl rfl 5 (by decide) kw5 (fun _ h9 => h9) rfl dX1_close_65 ?_
              refine lv_iload_n hx hb dX1_close_68 rfl (lv_at hl 1 rfl) ?_
              refine lv_aload_n hx hb dX1_close_69 rfl (lv_at hl 0 rfl) ?_
              refine va_get (D := D) (ci := 1) (v := .ref (h 2)) (C := RX1) (T := TX1) (N := 14) hx hb hts hin0 hown hK hP 0 rfl rfl 3 (by decide) kw8 (fun _ h9 => h9) rfl dX1_close_70 ?_
              refine lv_iload_n hx hb dX1_close_73 rfl (lv_at hl 1 rfl) ?_
              refine r_ald (f := m_le N27) (j := k) hx hb hK hP 2 0 rfl rfl (by omega) (by omega) dX1_close_74 ?_
              refine lv_topi (fun y28 ey28 => ?_)
              rw [aN27_le] at ey28
              subst ey28
              refine r_ast (f := m_lb N27) (j := k) (v := (m_le N) k) hx hb hK hP hD hS 4 0 rfl rfl (by omega) (by omega) dX1_close_75 (fun H locs hP hD hS => ?_)
              rw [aN27_lb] at hP hD
              obtain ⟨N30, eN30⟩ : ∃ N9 : MM, N9 = s_lb N27 (upd (m_lb N) k ((m_le N) k)) := ⟨_, rfl⟩
              rw [q1_lb, ← eN30] at hP hD
              have aN30_ln : m_ln N30 = m_ln M := by rw [eN30]; exact aN27_ln
              have aN30_an : m_an N30 = m_an M := by rw [eN30]; exact aN27_an
              have aN30_as : m_as N30 = m_as N := by rw [eN30]; exact aN27_as
              have aN30_aa : m_aa N30 = m_aa N := by rw [eN30]; exact aN27_aa
              have aN30_ab : m_ab N30 = m_ab N := by rw [eN30]; exact aN27_ab
              have aN30_ah : m_ah N30 = m_ah N := by rw [eN30]; exact aN27_ah
              have aN30_lb : m_lb N30 = upd (m_lb N) k ((m_le N) k) := by rw [eN30]; rfl
              have aN30_lh : m_lh N30 = upd (m_lh N) k (y_hTh N k) := by rw [eN30]; exact aN27_lh
              have aN30_le : m_le N30 = m_le N := by rw [eN30]; exact aN27_le
              refine lv_iinc (v := nI (k + 1)) (lv' := [(1, .int (nI (k + 1))), (0, .ref (h 0))]) hx hb dX1_close_76 hl (k := 1) rfl (nI_1 _) (by decide) rfl (fun ls hl => ?_)
              refine lv_goto (tgt := 45) hx hb dX1_close_79 (by decide) ?_
              exact ih (k + 1) N30 (by omega) (by rw [eN30, eN27, eN]; rfl) (by rw [eN30, eN27]; exact hN) aN30_ln aN30_an (by omega) _ _ hP hD hS ls (lv_sub hl [1, 0] rfl)
        exact loop (m_ln M + 1) 0 N8 (Nat.zero_le _) (by rw [eN8]; rfl) (by rw [eN8]; exact hM) aN8_ln aN8_an (by omega) _ _ hP hD hS ls (lv_sub hl [1, 0] rfl)
      · exact absurd c6 (by decide)
    · have c4 := k_eq (a := (m_an M)) (b := 60) (by omega) (by omega) c4
      refine lv_iconst (v := 1) hx hb dX1_close_17 (by decide) ?_
      refine lv_goto (tgt := 22) hx hb dX1_close_18 (by decide) ?_
      refine g_calliS (wf := fun u : Int32 => w1 h cA u M) (va_runV (As := [.int 1]) (rest := []) ⟨hx, hb, hml, hown, hts⟩ (c1_refused l D h cA rf M 1 s.heap.size) (cwV 1 hts gX1_close_X1_refused rfl rfl rfl (by decide +kernel) ⟨Nat.le_of_ble_eq_true rfl, Nat.le_of_ble_eq_true rfl⟩) ⟨pW_fb, va_recv hK hP (ci := 1) (q0 := 0) rfl rfl, pW_mk hP hK hD⟩ rfl rfl hl.1 rfl (lv_room (Nat.le_of_ble_eq_true rfl)) dX1_close_22 ⟨Nat.le_of_ble_eq_true rfl, Nat.le_of_ble_eq_true rfl⟩) hP hD hS hA (fun r31 ur31 H locs qr31 hP hD hS => ?_)
      obtain ⟨qr31, eur31⟩ := qr31
      have qr31 : r31 = 1 := qr31
      subst qr31
      have eur31 : ur31 = 1 := eur31
      subst eur31
      refine lv_if_eq (tgt := 30) hx hb dX1_close_25 (by decide) (fun c32 => ?_) (fun c32 => ?_)
      · exact absurd c32 (by decide)
      · refine lv_iconst (v := 0) hx hb dX1_close_28 (by decide) ?_
        subst hQ
        exact W.iret (v := 0) hx hb hr (fun t ht hW => ⟨⟨0, (1, M), rfl, (y_pk 1 (by unfold y_close; rw [if_neg c1, if_pos c4]) rfl), by rw [ht]; exact hP, hD⟩, hS.F ht⟩) hS.2.2 dX1_close_29
set_option maxHeartbeats 4000000 in
set_option maxRecDepth 100000 in
theorem c1_lineByShare (l : Launch) (D : va_G) (h : Nat → Nat) (cA : ClassId) (rf : Int32) (M : MM) (hM : OK1 M) (x : Int32) (sz : Nat) : Met l yX1_lineByShare wsX1_lineByShare ({ frames := 1, cells := 0, slots := 0, locals := 26 } : Room) (va_Pc [.ref (h 0), .int x] (pW D [(cA, .int)] (w1 h cA rf M) sz)) (va_Qi (fun (r : Int32) (u : Int32 × MM) => y_post (y_lbs M x) r u) (fun u => qW D (va_A (w1 h cA rf M) sz) (w1 h cA u.1 u.2)) (va_A (w1 h cA rf M) sz)) 0 0 (va_A (w1 h cA rf M) sz) := by
  refine Met.ofW (cc := cX1_lineByShare) (maxL := 6) (ret := (some .int)) (by decide) rfl ?_
  intro p e s m args below meth c s₁ B hml hv
  obtain ⟨rfl, hsz, hP, hK, hD0⟩ := hv
  have hx := B.exec
  have hb := B.bytes
  have hr := B.returns
  have hts := atoms_spec (ws := wsX1_lineByShare) B.pre
  have hown : s.vm.findClass RX1 = some m.cls := findClass_of_methodNamed B.named
  have hlocks := B.notSynchronized
  have kw0 := hts (.fieldLink RX1 44 "ProgressBillingModel" "lines" "I") (by decide +kernel)
  have hin0 : ∀ w ∈ u_ws RX1 TX1 14, w ∈ wsX1_lineByShare := by decide +kernel
  subst hsz
  have hD := hD0.self (sz := s.heap.size)
  generalize hAe : va_A (w1 h cA rf M) s.heap.size = A at hD ⊢
  have hA : ∀ q : Nat, s.heap.size ≤ q → A q := fun q h => by rw [← hAe]; exact Or.inr h
  have hS : va_S A s.heap s.heap [] := va_S.rf
  have hP : va_P D vwCl (w1 h cA rf M) s.heap := hP
  obtain ⟨hn1, hn4⟩ := id hM
  have hl := lv_entry ([.ref (h 0), .int x]) (n := 6) (Nat.le_of_ble_eq_true rfl)
  rw [lg_entry_eq]
  generalize (lg_sl ([.ref (h 0), .int x]) ++ List.replicate (6 - (lg_sl ([.ref (h 0), .int x])).length) Slot.unset).toArray = ls at hl ⊢
  have hl : lv_has ls 6 [(0, .ref (h 0)), (1, .int x)] := hl
  refine w_abs (fun Q hQ => ?_)
  refine lv_iconst (v := -1) hx hb dX1_lineByShare_0 (by decide) ?_
  refine lv_istore_n (lv' := [(2, .int (-1)), (0, .ref (h 0)), (1, .int x)]) hx hb dX1_lineByShare_1 rfl hl (by decide) rfl (fun ls hl => ?_)
  refine lv_iconst (v := 0) hx hb dX1_lineByShare_2 (by decide) ?_
  refine lv_istore_n (lv' := [(3, .int 0), (2, .int (-1)), (0, .ref (h 0)), (1, .int x)]) hx hb dX1_lineByShare_3 rfl hl (by decide) rfl (fun ls hl => ?_)
  have loop : ∀ (fu : Nat) (k : Nat) (x2 : Int32), k ≤ m_ln M → x2 = y_fl M x k → m_ln M - k < fu → ∀ (ls : Array Slot), lv_has ls 6 [(0, .ref (h 0)), (1, .int x), (2, .int x2), (3, .int (nI k))] → W p l e (headSpec wsX1_lineByShare ({ frames := 1, cells := 0, slots := 0, locals := 26 } : Room)).room s m ([.ref (h 0), .int x] : List Value).toArray below meth c s.heap [] 0 0 Q (F0 m 4 ls []) := by
    intro fu
    induction fu with
    | zero => intro k x2 hk e2 hfu; exact absurd hfu (by omega)
    | succ fu ih =>
      intro k x2 hk e2 hfu ls hl
      refine lv_iload_n hx hb dX1_lineByShare_4 rfl (lv_at hl 3 rfl) ?_
      refine lv_aload_n hx hb dX1_lineByShare_5 rfl (lv_at hl 0 rfl) ?_
      refine va_get (D := D) (ci := 1) (v := .int (nI (m_ln M))) (C := RX1) (T := TX1) (N := 14) hx hb hts hin0 hown hK hP 0 rfl rfl 1 (by decide) kw0 (fun _ h9 => h9) rfl dX1_lineByShare_6 ?_
      refine lv_icmp_ge (tgt := 71) hx hb dX1_lineByShare_9 (by decide) (fun c1 => ?_) (fun c1 => ?_)
      · have c1 := k_le (a := (m_ln M)) (b := k) (by omega) (by omega) c1
        refine lv_aload_n hx hb dX1_lineByShare_71 rfl (lv_at hl 0 rfl) ?_
        refine lv_iload_n hx hb dX1_lineByShare_72 rfl (lv_at hl 2 rfl) ?_
        refine lv_iconst (v := -1) hx hb dX1_lineByShare_73 (by decide) ?_
        refine lv_icmp_ne (tgt := 81) hx hb dX1_lineByShare_74 (by decide) (fun c2 => ?_) (fun c2 => ?_)
        · refine lv_iconst (v := 0) hx hb dX1_lineByShare_81 (by decide) ?_
          refine g_calliS (wf := fun u : Int32 => w1 h cA u M) (va_runV (As := [.int 0]) (rest := []) ⟨hx, hb, hml, hown, hts⟩ (c1_refused l D h cA rf M 0 s.heap.size) (cwV 1 hts gX1_lineByShare_X1_refused rfl rfl rfl (by decide +kernel) ⟨Nat.le_of_ble_eq_true rfl, Nat.le_of_ble_eq_true rfl⟩) ⟨pW_fb, va_recv hK hP (ci := 1) (q0 := 0) rfl rfl, pW_mk hP hK hD⟩ rfl rfl hl.1 rfl (lv_room (Nat.le_of_ble_eq_true rfl)) dX1_lineByShare_82 ⟨Nat.le_of_ble_eq_true rfl, Nat.le_of_ble_eq_true rfl⟩) hP hD hS hA (fun r3 ur3 H locs qr3 hP hD hS => ?_)
          obtain ⟨qr3, eur3⟩ := qr3
          have qr3 : r3 = 0 := qr3
          subst qr3
          have eur3 : ur3 = 0 := eur3
          subst eur3
          refine lv_if_eq (tgt := 92) hx hb dX1_lineByShare_85 (by decide) (fun c4 => ?_) (fun c4 => ?_)
          · refine lv_iload_n hx hb dX1_lineByShare_92 rfl (lv_at hl 2 rfl) ?_
            subst hQ
            exact W.iret (v := x2) hx hb hr (fun t ht hW => ⟨⟨x2, (0, M), rfl, (y_pk 0 (by have E : x2 = y_fl M x (m_ln M) := (by rw [e2, show k = m_ln M by omega]); unfold y_lbs; rw [← E, if_neg c2]) rfl), by rw [ht]; exact hP, hD⟩, hS.F ht⟩) hS.2.2 dX1_lineByShare_93
          · exact absurd c4 (by decide)
        · refine lv_iconst (v := 1) hx hb dX1_lineByShare_77 (by decide) ?_
          refine lv_goto (tgt := 82) hx hb dX1_lineByShare_78 (by decide) ?_
          refine g_calliS (wf := fun u : Int32 => w1 h cA u M) (va_runV (As := [.int 1]) (rest := []) ⟨hx, hb, hml, hown, hts⟩ (c1_refused l D h cA rf M 1 s.heap.size) (cwV 1 hts gX1_lineByShare_X1_refused rfl rfl rfl (by decide +kernel) ⟨Nat.le_of_ble_eq_true rfl, Nat.le_of_ble_eq_true rfl⟩) ⟨pW_fb, va_recv hK hP (ci := 1) (q0 := 0) rfl rfl, pW_mk hP hK hD⟩ rfl rfl hl.1 rfl (lv_room (Nat.le_of_ble_eq_true rfl)) dX1_lineByShare_82 ⟨Nat.le_of_ble_eq_true rfl, Nat.le_of_ble_eq_true rfl⟩) hP hD hS hA (fun r5 ur5 H locs qr5 hP hD hS => ?_)
          obtain ⟨qr5, eur5⟩ := qr5
          have qr5 : r5 = 1 := qr5
          subst qr5
          have eur5 : ur5 = 1 := eur5
          subst eur5
          refine lv_if_eq (tgt := 92) hx hb dX1_lineByShare_85 (by decide) (fun c6 => ?_) (fun c6 => ?_)
          · exact absurd c6 (by decide)
          · refine lv_iconst (v := 0) hx hb dX1_lineByShare_88 (by decide) ?_
            refine lv_goto (tgt := 93) hx hb dX1_lineByShare_89 (by decide) ?_
            subst hQ
            exact W.iret (v := 0) hx hb hr (fun t ht hW => ⟨⟨0, (1, M), rfl, (y_pk 1 (by have E : x2 = y_fl M x (m_ln M) := (by rw [e2, show k = m_ln M by omega]); unfold y_lbs; rw [← E, if_pos c2]) rfl), by rw [ht]; exact hP, hD⟩, hS.F ht⟩) hS.2.2 dX1_lineByShare_93
      · have c1 := k_nle (a := (m_ln M)) (b := k) (by omega) (by omega) c1
        refine lv_iconst (v := 0) hx hb dX1_lineByShare_12 (by decide) ?_
        refine lv_istore (lv' := [(4, .int 0), (0, .ref (h 0)), (1, .int x), (2, .int x2), (3, .int (nI k))]) hx hb dX1_lineByShare_13 hl (by decide) rfl (fun ls hl => ?_)
        refine lv_iconst (v := 0) hx hb dX1_lineByShare_15 (by decide) ?_
        refine lv_istore (lv' := [(5, .int 0), (4, .int 0), (0, .ref (h 0)), (1, .int x), (2, .int x2), (3, .int (nI k))]) hx hb dX1_lineByShare_16 hl (by decide) rfl (fun ls hl => ?_)
        have loop2 : ∀ (fu : Nat) (i : Nat) (b : Nat), i ≤ m_ln M → b ≤ i → b = z_rk (m_lw M) (y_dv M) k i → m_ln M - i < fu → ∀ (ls : Array Slot), lv_has ls 6 [(0, .ref (h 0)), (1, .int x), (2, .int x2), (3, .int (nI k)), (4, .int (nI b)), (5, .int (nI i))] → W p l e (headSpec wsX1_lineByShare ({ frames := 1, cells := 0, slots := 0, locals := 26 } : Room)).room s m ([.ref (h 0), .int x] : List Value).toArray below meth c s.heap [] 0 0 Q (F0 m 18 ls []) := by
          intro fu
          induction fu with
          | zero => intro i b hi hb2 eb hfu; exact absurd hfu (by omega)
          | succ fu ih2 =>
            intro i b hi hb2 eb hfu ls hl
            refine lv_iload hx hb dX1_lineByShare_18 (lv_at hl 5 rfl) ?_
            refine lv_aload_n hx hb dX1_lineByShare_20 rfl (lv_at hl 0 rfl) ?_
            refine va_get (D := D) (ci := 1) (v := .int (nI (m_ln M))) (C := RX1) (T := TX1) (N := 14) hx hb hts hin0 hown hK hP 0 rfl rfl 1 (by decide) kw0 (fun _ h9 => h9) rfl dX1_lineByShare_21 ?_
            refine lv_icmp_ge (tgt := 53) hx hb dX1_lineByShare_24 (by decide) (fun c7 => ?_) (fun c7 => ?_)
            · have c7 := k_le (a := (m_ln M)) (b := i) (by omega) (by omega) c7
              refine lv_iload hx hb dX1_lineByShare_53 (lv_at hl 4 rfl) ?_
              refine lv_iload_n hx hb dX1_lineByShare_55 rfl (lv_at hl 1 rfl) ?_
              refine lv_icmp_ne (tgt := 63) hx hb dX1_lineByShare_56 (by decide) (fun c8 => ?_) (fun c8 => ?_)
              · refine lv_iload_n hx hb dX1_lineByShare_63 rfl (lv_at hl 2 rfl) ?_
                refine lv_istore_n (lv' := [(2, .int x2), (0, .ref (h 0)), (1, .int x), (3, .int (nI k)), (4, .int (nI b)), (5, .int (nI i))]) hx hb dX1_lineByShare_64 rfl hl (by decide) rfl (fun ls hl => ?_)
                refine lv_iinc (v := nI (k + 1)) (lv' := [(3, .int (nI (k + 1))), (2, .int x2), (0, .ref (h 0)), (1, .int x), (4, .int (nI b)), (5, .int (nI i))]) hx hb dX1_lineByShare_65 hl (k := 3) rfl (nI_1 _) (by decide) rfl (fun ls hl => ?_)
                refine lv_goto (tgt := 4) hx hb dX1_lineByShare_68 (by decide) ?_
                have yr : y_rank M k = b := by unfold y_rank; rw [eb, show i = m_ln M by omega]
                exact ih (k + 1) x2 (by omega) (by unfold y_fl; rw [yr, if_neg c8]; exact e2) (by omega) ls (lv_sub hl [2, 3, 1, 0] rfl)
              · refine lv_iload_n hx hb dX1_lineByShare_59 rfl (lv_at hl 3 rfl) ?_
                refine lv_goto (tgt := 64) hx hb dX1_lineByShare_60 (by decide) ?_
                refine lv_istore_n (lv' := [(2, .int (nI k)), (0, .ref (h 0)), (1, .int x), (3, .int (nI k)), (4, .int (nI b)), (5, .int (nI i))]) hx hb dX1_lineByShare_64 rfl hl (by decide) rfl (fun ls hl => ?_)
                refine lv_iinc (v := nI (k + 1)) (lv' := [(3, .int (nI (k + 1))), (2, .int (nI k)), (0, .ref (h 0)), (1, .int x), (4, .int (nI b)), (5, .int (nI i))]) hx hb dX1_lineByShare_65 hl (k := 3) rfl (nI_1 _) (by decide) rfl (fun ls hl => ?_)
                refine lv_goto (tgt := 4) hx hb dX1_lineByShare_68 (by decide) ?_
                have yr : y_rank M k = b := by unfold y_rank; rw [eb, show i = m_ln M by omega]
                exact ih (k + 1) (nI k) (by omega) (by unfold y_fl; rw [yr, if_pos c8]) (by omega) ls (lv_sub hl [2, 3, 1, 0] rfl)
            · have c7 := k_nle (a := (m_ln M)) (b := i) (by omega) (by omega) c7
              refine lv_iload hx hb dX1_lineByShare_27 (lv_at hl 4 rfl) ?_
              refine lv_aload_n hx hb dX1_lineByShare_29 rfl (lv_at hl 0 rfl) ?_
              refine lv_iload hx hb dX1_lineByShare_30 (lv_at hl 5 rfl) ?_
              refine lv_iload_n hx hb dX1_lineByShare_32 rfl (lv_at hl 3 rfl) ?_
              refine vp_callSi (W.runV (As := [.int (nI i), .int (nI k)]) (rest := [.int (nI b)]) ⟨hx, hb, hml, hown, hts⟩ (c1_isAhead l D h cA rf M hM i k (by omega) (by omega)) (cwV 2 hts gX1_lineByShare_X1_isAhead rfl rfl rfl (by decide +kernel) ⟨Nat.le_of_ble_eq_true rfl, Nat.le_of_ble_eq_true rfl⟩) ⟨pR_fb, va_recv hK hP (ci := 1) (q0 := 0) rfl rfl, pR_mk hP hK⟩ rfl rfl hl.1 rfl (lv_room (Nat.le_of_ble_eq_true rfl)) dX1_lineByShare_33 ⟨Nat.le_of_ble_eq_true rfl, Nat.le_of_ble_eq_true rfl⟩) (fun r9 qr9 => ?_)
              rcases bl_c (z_ah (m_lw M) (y_dv M) i k) with z10 | z10
              · have qr9 : r9 = 1 := by rw [qr9, z10]; rfl
                subst qr9
                refine lv_if_eq (tgt := 43) hx hb dX1_lineByShare_36 (by decide) (fun c11 => ?_) (fun c11 => ?_)
                · exact absurd c11 (by decide)
                · refine lv_iconst (v := 1) hx hb dX1_lineByShare_39 (by decide) ?_
                  refine lv_goto (tgt := 44) hx hb dX1_lineByShare_40 (by decide) ?_
                  refine lv_iadd hx hb dX1_lineByShare_44 ?_
                  refine lv_topi (fun y12 ey12 => ?_)
                  obtain rfl : y12 = nI (b + 1) := ey12.trans (nI_1 _)
                  refine lv_istore (lv' := [(4, .int (nI (b + 1))), (0, .ref (h 0)), (1, .int x), (2, .int x2), (3, .int (nI k)), (5, .int (nI i))]) hx hb dX1_lineByShare_45 hl (by decide) rfl (fun ls hl => ?_)
                  refine lv_iinc (v := nI (i + 1)) (lv' := [(5, .int (nI (i + 1))), (4, .int (nI (b + 1))), (0, .ref (h 0)), (1, .int x), (2, .int x2), (3, .int (nI k))]) hx hb dX1_lineByShare_47 hl (k := 5) rfl (nI_1 _) (by decide) rfl (fun ls hl => ?_)
                  refine lv_goto (tgt := 18) hx hb dX1_lineByShare_50 (by decide) ?_
                  exact ih2 (i + 1) ((b + 1)) (by omega) (by omega) (by unfold z_rk; rw [← eb, z10]; rfl) (by omega) ls (lv_sub hl [2, 3, 4, 5, 1, 0] rfl)
              · have qr9 : r9 = 0 := by rw [qr9, z10]; rfl
                subst qr9
                refine lv_if_eq (tgt := 43) hx hb dX1_lineByShare_36 (by decide) (fun c13 => ?_) (fun c13 => ?_)
                · refine lv_iconst (v := 0) hx hb dX1_lineByShare_43 (by decide) ?_
                  refine lv_iadd hx hb dX1_lineByShare_44 ?_
                  refine lv_topi (fun y14 ey14 => ?_)
                  obtain rfl : nI b = y14 := (ey14.trans (Int32.add_zero _)).symm
                  refine lv_istore (lv' := [(4, .int (nI b)), (0, .ref (h 0)), (1, .int x), (2, .int x2), (3, .int (nI k)), (5, .int (nI i))]) hx hb dX1_lineByShare_45 hl (by decide) rfl (fun ls hl => ?_)
                  refine lv_iinc (v := nI (i + 1)) (lv' := [(5, .int (nI (i + 1))), (4, .int (nI b)), (0, .ref (h 0)), (1, .int x), (2, .int x2), (3, .int (nI k))]) hx hb dX1_lineByShare_47 hl (k := 5) rfl (nI_1 _) (by decide) rfl (fun ls hl => ?_)
                  refine lv_goto (tgt := 18) hx hb dX1_lineByShare_50 (by decide) ?_
                  exact ih2 (i + 1) (b) (by omega) (by omega) (by unfold z_rk; rw [← eb, z10]; rfl) (by omega) ls (lv_sub hl [2, 3, 4, 5, 1, 0] rfl)
                · exact absurd c13 (by decide)
        exact loop2 (m_ln M + 1) 0 0 (Nat.zero_le _) (Nat.zero_le _) rfl (by omega) ls (lv_sub hl [2, 3, 4, 5, 1, 0] rfl)
  exact loop (m_ln M + 1) 0 (-1) (Nat.zero_le _) rfl (by omega) ls (lv_sub hl [2, 3, 1, 0] rfl)
