/-! THE REFERENCE: work and steps -/
set_option maxHeartbeats 4000000 in
set_option maxRecDepth 100000 in
theorem c1_setWork (l : Launch) (D : va_G) (h : Nat → Nat) (cA : ClassId) (rf : Int32) (M : MM) (hM : OK1 M) (x s9 : Int32) (sz : Nat) : Met l yX1_setWork wsX1_setWork ({ frames := 2, cells := 0, slots := 0, locals := 43 } : Room) (va_Pc [.ref (h 0), .int x, .int s9] (pW D [(cA, .int)] (w1 h cA rf M) sz)) (va_Qi (fun (r : Int32) (u : Int32 × MM) => y_post (y_setWork M x s9) r u) (fun u => qW D (va_A (w1 h cA rf M) sz) (w1 h cA u.1 u.2)) (va_A (w1 h cA rf M) sz)) 0 0 (va_A (w1 h cA rf M) sz) := by
  refine Met.ofW (cc := cX1_setWork) (maxL := 7) (ret := (some .int)) (by decide) rfl ?_
  intro p e s m args below meth c s₁ B hml hv
  obtain ⟨rfl, hsz, hP, hK, hD0⟩ := hv
  have hx := B.exec
  have hb := B.bytes
  have hr := B.returns
  have hts := atoms_spec (ws := wsX1_setWork) B.pre
  have hown : s.vm.findClass RX1 = some m.cls := findClass_of_methodNamed B.named
  have hlocks := B.notSynchronized
  have kw0 := hts (.fieldLink RX1 7 "ProgressBillingModel" "values" "[I") (by decide +kernel)
  have kw1 := hts (.fieldLink RX1 16 "ProgressBillingModel" "works" "[I") (by decide +kernel)
  have kw2 := hts (.fieldLink RX1 13 "ProgressBillingModel" "earned" "[I") (by decide +kernel)
  have hin0 : ∀ w ∈ u_ws RX1 TX1 14, w ∈ wsX1_setWork := by decide +kernel
  subst hsz
  have hD := hD0.self (sz := s.heap.size)
  generalize hAe : va_A (w1 h cA rf M) s.heap.size = A at hD ⊢
  have hA : ∀ q : Nat, s.heap.size ≤ q → A q := fun q h => by rw [← hAe]; exact Or.inr h
  have hS : va_S A s.heap s.heap [] := va_S.rf
  have hP : va_P D vwCl (w1 h cA rf M) s.heap := hP
  obtain ⟨hn1, hn4⟩ := id hM
  have hl := lv_entry ([.ref (h 0), .int x, .int s9]) (n := 7) (Nat.le_of_ble_eq_true rfl)
  rw [lg_entry_eq]
  generalize (lg_sl ([.ref (h 0), .int x, .int s9]) ++ List.replicate (7 - (lg_sl ([.ref (h 0), .int x, .int s9])).length) Slot.unset).toArray = ls at hl ⊢
  have hl : lv_has ls 7 [(0, .ref (h 0)), (1, .int x), (2, .int s9)] := hl
  refine w_abs (fun Q hQ => ?_)
  refine lv_aload_n hx hb dX1_setWork_0 rfl (lv_at hl 0 rfl) ?_
  refine lv_iload_n hx hb dX1_setWork_1 rfl (lv_at hl 1 rfl) ?_
  refine vp_callSi (W.runV (As := [.int x]) (rest := []) ⟨hx, hb, hml, hown, hts⟩ (c1_isLine l D h cA rf M hM x) (cwV 1 hts gX1_setWork_X1_isLine rfl rfl rfl (by decide +kernel) ⟨Nat.le_of_ble_eq_true rfl, Nat.le_of_ble_eq_true rfl⟩) ⟨pR_fb, va_recv hK hP (ci := 1) (q0 := 0) rfl rfl, pR_mk hP hK⟩ rfl rfl hl.1 rfl (lv_room (Nat.le_of_ble_eq_true rfl)) dX1_setWork_2 ⟨Nat.le_of_ble_eq_true rfl, Nat.le_of_ble_eq_true rfl⟩) (fun r1 qr1 => ?_)
  rcases ixL_c (n := m_ln M) (x := x) (by omega) with hix | ⟨j, hj, ex, hix⟩
  · have qr1 : r1 = 0 := by rw [qr1, hix]; rfl
    subst qr1
    refine lv_istore_n (lv' := [(3, .int 0), (0, .ref (h 0)), (1, .int x), (2, .int s9)]) hx hb dX1_setWork_5 rfl hl (by decide) rfl (fun ls hl => ?_)
    refine lv_iload_n hx hb dX1_setWork_6 rfl (lv_at hl 0 rfl) ?_
    refine lv_if_eq (tgt := 34) hx hb dX1_setWork_7 (by decide) (fun c2 => ?_) (fun c2 => ?_)
    · refine lv_iconst (v := 0) hx hb dX1_setWork_34 (by decide) ?_
      refine lv_istore (lv' := [(4, .int 0), (3, .int 0), (0, .ref (h 0)), (1, .int x), (2, .int s9)]) hx hb dX1_setWork_35 hl (by decide) rfl (fun ls hl => ?_)
      refine lv_iload_n hx hb dX1_setWork_37 rfl (lv_at hl 1 rfl) ?_
      refine lv_if_eq (tgt := 81) hx hb dX1_setWork_38 (by decide) (fun c3 => ?_) (fun c3 => ?_)
      · refine lv_iconst (v := 0) hx hb dX1_setWork_81 (by decide) ?_
        refine lv_istore (lv' := [(5, .int 0), (4, .int 0), (3, .int 0), (0, .ref (h 0)), (1, .int x), (2, .int s9)]) hx hb dX1_setWork_82 hl (by decide) rfl (fun ls hl => ?_)
        refine lv_aload_n hx hb dX1_setWork_84 rfl (lv_at hl 3 rfl) ?_
        refine lv_iload_n hx hb dX1_setWork_85 rfl (lv_at hl 2 rfl) ?_
        refine lv_if_ne (tgt := 93) hx hb dX1_setWork_86 (by decide) (fun c4 => ?_) (fun c4 => ?_)
        · exact absurd c4 (by decide)
        · refine lv_iconst (v := 1) hx hb dX1_setWork_89 (by decide) ?_
          refine lv_goto (tgt := 118) hx hb dX1_setWork_90 (by decide) ?_
          refine g_calliS (wf := fun u : Int32 => w1 h cA u M) (va_runV (As := [.int 1]) (rest := []) ⟨hx, hb, hml, hown, hts⟩ (c1_refused l D h cA rf M 1 s.heap.size) (cwV 1 hts gX1_setWork_X1_refused rfl rfl rfl (by decide +kernel) ⟨Nat.le_of_ble_eq_true rfl, Nat.le_of_ble_eq_true rfl⟩) ⟨pW_fb, va_recv hK hP (ci := 1) (q0 := 0) rfl rfl, pW_mk hP hK hD⟩ rfl rfl hl.1 rfl (lv_room (Nat.le_of_ble_eq_true rfl)) dX1_setWork_118 ⟨Nat.le_of_ble_eq_true rfl, Nat.le_of_ble_eq_true rfl⟩) hP hD hS hA (fun r5 ur5 H locs qr5 hP hD hS => ?_)
          obtain ⟨qr5, eur5⟩ := qr5
          have qr5 : r5 = 1 := qr5
          subst qr5
          have eur5 : ur5 = 1 := eur5
          subst eur5
          refine lv_if_eq (tgt := 126) hx hb dX1_setWork_121 (by decide) (fun c6 => ?_) (fun c6 => ?_)
          · exact absurd c6 (by decide)
          · refine lv_iconst (v := 0) hx hb dX1_setWork_124 (by decide) ?_
            subst hQ
            exact W.iret (v := 0) hx hb hr (fun t ht hW => ⟨⟨0, (1, M), rfl, (y_pk 1 (by simp [y_setWork, hix, pk_us]) rfl), by rw [ht]; exact hP, hD⟩, hS.F ht⟩) hS.2.2 dX1_setWork_125
      · exact absurd c3 (by decide)
    · exact absurd c2 (by decide)
  · have qr1 : r1 = 1 := by rw [qr1, hix]; rfl
    subst qr1
    subst ex
    refine lv_istore_n (lv' := [(3, .int 1), (0, .ref (h 0)), (1, .int (nI j)), (2, .int s9)]) hx hb dX1_setWork_5 rfl hl (by decide) rfl (fun ls hl => ?_)
    refine lv_iload_n hx hb dX1_setWork_6 rfl (lv_at hl 0 rfl) ?_
    refine lv_if_eq (tgt := 34) hx hb dX1_setWork_7 (by decide) (fun c7 => ?_) (fun c7 => ?_)
    · exact absurd c7 (by decide)
    · refine lv_iload_n hx hb dX1_setWork_10 rfl (lv_at hl 3 rfl) ?_
      refine lv_iconst (v := 0) hx hb dX1_setWork_11 (by decide) ?_
      refine lv_sipush (v := 1000) hx hb dX1_setWork_12 (by decide) ?_
      refine vp_callSi (W.runS (As := [.int s9, .int 0, .int 1000]) (rest := []) ⟨hx, hb, hml, hown, hts⟩ (c1_in l s9 0 1000) (va_cwS 3 hts gX1_setWork_X1_in rfl rfl rfl (by decide +kernel) ⟨Nat.le_of_ble_eq_true rfl, Nat.le_of_ble_eq_true rfl⟩) ⟨nil_fb, nil_mk⟩ rfl rfl hl.1 rfl (lv_room (Nat.le_of_ble_eq_true rfl)) dX1_setWork_15 ⟨Nat.le_of_ble_eq_true rfl, Nat.le_of_ble_eq_true rfl⟩) (fun r8 qr8 => ?_)
      rcases bl_c (inR s9 0 1000) with z9 | z9
      · have qr8 : r8 = 1 := by rw [qr8, z9]; rfl
        subst qr8
        refine lv_if_eq (tgt := 34) hx hb dX1_setWork_18 (by decide) (fun c10 => ?_) (fun c10 => ?_)
        · exact absurd c10 (by decide)
        · refine lv_aload_n hx hb dX1_setWork_21 rfl (lv_at hl 1 rfl) ?_
          refine va_get (D := D) (ci := 1) (v := .ref (h 1)) (C := RX1) (T := TX1) (N := 14) hx hb hts hin0 hown hK hP 0 rfl rfl 2 (by decide) kw0 (fun _ h9 => h9) rfl dX1_setWork_22 ?_
          refine lv_iload_n hx hb dX1_setWork_25 rfl (lv_at hl 2 rfl) ?_
          refine r_ald (f := m_lv M) (j := j) hx hb hK hP 1 0 rfl rfl (by omega) (by omega) dX1_setWork_26 ?_
          refine lv_iload_n hx hb dX1_setWork_27 rfl (lv_at hl 3 rfl) ?_
          refine vp_callSi (W.runS (As := [.int ((m_lv M) j), .int s9]) (rest := []) ⟨hx, hb, hml, hown, hts⟩ (c1_thousandths l ((m_lv M) j) s9) (va_cwS 2 hts gX1_setWork_X1_thousandths rfl rfl rfl (by decide +kernel) ⟨Nat.le_of_ble_eq_true rfl, Nat.le_of_ble_eq_true rfl⟩) ⟨nil_fb, nil_mk⟩ rfl rfl hl.1 rfl (lv_room (Nat.le_of_ble_eq_true rfl)) dX1_setWork_28 ⟨Nat.le_of_ble_eq_true rfl, Nat.le_of_ble_eq_true rfl⟩) (fun r11 qr11 => ?_)
          have qr11 : r11 = y_th ((m_lv M) j) s9 := qr11
          subst qr11
          refine lv_goto (tgt := 35) hx hb dX1_setWork_31 (by decide) ?_
          refine lv_istore (lv' := [(4, .int (y_th ((m_lv M) j) s9)), (3, .int 1), (0, .ref (h 0)), (1, .int (nI j)), (2, .int s9)]) hx hb dX1_setWork_35 hl (by decide) rfl (fun ls hl => ?_)
          refine lv_iload_n hx hb dX1_setWork_37 rfl (lv_at hl 1 rfl) ?_
          refine lv_if_eq (tgt := 81) hx hb dX1_setWork_38 (by decide) (fun c12 => ?_) (fun c12 => ?_)
          · exact absurd c12 (by decide)
          · refine lv_iload hx hb dX1_setWork_41 (lv_at hl 0 rfl) ?_
            refine lv_aload_n hx hb dX1_setWork_43 rfl (lv_at hl 2 rfl) ?_
            refine va_get (D := D) (ci := 1) (v := .ref (h 3)) (C := RX1) (T := TX1) (N := 14) hx hb hts hin0 hown hK hP 0 rfl rfl 4 (by decide) kw1 (fun _ h9 => h9) rfl dX1_setWork_44 ?_
            refine lv_iload_n hx hb dX1_setWork_47 rfl (lv_at hl 3 rfl) ?_
            refine r_ald (f := m_lw M) (j := j) hx hb hK hP 3 0 rfl rfl (by omega) (by omega) dX1_setWork_48 ?_
            refine lv_icmp_lt (tgt := 81) hx hb dX1_setWork_49 (by decide) (fun c13 => ?_) (fun c13 => ?_)
            · refine lv_iconst (v := 0) hx hb dX1_setWork_81 (by decide) ?_
              refine lv_istore (lv' := [(5, .int 0), (4, .int (y_th ((m_lv M) j) s9)), (3, .int 1), (0, .ref (h 0)), (1, .int (nI j)), (2, .int s9)]) hx hb dX1_setWork_82 hl (by decide) rfl (fun ls hl => ?_)
              refine lv_aload_n hx hb dX1_setWork_84 rfl (lv_at hl 3 rfl) ?_
              refine lv_iload_n hx hb dX1_setWork_85 rfl (lv_at hl 2 rfl) ?_
              refine lv_if_ne (tgt := 93) hx hb dX1_setWork_86 (by decide) (fun c14 => ?_) (fun c14 => ?_)
              · refine lv_iload_n hx hb dX1_setWork_93 rfl (lv_at hl 5 rfl) ?_
                refine lv_iconst (v := 0) hx hb dX1_setWork_94 (by decide) ?_
                refine lv_sipush (v := 1000) hx hb dX1_setWork_95 (by decide) ?_
                refine vp_callSi (W.runS (As := [.int s9, .int 0, .int 1000]) (rest := [.ref (h 0)]) ⟨hx, hb, hml, hown, hts⟩ (c1_in l s9 0 1000) (va_cwS 3 hts gX1_setWork_X1_in rfl rfl rfl (by decide +kernel) ⟨Nat.le_of_ble_eq_true rfl, Nat.le_of_ble_eq_true rfl⟩) ⟨nil_fb, nil_mk⟩ rfl rfl hl.1 rfl (lv_room (Nat.le_of_ble_eq_true rfl)) dX1_setWork_98 ⟨Nat.le_of_ble_eq_true rfl, Nat.le_of_ble_eq_true rfl⟩) (fun r15 qr15 => ?_)
                have qr15 : r15 = 1 := by rw [qr15, z9]; rfl
                subst qr15
                refine lv_if_ne (tgt := 108) hx hb dX1_setWork_101 (by decide) (fun c16 => ?_) (fun c16 => ?_)
                · refine lv_iload hx hb dX1_setWork_108 (lv_at hl 0 rfl) ?_
                  refine lv_if_eq (tgt := 117) hx hb dX1_setWork_110 (by decide) (fun c17 => ?_) (fun c17 => ?_)
                  · refine lv_iconst (v := 3) hx hb dX1_setWork_117 (by decide) ?_
                    refine g_calliS (wf := fun u : Int32 => w1 h cA u M) (va_runV (As := [.int 3]) (rest := []) ⟨hx, hb, hml, hown, hts⟩ (c1_refused l D h cA rf M 3 s.heap.size) (cwV 1 hts gX1_setWork_X1_refused rfl rfl rfl (by decide +kernel) ⟨Nat.le_of_ble_eq_true rfl, Nat.le_of_ble_eq_true rfl⟩) ⟨pW_fb, va_recv hK hP (ci := 1) (q0 := 0) rfl rfl, pW_mk hP hK hD⟩ rfl rfl hl.1 rfl (lv_room (Nat.le_of_ble_eq_true rfl)) dX1_setWork_118 ⟨Nat.le_of_ble_eq_true rfl, Nat.le_of_ble_eq_true rfl⟩) hP hD hS hA (fun r18 ur18 H locs qr18 hP hD hS => ?_)
                    obtain ⟨qr18, eur18⟩ := qr18
                    have qr18 : r18 = 1 := qr18
                    subst qr18
                    have eur18 : ur18 = 3 := eur18
                    subst eur18
                    refine lv_if_eq (tgt := 126) hx hb dX1_setWork_121 (by decide) (fun c19 => ?_) (fun c19 => ?_)
                    · exact absurd c19 (by decide)
                    · refine lv_iconst (v := 0) hx hb dX1_setWork_124 (by decide) ?_
                      subst hQ
                      exact W.iret (v := 0) hx hb hr (fun t ht hW => ⟨⟨0, (3, M), rfl, (y_pk 3 (by first | (simp [y_setWork, hix, z9, c13, pk_us]; done) | (simp only [y_setWork, hix, z9]; simp [c13, pk_us]; done)) rfl), by rw [ht]; exact hP, hD⟩, hS.F ht⟩) hS.2.2 dX1_setWork_125
                  · exact absurd c17 (by decide)
                · exact absurd c16 (by decide)
              · exact absurd c14 (by decide)
            · refine lv_iload hx hb dX1_setWork_52 (lv_at hl 0 rfl) ?_
              refine lv_aload_n hx hb dX1_setWork_54 rfl (lv_at hl 2 rfl) ?_
              refine va_get (D := D) (ci := 1) (v := .ref (h 3)) (C := RX1) (T := TX1) (N := 14) hx hb hts hin0 hown hK hP 0 rfl rfl 4 (by decide) kw1 (fun _ h9 => h9) rfl dX1_setWork_55 ?_
              refine lv_iload_n hx hb dX1_setWork_58 rfl (lv_at hl 3 rfl) ?_
              refine r_ald (f := m_lw M) (j := j) hx hb hK hP 3 0 rfl rfl (by omega) (by omega) dX1_setWork_59 ?_
              refine lv_isub hx hb dX1_setWork_60 ?_
              refine lv_aload_n hx hb dX1_setWork_61 rfl (lv_at hl 2 rfl) ?_
              refine va_get (D := D) (ci := 1) (v := .ref (h 1)) (C := RX1) (T := TX1) (N := 14) hx hb hts hin0 hown hK hP 0 rfl rfl 2 (by decide) kw0 (fun _ h9 => h9) rfl dX1_setWork_62 ?_
              refine lv_iload_n hx hb dX1_setWork_65 rfl (lv_at hl 3 rfl) ?_
              refine r_ald (f := m_lv M) (j := j) hx hb hK hP 1 0 rfl rfl (by omega) (by omega) dX1_setWork_66 ?_
              refine lv_aload_n hx hb dX1_setWork_67 rfl (lv_at hl 2 rfl) ?_
              refine va_get (D := D) (ci := 1) (v := .ref (h 2)) (C := RX1) (T := TX1) (N := 14) hx hb hts hin0 hown hK hP 0 rfl rfl 3 (by decide) kw2 (fun _ h9 => h9) rfl dX1_setWork_68 ?_
              refine lv_iload_n hx hb dX1_setWork_71 rfl (lv_at hl 3 rfl) ?_
              refine r_ald (f := m_le M) (j := j) hx hb hK hP 2 0 rfl rfl (by omega) (by omega) dX1_setWork_72 ?_
              refine lv_isub hx hb dX1_setWork_73 ?_
              refine lv_icmp_gt (tgt := 81) hx hb dX1_setWork_74 (by decide) (fun c20 => ?_) (fun c20 => ?_)
              · refine lv_iconst (v := 0) hx hb dX1_setWork_81 (by decide) ?_
                refine lv_istore (lv' := [(5, .int 0), (4, .int (y_th ((m_lv M) j) s9)), (3, .int 1), (0, .ref (h 0)), (1, .int (nI j)), (2, .int s9)]) hx hb dX1_setWork_82 hl (by decide) rfl (fun ls hl => ?_)
                refine lv_aload_n hx hb dX1_setWork_84 rfl (lv_at hl 3 rfl) ?_
                refine lv_iload_n hx hb dX1_setWork_85 rfl (lv_at hl 2 rfl) ?_
                refine lv_if_ne (tgt := 93) hx hb dX1_setWork_86 (by decide) (fun c21 => ?_) (fun c21 => ?_)
                · refine lv_iload_n hx hb dX1_setWork_93 rfl (lv_at hl 5 rfl) ?_
                  refine lv_iconst (v := 0) hx hb dX1_setWork_94 (by decide) ?_
                  refine lv_sipush (v := 1000) hx hb dX1_setWork_95 (by decide) ?_
                  refine vp_callSi (W.runS (As := [.int s9, .int 0, .int 1000]) (rest := [.ref (h 0)]) ⟨hx, hb, hml, hown, hts⟩ (c1_in l s9 0 1000) (va_cwS 3 hts gX1_setWork_X1_in rfl rfl rfl (by decide +kernel) ⟨Nat.le_of_ble_eq_true rfl, Nat.le_of_ble_eq_true rfl⟩) ⟨nil_fb, nil_mk⟩ rfl rfl hl.1 rfl (lv_room (Nat.le_of_ble_eq_true rfl)) dX1_setWork_98 ⟨Nat.le_of_ble_eq_true rfl, Nat.le_of_ble_eq_true rfl⟩) (fun r22 qr22 => ?_)
                  have qr22 : r22 = 1 := by rw [qr22, z9]; rfl
                  subst qr22
                  refine lv_if_ne (tgt := 108) hx hb dX1_setWork_101 (by decide) (fun c23 => ?_) (fun c23 => ?_)
                  · refine lv_iload hx hb dX1_setWork_108 (lv_at hl 0 rfl) ?_
                    refine lv_if_eq (tgt := 117) hx hb dX1_setWork_110 (by decide) (fun c24 => ?_) (fun c24 => ?_)
                    · refine lv_iconst (v := 3) hx hb dX1_setWork_117 (by decide) ?_
                      refine g_calliS (wf := fun u : Int32 => w1 h cA u M) (va_runV (As := [.int 3]) (rest := []) ⟨hx, hb, hml, hown, hts⟩ (c1_refused l D h cA rf M 3 s.heap.size) (cwV 1 hts gX1_setWork_X1_refused rfl rfl rfl (by decide +kernel) ⟨Nat.le_of_ble_eq_true rfl, Nat.le_of_ble_eq_true rfl⟩) ⟨pW_fb, va_recv hK hP (ci := 1) (q0 := 0) rfl rfl, pW_mk hP hK hD⟩ rfl rfl hl.1 rfl (lv_room (Nat.le_of_ble_eq_true rfl)) dX1_setWork_118 ⟨Nat.le_of_ble_eq_true rfl, Nat.le_of_ble_eq_true rfl⟩) hP hD hS hA (fun r25 ur25 H locs qr25 hP hD hS => ?_)
                      obtain ⟨qr25, eur25⟩ := qr25
                      have qr25 : r25 = 1 := qr25
                      subst qr25
                      have eur25 : ur25 = 3 := eur25
                      subst eur25
                      refine lv_if_eq (tgt := 126) hx hb dX1_setWork_121 (by decide) (fun c26 => ?_) (fun c26 => ?_)
                      · exact absurd c26 (by decide)
                      · refine lv_iconst (v := 0) hx hb dX1_setWork_124 (by decide) ?_
                        subst hQ
                        exact W.iret (v := 0) hx hb hr (fun t ht hW => ⟨⟨0, (3, M), rfl, (y_pk 3 (by first | (simp [y_setWork, hix, z9, c13, c20, pk_us]; done) | (simp only [y_setWork, hix, z9, c13]; simp [c20, pk_us]; done)) rfl), by rw [ht]; exact hP, hD⟩, hS.F ht⟩) hS.2.2 dX1_setWork_125
                    · exact absurd c24 (by decide)
                  · exact absurd c23 (by decide)
                · exact absurd c21 (by decide)
              · refine lv_iconst (v := 1) hx hb dX1_setWork_77 (by decide) ?_
                refine lv_goto (tgt := 82) hx hb dX1_setWork_78 (by decide) ?_
                refine lv_istore (lv' := [(5, .int 1), (4, .int (y_th ((m_lv M) j) s9)), (3, .int 1), (0, .ref (h 0)), (1, .int (nI j)), (2, .int s9)]) hx hb dX1_setWork_82 hl (by decide) rfl (fun ls hl => ?_)
                refine lv_aload_n hx hb dX1_setWork_84 rfl (lv_at hl 3 rfl) ?_
                refine lv_iload_n hx hb dX1_setWork_85 rfl (lv_at hl 2 rfl) ?_
                refine lv_if_ne (tgt := 93) hx hb dX1_setWork_86 (by decide) (fun c27 => ?_) (fun c27 => ?_)
                · refine lv_iload_n hx hb dX1_setWork_93 rfl (lv_at hl 5 rfl) ?_
                  refine lv_iconst (v := 0) hx hb dX1_setWork_94 (by decide) ?_
                  refine lv_sipush (v := 1000) hx hb dX1_setWork_95 (by decide) ?_
                  refine vp_callSi (W.runS (As := [.int s9, .int 0, .int 1000]) (rest := [.ref (h 0)]) ⟨hx, hb, hml, hown, hts⟩ (c1_in l s9 0 1000) (va_cwS 3 hts gX1_setWork_X1_in rfl rfl rfl (by decide +kernel) ⟨Nat.le_of_ble_eq_true rfl, Nat.le_of_ble_eq_true rfl⟩) ⟨nil_fb, nil_mk⟩ rfl rfl hl.1 rfl (lv_room (Nat.le_of_ble_eq_true rfl)) dX1_setWork_98 ⟨Nat.le_of_ble_eq_true rfl, Nat.le_of_ble_eq_true rfl⟩) (fun r28 qr28 => ?_)
                  have qr28 : r28 = 1 := by rw [qr28, z9]; rfl
                  subst qr28
                  refine lv_if_ne (tgt := 108) hx hb dX1_setWork_101 (by decide) (fun c29 => ?_) (fun c29 => ?_)
                  · refine lv_iload hx hb dX1_setWork_108 (lv_at hl 0 rfl) ?_
                    refine lv_if_eq (tgt := 117) hx hb dX1_setWork_110 (by decide) (fun c30 => ?_) (fun c30 => ?_)
                    · exact absurd c30 (by decide)
                    · refine lv_iconst (v := 0) hx hb dX1_setWork_113 (by decide) ?_
                      refine lv_goto (tgt := 118) hx hb dX1_setWork_114 (by decide) ?_
                      refine g_calliS (wf := fun u : Int32 => w1 h cA u M) (va_runV (As := [.int 0]) (rest := []) ⟨hx, hb, hml, hown, hts⟩ (c1_refused l D h cA rf M 0 s.heap.size) (cwV 1 hts gX1_setWork_X1_refused rfl rfl rfl (by decide +kernel) ⟨Nat.le_of_ble_eq_true rfl, Nat.le_of_ble_eq_true rfl⟩) ⟨pW_fb, va_recv hK hP (ci := 1) (q0 := 0) rfl rfl, pW_mk hP hK hD⟩ rfl rfl hl.1 rfl (lv_room (Nat.le_of_ble_eq_true rfl)) dX1_setWork_118 ⟨Nat.le_of_ble_eq_true rfl, Nat.le_of_ble_eq_true rfl⟩) hP hD hS hA (fun r31 ur31 H locs qr31 hP hD hS => ?_)
                      obtain ⟨qr31, eur31⟩ := qr31
                      have qr31 : r31 = 0 := qr31
                      subst qr31
                      have eur31 : ur31 = 0 := eur31
                      subst eur31
                      refine lv_if_eq (tgt := 126) hx hb dX1_setWork_121 (by decide) (fun c32 => ?_) (fun c32 => ?_)
                      · refine lv_iload hx hb dX1_setWork_126 (lv_at hl 1 rfl) ?_
                        refine lv_aload_n hx hb dX1_setWork_128 rfl (lv_at hl 3 rfl) ?_
                        refine va_get (D := D) (ci := 1) (v := .ref (h 3)) (C := RX1) (T := TX1) (N := 14) hx hb hts hin0 hown hK hP 0 rfl rfl 4 (by decide) kw1 (fun _ h9 => h9) rfl dX1_setWork_129 ?_
                        refine lv_iload_n hx hb dX1_setWork_132 rfl (lv_at hl 4 rfl) ?_
                        refine r_ald (f := m_lw M) (j := j) hx hb hK hP 3 0 rfl rfl (by omega) (by omega) dX1_setWork_133 ?_
                        refine lv_isub hx hb dX1_setWork_134 ?_
                        refine lv_istore (lv' := [(6, .int ((y_th ((m_lv M) j) s9) - ((m_lw M) j))), (5, .int 1), (4, .int (y_th ((m_lv M) j) s9)), (3, .int 1), (0, .ref (h 0)), (1, .int (nI j)), (2, .int s9)]) hx hb dX1_setWork_135 hl (by decide) rfl (fun ls hl => ?_)
                        refine lv_aload_n hx hb dX1_setWork_137 rfl (lv_at hl 4 rfl) ?_
                        refine va_get (D := D) (ci := 1) (v := .ref (h 3)) (C := RX1) (T := TX1) (N := 14) hx hb hts hin0 hown hK hP 0 rfl rfl 4 (by decide) kw1 (fun _ h9 => h9) rfl dX1_setWork_138 ?_
                        refine lv_iload_n hx hb dX1_setWork_141 rfl (lv_at hl 5 rfl) ?_
                        refine lv_iload hx hb dX1_setWork_142 (lv_at hl 2 rfl) ?_
                        refine r_ast (f := m_lw M) (j := j) (v := y_th ((m_lv M) j) s9) hx hb hK hP hD hS 3 0 rfl rfl (by omega) (by omega) dX1_setWork_144 (fun H locs hP hD hS => ?_)
                        obtain ⟨N33, eN33⟩ : ∃ N9 : MM, N9 = s_lw M (upd (m_lw M) j (y_th ((m_lv M) j) s9)) := ⟨_, rfl⟩
                        rw [q1_lw, ← eN33] at hP hD
                        have aN33_lv : m_lv N33 = m_lv M := by rw [eN33]; rfl
                        have aN33_lw : m_lw N33 = upd (m_lw M) j (y_th ((m_lv M) j) s9) := by rw [eN33]; rfl
                        have aN33_le : m_le N33 = m_le M := by rw [eN33]; rfl
                        refine lv_aload_n hx hb dX1_setWork_145 rfl (lv_at hl 4 rfl) ?_
                        refine va_get (D := D) (ci := 1) (v := .ref (h 2)) (C := RX1) (T := TX1) (N := 14) hx hb hts hin0 hown hK hP 0 rfl rfl 3 (by decide) kw2 (fun _ h9 => h9) rfl dX1_setWork_146 ?_
                        refine lv_iload_n hx hb dX1_setWork_149 rfl (lv_at hl 5 rfl) ?_
                        refine lv_dup2_11 hx hb dX1_setWork_150 rfl rfl ?_
                        refine r_ald (f := m_le N33) (j := j) hx hb hK hP 2 0 rfl rfl (by omega) (by omega) dX1_setWork_151 ?_
                        refine lv_topi (fun y34 ey34 => ?_)
                        rw [aN33_le] at ey34
                        subst ey34
                        refine lv_iload hx hb dX1_setWork_152 (lv_at hl 0 rfl) ?_
                        refine lv_iadd hx hb dX1_setWork_154 ?_
                        refine r_ast (f := m_le N33) (j := j) (v := ((m_le M) j) + ((y_th ((m_lv M) j) s9) - ((m_lw M) j))) hx hb hK hP hD hS 2 0 rfl rfl (by omega) (by omega) dX1_setWork_155 (fun H locs hP hD hS => ?_)
                        rw [aN33_le] at hP hD
                        obtain ⟨N36, eN36⟩ : ∃ N9 : MM, N9 = s_le N33 (upd (m_le M) j (((m_le M) j) + ((y_th ((m_lv M) j) s9) - ((m_lw M) j)))) := ⟨_, rfl⟩
                        rw [q1_le, ← eN36] at hP hD
                        have aN36_lv : m_lv N36 = m_lv M := by rw [eN36]; exact aN33_lv
                        have aN36_lw : m_lw N36 = upd (m_lw M) j (y_th ((m_lv M) j) s9) := by rw [eN36]; exact aN33_lw
                        have aN36_le : m_le N36 = upd (m_le M) j (((m_le M) j) + ((y_th ((m_lv M) j) s9) - ((m_lw M) j))) := by rw [eN36]; rfl
                        refine lv_iload hx hb dX1_setWork_156 (lv_at hl 0 rfl) ?_
                        subst hQ
                        exact W.iret (v := (y_th ((m_lv M) j) s9) - ((m_lw M) j)) hx hb hr (fun t ht hW => ⟨⟨(y_th ((m_lv M) j) s9) - ((m_lw M) j), (0, N36), rfl, (by subst eN33 eN36; exact (y_pk 0 (by first | (simp [y_setWork, hix, z9, c13, c20, pk_us]; done) | (simp only [y_setWork, hix, z9, c13]; simp [c20, pk_us]; done)) rfl)), by rw [ht]; exact hP, hD⟩, hS.F ht⟩) hS.2.2 dX1_setWork_158
                      · exact absurd c32 (by decide)
                  · exact absurd c29 (by decide)
                · exact absurd c27 (by decide)
      · have qr8 : r8 = 0 := by rw [qr8, z9]; rfl
        subst qr8
        refine lv_if_eq (tgt := 34) hx hb dX1_setWork_18 (by decide) (fun c37 => ?_) (fun c37 => ?_)
        · refine lv_iconst (v := 0) hx hb dX1_setWork_34 (by decide) ?_
          refine lv_istore (lv' := [(4, .int 0), (3, .int 1), (0, .ref (h 0)), (1, .int (nI j)), (2, .int s9)]) hx hb dX1_setWork_35 hl (by decide) rfl (fun ls hl => ?_)
          refine lv_iload_n hx hb dX1_setWork_37 rfl (lv_at hl 1 rfl) ?_
          refine lv_if_eq (tgt := 81) hx hb dX1_setWork_38 (by decide) (fun c38 => ?_) (fun c38 => ?_)
          · exact absurd c38 (by decide)
          · refine lv_iload hx hb dX1_setWork_41 (lv_at hl 0 rfl) ?_
            refine lv_aload_n hx hb dX1_setWork_43 rfl (lv_at hl 2 rfl) ?_
            refine va_get (D := D) (ci := 1) (v := .ref (h 3)) (C := RX1) (T := TX1) (N := 14) hx hb hts hin0 hown hK hP 0 rfl rfl 4 (by decide) kw1 (fun _ h9 => h9) rfl dX1_setWork_44 ?_
            refine lv_iload_n hx hb dX1_setWork_47 rfl (lv_at hl 3 rfl) ?_
            refine r_ald (f := m_lw M) (j := j) hx hb hK hP 3 0 rfl rfl (by omega) (by omega) dX1_setWork_48 ?_
            refine lv_icmp_lt (tgt := 81) hx hb dX1_setWork_49 (by decide) (fun c39 => ?_) (fun c39 => ?_)
            · refine lv_iconst (v := 0) hx hb dX1_setWork_81 (by decide) ?_
              refine lv_istore (lv' := [(5, .int 0), (4, .int 0), (3, .int 1), (0, .ref (h 0)), (1, .int (nI j)), (2, .int s9)]) hx hb dX1_setWork_82 hl (by decide) rfl (fun ls hl => ?_)
              refine lv_aload_n hx hb dX1_setWork_84 rfl (lv_at hl 3 rfl) ?_
              refine lv_iload_n hx hb dX1_setWork_85 rfl (lv_at hl 2 rfl) ?_
              refine lv_if_ne (tgt := 93) hx hb dX1_setWork_86 (by decide) (fun c40 => ?_) (fun c40 => ?_)
              · refine lv_iload_n hx hb dX1_setWork_93 rfl (lv_at hl 5 rfl) ?_
                refine lv_iconst (v := 0) hx hb dX1_setWork_94 (by decide) ?_
                refine lv_sipush (v := 1000) hx hb dX1_setWork_95 (by decide) ?_
                refine vp_callSi (W.runS (As := [.int s9, .int 0, .int 1000]) (rest := [.ref (h 0)]) ⟨hx, hb, hml, hown, hts⟩ (c1_in l s9 0 1000) (va_cwS 3 hts gX1_setWork_X1_in rfl rfl rfl (by decide +kernel) ⟨Nat.le_of_ble_eq_true rfl, Nat.le_of_ble_eq_true rfl⟩) ⟨nil_fb, nil_mk⟩ rfl rfl hl.1 rfl (lv_room (Nat.le_of_ble_eq_true rfl)) dX1_setWork_98 ⟨Nat.le_of_ble_eq_true rfl, Nat.le_of_ble_eq_true rfl⟩) (fun r41 qr41 => ?_)
                have qr41 : r41 = 0 := by rw [qr41, z9]; rfl
                subst qr41
                refine lv_if_ne (tgt := 108) hx hb dX1_setWork_101 (by decide) (fun c42 => ?_) (fun c42 => ?_)
                · exact absurd c42 (by decide)
                · refine lv_iconst (v := 2) hx hb dX1_setWork_104 (by decide) ?_
                  refine lv_goto (tgt := 118) hx hb dX1_setWork_105 (by decide) ?_
                  refine g_calliS (wf := fun u : Int32 => w1 h cA u M) (va_runV (As := [.int 2]) (rest := []) ⟨hx, hb, hml, hown, hts⟩ (c1_refused l D h cA rf M 2 s.heap.size) (cwV 1 hts gX1_setWork_X1_refused rfl rfl rfl (by decide +kernel) ⟨Nat.le_of_ble_eq_true rfl, Nat.le_of_ble_eq_true rfl⟩) ⟨pW_fb, va_recv hK hP (ci := 1) (q0 := 0) rfl rfl, pW_mk hP hK hD⟩ rfl rfl hl.1 rfl (lv_room (Nat.le_of_ble_eq_true rfl)) dX1_setWork_118 ⟨Nat.le_of_ble_eq_true rfl, Nat.le_of_ble_eq_true rfl⟩) hP hD hS hA (fun r43 ur43 H locs qr43 hP hD hS => ?_)
                  obtain ⟨qr43, eur43⟩ := qr43
                  have qr43 : r43 = 1 := qr43
                  subst qr43
                  have eur43 : ur43 = 2 := eur43
                  subst eur43
                  refine lv_if_eq (tgt := 126) hx hb dX1_setWork_121 (by decide) (fun c44 => ?_) (fun c44 => ?_)
                  · exact absurd c44 (by decide)
                  · refine lv_iconst (v := 0) hx hb dX1_setWork_124 (by decide) ?_
                    subst hQ
                    exact W.iret (v := 0) hx hb hr (fun t ht hW => ⟨⟨0, (2, M), rfl, (y_pk 2 (by first | (simp [y_setWork, hix, z9, c39, pk_us]; done) | (simp only [y_setWork, hix, z9]; simp [c39, pk_us]; done)) rfl), by rw [ht]; exact hP, hD⟩, hS.F ht⟩) hS.2.2 dX1_setWork_125
              · exact absurd c40 (by decide)
            · refine lv_iload hx hb dX1_setWork_52 (lv_at hl 0 rfl) ?_
              refine lv_aload_n hx hb dX1_setWork_54 rfl (lv_at hl 2 rfl) ?_
              refine va_get (D := D) (ci := 1) (v := .ref (h 3)) (C := RX1) (T := TX1) (N := 14) hx hb hts hin0 hown hK hP 0 rfl rfl 4 (by decide) kw1 (fun _ h9 => h9) rfl dX1_setWork_55 ?_
              refine lv_iload_n hx hb dX1_setWork_58 rfl (lv_at hl 3 rfl) ?_
              refine r_ald (f := m_lw M) (j := j) hx hb hK hP 3 0 rfl rfl (by omega) (by omega) dX1_setWork_59 ?_
              refine lv_isub hx hb dX1_setWork_60 ?_
              refine lv_aload_n hx hb dX1_setWork_61 rfl (lv_at hl 2 rfl) ?_
              refine va_get (D := D) (ci := 1) (v := .ref (h 1)) (C := RX1) (T := TX1) (N := 14) hx hb hts hin0 hown hK hP 0 rfl rfl 2 (by decide) kw0 (fun _ h9 => h9) rfl dX1_setWork_62 ?_
              refine lv_iload_n hx hb dX1_setWork_65 rfl (lv_at hl 3 rfl) ?_
              refine r_ald (f := m_lv M) (j := j) hx hb hK hP 1 0 rfl rfl (by omega) (by omega) dX1_setWork_66 ?_
              refine lv_aload_n hx hb dX1_setWork_67 rfl (lv_at hl 2 rfl) ?_
              refine va_get (D := D) (ci := 1) (v := .ref (h 2)) (C := RX1) (T := TX1) (N := 14) hx hb hts hin0 hown hK hP 0 rfl rfl 3 (by decide) kw2 (fun _ h9 => h9) rfl dX1_setWork_68 ?_
              refine lv_iload_n hx hb dX1_setWork_71 rfl (lv_at hl 3 rfl) ?_
              refine r_ald (f := m_le M) (j := j) hx hb hK hP 2 0 rfl rfl (by omega) (by omega) dX1_setWork_72 ?_
              refine lv_isub hx hb dX1_setWork_73 ?_
              refine lv_icmp_gt (tgt := 81) hx hb dX1_setWork_74 (by decide) (fun c45 => ?_) (fun c45 => ?_)
              · refine lv_iconst (v := 0) hx hb dX1_setWork_81 (by decide) ?_
                refine lv_istore (lv' := [(5, .int 0), (4, .int 0), (3, .int 1), (0, .ref (h 0)), (1, .int (nI j)), (2, .int s9)]) hx hb dX1_setWork_82 hl (by decide) rfl (fun ls hl => ?_)
                refine lv_aload_n hx hb dX1_setWork_84 rfl (lv_at hl 3 rfl) ?_
                refine lv_iload_n hx hb dX1_setWork_85 rfl (lv_at hl 2 rfl) ?_
                refine lv_if_ne (tgt := 93) hx hb dX1_setWork_86 (by decide) (fun c46 => ?_) (fun c46 => ?_)
                · refine lv_iload_n hx hb dX1_setWork_93 rfl (lv_at hl 5 rfl) ?_
                  refine lv_iconst (v := 0) hx hb dX1_setWork_94 (by decide) ?_
                  refine lv_sipush (v := 1000) hx hb dX1_setWork_95 (by decide) ?_
                  refine vp_callSi (W.runS (As := [.int s9, .int 0, .int 1000]) (rest := [.ref (h 0)]) ⟨hx, hb, hml, hown, hts⟩ (c1_in l s9 0 1000) (va_cwS 3 hts gX1_setWork_X1_in rfl rfl rfl (by decide +kernel) ⟨Nat.le_of_ble_eq_true rfl, Nat.le_of_ble_eq_true rfl⟩) ⟨nil_fb, nil_mk⟩ rfl rfl hl.1 rfl (lv_room (Nat.le_of_ble_eq_true rfl)) dX1_setWork_98 ⟨Nat.le_of_ble_eq_true rfl, Nat.le_of_ble_eq_true rfl⟩) (fun r47 qr47 => ?_)
                  have qr47 : r47 = 0 := by rw [qr47, z9]; rfl
                  subst qr47
                  refine lv_if_ne (tgt := 108) hx hb dX1_setWork_101 (by decide) (fun c48 => ?_) (fun c48 => ?_)
                  · exact absurd c48 (by decide)
                  · refine lv_iconst (v := 2) hx hb dX1_setWork_104 (by decide) ?_
                    refine lv_goto (tgt := 118) hx hb dX1_setWork_105 (by decide) ?_
                    refine g_calliS (wf := fun u : Int32 => w1 h cA u M) (va_runV (As := [.int 2]) (rest := []) ⟨hx, hb, hml, hown, hts⟩ (c1_refused l D h cA rf M 2 s.heap.size) (cwV 1 hts gX1_setWork_X1_refused rfl rfl rfl (by decide +kernel) ⟨Nat.le_of_ble_eq_true rfl, Nat.le_of_ble_eq_true rfl⟩) ⟨pW_fb, va_recv hK hP (ci := 1) (q0 := 0) rfl rfl, pW_mk hP hK hD⟩ rfl rfl hl.1 rfl (lv_room (Nat.le_of_ble_eq_true rfl)) dX1_setWork_118 ⟨Nat.le_of_ble_eq_true rfl, Nat.le_of_ble_eq_true rfl⟩) hP hD hS hA (fun r49 ur49 H locs qr49 hP hD hS => ?_)
                    obtain ⟨qr49, eur49⟩ := qr49
                    have qr49 : r49 = 1 := qr49
                    subst qr49
                    have eur49 : ur49 = 2 := eur49
                    subst eur49
                    refine lv_if_eq (tgt := 126) hx hb dX1_setWork_121 (by decide) (fun c50 => ?_) (fun c50 => ?_)
                    · exact absurd c50 (by decide)
                    · refine lv_iconst (v := 0) hx hb dX1_setWork_124 (by decide) ?_
                      subst hQ
                      exact W.iret (v := 0) hx hb hr (fun t ht hW => ⟨⟨0, (2, M), rfl, (y_pk 2 (by first | (simp [y_setWork, hix, z9, c39, c45, pk_us]; done) | (simp only [y_setWork, hix, z9, c39]; simp [c45, pk_us]; done)) rfl), by rw [ht]; exact hP, hD⟩, hS.F ht⟩) hS.2.2 dX1_setWork_125
                · exact absurd c46 (by decide)
              · refine lv_iconst (v := 1) hx hb dX1_setWork_77 (by decide) ?_
                refine lv_goto (tgt := 82) hx hb dX1_setWork_78 (by decide) ?_
                refine lv_istore (lv' := [(5, .int 1), (4, .int 0), (3, .int 1), (0, .ref (h 0)), (1, .int (nI j)), (2, .int s9)]) hx hb dX1_setWork_82 hl (by decide) rfl (fun ls hl => ?_)
                refine lv_aload_n hx hb dX1_setWork_84 rfl (lv_at hl 3 rfl) ?_
                refine lv_iload_n hx hb dX1_setWork_85 rfl (lv_at hl 2 rfl) ?_
                refine lv_if_ne (tgt := 93) hx hb dX1_setWork_86 (by decide) (fun c51 => ?_) (fun c51 => ?_)
                · refine lv_iload_n hx hb dX1_setWork_93 rfl (lv_at hl 5 rfl) ?_
                  refine lv_iconst (v := 0) hx hb dX1_setWork_94 (by decide) ?_
                  refine lv_sipush (v := 1000) hx hb dX1_setWork_95 (by decide) ?_
                  refine vp_callSi (W.runS (As := [.int s9, .int 0, .int 1000]) (rest := [.ref (h 0)]) ⟨hx, hb, hml, hown, hts⟩ (c1_in l s9 0 1000) (va_cwS 3 hts gX1_setWork_X1_in rfl rfl rfl (by decide +kernel) ⟨Nat.le_of_ble_eq_true rfl, Nat.le_of_ble_eq_true rfl⟩) ⟨nil_fb, nil_mk⟩ rfl rfl hl.1 rfl (lv_room (Nat.le_of_ble_eq_true rfl)) dX1_setWork_98 ⟨Nat.le_of_ble_eq_true rfl, Nat.le_of_ble_eq_true rfl⟩) (fun r52 qr52 => ?_)
                  have qr52 : r52 = 0 := by rw [qr52, z9]; rfl
                  subst qr52
                  refine lv_if_ne (tgt := 108) hx hb dX1_setWork_101 (by decide) (fun c53 => ?_) (fun c53 => ?_)
                  · exact absurd c53 (by decide)
                  · refine lv_iconst (v := 2) hx hb dX1_setWork_104 (by decide) ?_
                    refine lv_goto (tgt := 118) hx hb dX1_setWork_105 (by decide) ?_
                    refine g_calliS (wf := fun u : Int32 => w1 h cA u M) (va_runV (As := [.int 2]) (rest := []) ⟨hx, hb, hml, hown, hts⟩ (c1_refused l D h cA rf M 2 s.heap.size) (cwV 1 hts gX1_setWork_X1_refused rfl rfl rfl (by decide +kernel) ⟨Nat.le_of_ble_eq_true rfl, Nat.le_of_ble_eq_true rfl⟩) ⟨pW_fb, va_recv hK hP (ci := 1) (q0 := 0) rfl rfl, pW_mk hP hK hD⟩ rfl rfl hl.1 rfl (lv_room (Nat.le_of_ble_eq_true rfl)) dX1_setWork_118 ⟨Nat.le_of_ble_eq_true rfl, Nat.le_of_ble_eq_true rfl⟩) hP hD hS hA (fun r54 ur54 H locs qr54 hP hD hS => ?_)
                    obtain ⟨qr54, eur54⟩ := qr54
                    have qr54 : r54 = 1 := qr54
                    subst qr54
                    have eur54 : ur54 = 2 := eur54
                    subst eur54
                    refine lv_if_eq (tgt := 126) hx hb dX1_setWork_121 (by decide) (fun c55 => ?_) (fun c55 => ?_)
                    · exact absurd c55 (by decide)
                    · refine lv_iconst (v := 0) hx hb dX1_setWork_124 (by decide) ?_
                      subst hQ
                      exact W.iret (v := 0) hx hb hr (fun t ht hW => ⟨⟨0, (2, M), rfl, (y_pk 2 (by first | (simp [y_setWork, hix, z9, c39, c45, pk_us]; done) | (simp only [y_setWork, hix, z9, c39]; simp [c45, pk_us]; done)) rfl), by rw [ht]; exact hP, hD⟩, hS.F ht⟩) hS.2.2 dX1_setWork_125
                · exact absurd c51 (by decide)
        · exact absurd c37 (by decide)
set_option maxHeartbeats 4000000 in
set_option maxRecDepth 100000 in
theorem c1_setStep (l : Launch) (D : va_G) (h : Nat → Nat) (cA : ClassId) (rf : Int32) (M : MM) (hM : OK1 M) (t9 r9 : Int32) (sz : Nat) : Met l yX1_setStep wsX1_setStep ({ frames := 1, cells := 0, slots := 0, locals := 22 } : Room) (va_Pc [.ref (h 0), .int t9, .int r9] (pW D [(cA, .int)] (w1 h cA rf M) sz)) (va_Qi (fun (r : Int32) (u : Int32 × MM) => y_post (y_setStep M t9 r9) r u) (fun u => qW D (va_A (w1 h cA rf M) sz) (w1 h cA u.1 u.2)) (va_A (w1 h cA rf M) sz)) 0 0 (va_A (w1 h cA rf M) sz) := by
  refine Met.ofW (cc := cX1_setStep) (maxL := 5) (ret := (some .int)) (by decide) rfl ?_
  intro p e s m args below meth c s₁ B hml hv
  obtain ⟨rfl, hsz, hP, hK, hD0⟩ := hv
  have hx := B.exec
  have hb := B.bytes
  have hr := B.returns
  have hts := atoms_spec (ws := wsX1_setStep) B.pre
  have hown : s.vm.findClass RX1 = some m.cls := findClass_of_methodNamed B.named
  have hlocks := B.notSynchronized
  have kw0 := hts (.fieldLink RX1 25 "ProgressBillingModel" "rates" "[I") (by decide +kernel)
  have hin0 : ∀ w ∈ u_ws RX1 TX1 14, w ∈ wsX1_setStep := by decide +kernel
  subst hsz
  have hD := hD0.self (sz := s.heap.size)
  generalize hAe : va_A (w1 h cA rf M) s.heap.size = A at hD ⊢
  have hA : ∀ q : Nat, s.heap.size ≤ q → A q := fun q h => by rw [← hAe]; exact Or.inr h
  have hS : va_S A s.heap s.heap [] := va_S.rf
  have hP : va_P D vwCl (w1 h cA rf M) s.heap := hP
  obtain ⟨hn1, hn4⟩ := id hM
  have hl := lv_entry ([.ref (h 0), .int t9, .int r9]) (n := 5) (Nat.le_of_ble_eq_true rfl)
  rw [lg_entry_eq]
  generalize (lg_sl ([.ref (h 0), .int t9, .int r9]) ++ List.replicate (5 - (lg_sl ([.ref (h 0), .int t9, .int r9])).length) Slot.unset).toArray = ls at hl ⊢
  have hl : lv_has ls 5 [(0, .ref (h 0)), (1, .int t9), (2, .int r9)] := hl
  refine w_abs (fun Q hQ => ?_)
  refine lv_iload_n hx hb dX1_setStep_0 rfl (lv_at hl 1 rfl) ?_
  refine lv_iconst (v := 0) hx hb dX1_setStep_1 (by decide) ?_
  refine lv_sipush (v := 1000) hx hb dX1_setStep_2 (by decide) ?_
  refine vp_callSi (W.runS (As := [.int t9, .int 0, .int 1000]) (rest := []) ⟨hx, hb, hml, hown, hts⟩ (c1_in l t9 0 1000) (va_cwS 3 hts gX1_setStep_X1_in rfl rfl rfl (by decide +kernel) ⟨Nat.le_of_ble_eq_true rfl, Nat.le_of_ble_eq_true rfl⟩) ⟨nil_fb, nil_mk⟩ rfl rfl hl.1 rfl (lv_room (Nat.le_of_ble_eq_true rfl)) dX1_setStep_5 ⟨Nat.le_of_ble_eq_true rfl, Nat.le_of_ble_eq_true rfl⟩) (fun r1 qr1 => ?_)
  rcases bl_c (inR t9 0 1000) with z2 | z2
  · have qr1 : r1 = 1 := by rw [qr1, z2]; rfl
    subst qr1
    refine lv_if_eq (tgt := 26) hx hb dX1_setStep_8 (by decide) (fun c3 => ?_) (fun c3 => ?_)
    · exact absurd c3 (by decide)
    · refine lv_iload_n hx hb dX1_setStep_11 rfl (lv_at hl 2 rfl) ?_
      refine lv_iconst (v := 0) hx hb dX1_setStep_12 (by decide) ?_
      refine lv_sipush (v := 1000) hx hb dX1_setStep_13 (by decide) ?_
      refine vp_callSi (W.runS (As := [.int r9, .int 0, .int 1000]) (rest := []) ⟨hx, hb, hml, hown, hts⟩ (c1_in l r9 0 1000) (va_cwS 3 hts gX1_setStep_X1_in rfl rfl rfl (by decide +kernel) ⟨Nat.le_of_ble_eq_true rfl, Nat.le_of_ble_eq_true rfl⟩) ⟨nil_fb, nil_mk⟩ rfl rfl hl.1 rfl (lv_room (Nat.le_of_ble_eq_true rfl)) dX1_setStep_16 ⟨Nat.le_of_ble_eq_true rfl, Nat.le_of_ble_eq_true rfl⟩) (fun r4 qr4 => ?_)
      rcases bl_c (inR r9 0 1000) with z5 | z5
      · have qr4 : r4 = 1 := by rw [qr4, z5]; rfl
        subst qr4
        refine lv_if_eq (tgt := 26) hx hb dX1_setStep_19 (by decide) (fun c6 => ?_) (fun c6 => ?_)
        · exact absurd c6 (by decide)
        · refine lv_iconst (v := 1) hx hb dX1_setStep_22 (by decide) ?_
          refine lv_goto (tgt := 27) hx hb dX1_setStep_23 (by decide) ?_
          refine lv_istore_n (lv' := [(3, .int 1), (0, .ref (h 0)), (1, .int t9), (2, .int r9)]) hx hb dX1_setStep_27 rfl hl (by decide) rfl (fun ls hl => ?_)
          refine lv_aload_n hx hb dX1_setStep_28 rfl (lv_at hl 1 rfl) ?_
          refine lv_iload_n hx hb dX1_setStep_29 rfl (lv_at hl 0 rfl) ?_
          refine lv_if_ne (tgt := 37) hx hb dX1_setStep_30 (by decide) (fun c7 => ?_) (fun c7 => ?_)
          · obtain ⟨j, hj, et⟩ := inR_nI z2 (by decide) (by decide)
            subst et
            have hcl : (nI j).toNatClampNeg = j := nI_clamp (by omega)
            refine lv_aload_n hx hb dX1_setStep_37 rfl (lv_at hl 1 rfl) ?_
            refine va_get (D := D) (ci := 1) (v := .ref (h 6)) (C := RX1) (T := TX1) (N := 14) hx hb hts hin0 hown hK hP 0 rfl rfl 7 (by decide) kw0 (fun _ h9 => h9) rfl dX1_setStep_38 ?_
            refine lv_iload_n hx hb dX1_setStep_41 rfl (lv_at hl 2 rfl) ?_
            refine r_ald (f := m_rt M) (j := j) hx hb hK hP 6 0 rfl rfl (by omega) (by omega) dX1_setStep_42 ?_
            refine lv_iconst (v := -1) hx hb dX1_setStep_43 (by decide) ?_
            refine lv_icmp_ne (tgt := 60) hx hb dX1_setStep_44 (by decide) (fun c8 => ?_) (fun c8 => ?_)
            · refine lv_iconst (v := 0) hx hb dX1_setStep_60 (by decide) ?_
              refine g_calliS (wf := fun u : Int32 => w1 h cA u M) (va_runV (As := [.int 0]) (rest := []) ⟨hx, hb, hml, hown, hts⟩ (c1_refused l D h cA rf M 0 s.heap.size) (cwV 1 hts gX1_setStep_X1_refused rfl rfl rfl (by decide +kernel) ⟨Nat.le_of_ble_eq_true rfl, Nat.le_of_ble_eq_true rfl⟩) ⟨pW_fb, va_recv hK hP (ci := 1) (q0 := 0) rfl rfl, pW_mk hP hK hD⟩ rfl rfl hl.1 rfl (lv_room (Nat.le_of_ble_eq_true rfl)) dX1_setStep_61 ⟨Nat.le_of_ble_eq_true rfl, Nat.le_of_ble_eq_true rfl⟩) hP hD hS hA (fun r9 ur9 H locs qr9 hP hD hS => ?_)
              obtain ⟨qr9, eur9⟩ := qr9
              have qr9 : r9 = 0 := qr9
              subst qr9
              have eur9 : ur9 = 0 := eur9
              subst eur9
              refine lv_if_eq (tgt := 69) hx hb dX1_setStep_64 (by decide) (fun c10 => ?_) (fun c10 => ?_)
              · refine lv_aload_n hx hb dX1_setStep_69 rfl (lv_at hl 1 rfl) ?_
                refine va_get (D := D) (ci := 1) (v := .ref (h 6)) (C := RX1) (T := TX1) (N := 14) hx hb hts hin0 hown hK hP 0 rfl rfl 7 (by decide) kw0 (fun _ h9 => h9) rfl dX1_setStep_70 ?_
                refine lv_iload_n hx hb dX1_setStep_73 rfl (lv_at hl 2 rfl) ?_
                refine r_ald (f := m_rt M) (j := j) hx hb hK hP 6 0 rfl rfl (by omega) (by omega) dX1_setStep_74 ?_
                refine lv_istore (lv' := [(4, .int ((m_rt M) j)), (3, .int 1), (0, .ref (h 0)), (1, .int (nI j)), (2, .int r9)]) hx hb dX1_setStep_75 hl (by decide) rfl (fun ls hl => ?_)
                refine lv_aload_n hx hb dX1_setStep_77 rfl (lv_at hl 2 rfl) ?_
                refine va_get (D := D) (ci := 1) (v := .ref (h 6)) (C := RX1) (T := TX1) (N := 14) hx hb hts hin0 hown hK hP 0 rfl rfl 7 (by decide) kw0 (fun _ h9 => h9) rfl dX1_setStep_78 ?_
                refine lv_iload_n hx hb dX1_setStep_81 rfl (lv_at hl 3 rfl) ?_
                refine lv_iload_n hx hb dX1_setStep_82 rfl (lv_at hl 4 rfl) ?_
                refine r_ast (f := m_rt M) (j := j) (v := r9) hx hb hK hP hD hS 6 0 rfl rfl (by omega) (by omega) dX1_setStep_83 (fun H locs hP hD hS => ?_)
                obtain ⟨N11, eN11⟩ : ∃ N9 : MM, N9 = s_rt M (upd (m_rt M) j r9) := ⟨_, rfl⟩
                rw [q1_rt, ← eN11] at hP hD
                have aN11_rt : m_rt N11 = upd (m_rt M) j r9 := by rw [eN11]; rfl
                refine lv_iload hx hb dX1_setStep_84 (lv_at hl 0 rfl) ?_
                subst hQ
                exact W.iret (v := (m_rt M) j) hx hb hr (fun t ht hW => ⟨⟨(m_rt M) j, (0, N11), rfl, (by subst eN11; exact (y_pk 0 (by first | (simp [y_setStep, z2, z5, hcl, c8, pk_us]; done) | (simp only [y_setStep, z2, z5, hcl]; simp [c8, pk_us]; done)) rfl)), by rw [ht]; exact hP, hD⟩, hS.F ht⟩) hS.2.2 dX1_setStep_86
              · exact absurd c10 (by decide)
            · refine lv_aload_n hx hb dX1_setStep_47 rfl (lv_at hl 1 rfl) ?_
              refine vp_callSi (W.runV (As := []) (rest := [.ref (h 0)]) ⟨hx, hb, hml, hown, hts⟩ (c1_countSteps l D h cA rf M hM) (cwV 0 hts gX1_setStep_X1_countSteps rfl rfl rfl (by decide +kernel) ⟨Nat.le_of_ble_eq_true rfl, Nat.le_of_ble_eq_true rfl⟩) ⟨pR_fb, va_recv hK hP (ci := 1) (q0 := 0) rfl rfl, pR_mk hP hK⟩ rfl rfl hl.1 rfl (lv_room (Nat.le_of_ble_eq_true rfl)) dX1_setStep_48 ⟨Nat.le_of_ble_eq_true rfl, Nat.le_of_ble_eq_true rfl⟩) (fun r12 qr12 => ?_)
              have qr12 : r12 = nI (cntS (m_rt M) 1001) := qr12
              subst qr12
              have hcs : cntS (m_rt M) 1001 ≤ 1001 := cntS_le _ _
              refine lv_bipush (v := 6) hx hb dX1_setStep_51 (by decide) ?_
              refine lv_icmp_ne (tgt := 60) hx hb dX1_setStep_53 (by decide) (fun c13 => ?_) (fun c13 => ?_)
              · have c13 := k_ne (a := (cntS (m_rt M) 1001)) (b := 6) (by omega) (by omega) c13
                refine lv_iconst (v := 0) hx hb dX1_setStep_60 (by decide) ?_
                refine g_calliS (wf := fun u : Int32 => w1 h cA u M) (va_runV (As := [.int 0]) (rest := []) ⟨hx, hb, hml, hown, hts⟩ (c1_refused l D h cA rf M 0 s.heap.size) (cwV 1 hts gX1_setStep_X1_refused rfl rfl rfl (by decide +kernel) ⟨Nat.le_of_ble_eq_true rfl, Nat.le_of_ble_eq_true rfl⟩) ⟨pW_fb, va_recv hK hP (ci := 1) (q0 := 0) rfl rfl, pW_mk hP hK hD⟩ rfl rfl hl.1 rfl (lv_room (Nat.le_of_ble_eq_true rfl)) dX1_setStep_61 ⟨Nat.le_of_ble_eq_true rfl, Nat.le_of_ble_eq_true rfl⟩) hP hD hS hA (fun r14 ur14 H locs qr14 hP hD hS => ?_)
                obtain ⟨qr14, eur14⟩ := qr14
                have qr14 : r14 = 0 := qr14
                subst qr14
                have eur14 : ur14 = 0 := eur14
                subst eur14
                refine lv_if_eq (tgt := 69) hx hb dX1_setStep_64 (by decide) (fun c15 => ?_) (fun c15 => ?_)
                · refine lv_aload_n hx hb dX1_setStep_69 rfl (lv_at hl 1 rfl) ?_
                  refine va_get (D := D) (ci := 1) (v := .ref (h 6)) (C := RX1) (T := TX1) (N := 14) hx hb hts hin0 hown hK hP 0 rfl rfl 7 (by decide) kw0 (fun _ h9 => h9) rfl dX1_setStep_70 ?_
                  refine lv_iload_n hx hb dX1_setStep_73 rfl (lv_at hl 2 rfl) ?_
                  refine r_ald (f := m_rt M) (j := j) hx hb hK hP 6 0 rfl rfl (by omega) (by omega) dX1_setStep_74 ?_
                  refine lv_istore (lv' := [(4, .int ((m_rt M) j)), (3, .int 1), (0, .ref (h 0)), (1, .int (nI j)), (2, .int r9)]) hx hb dX1_setStep_75 hl (by decide) rfl (fun ls hl => ?_)
                  refine lv_aload_n hx hb dX1_setStep_77 rfl (lv_at hl 2 rfl) ?_
                  refine va_get (D := D) (ci := 1) (v := .ref (h 6)) (C := RX1) (T := TX1) (N := 14) hx hb hts hin0 hown hK hP 0 rfl rfl 7 (by decide) kw0 (fun _ h9 => h9) rfl dX1_setStep_78 ?_
                  refine lv_iload_n hx hb dX1_setStep_81 rfl (lv_at hl 3 rfl) ?_
                  refine lv_iload_n hx hb dX1_setStep_82 rfl (lv_at hl 4 rfl) ?_
                  refine r_ast (f := m_rt M) (j := j) (v := r9) hx hb hK hP hD hS 6 0 rfl rfl (by omega) (by omega) dX1_setStep_83 (fun H locs hP hD hS => ?_)
                  obtain ⟨N16, eN16⟩ : ∃ N9 : MM, N9 = s_rt M (upd (m_rt M) j r9) := ⟨_, rfl⟩
                  rw [q1_rt, ← eN16] at hP hD
                  have aN16_rt : m_rt N16 = upd (m_rt M) j r9 := by rw [eN16]; rfl
                  refine lv_iload hx hb dX1_setStep_84 (lv_at hl 0 rfl) ?_
                  subst hQ
                  exact W.iret (v := (m_rt M) j) hx hb hr (fun t ht hW => ⟨⟨(m_rt M) j, (0, N16), rfl, (by subst eN16; exact (y_pk 0 (by first | (simp [y_setStep, z2, z5, hcl, c8, c13, pk_us]; done) | (simp only [y_setStep, z2, z5, hcl, c8]; simp [c13, pk_us]; done)) rfl)), by rw [ht]; exact hP, hD⟩, hS.F ht⟩) hS.2.2 dX1_setStep_86
                · exact absurd c15 (by decide)
              · have c13 := k_eq (a := (cntS (m_rt M) 1001)) (b := 6) (by omega) (by omega) c13
                refine lv_iconst (v := 2) hx hb dX1_setStep_56 (by decide) ?_
                refine lv_goto (tgt := 61) hx hb dX1_setStep_57 (by decide) ?_
                refine g_calliS (wf := fun u : Int32 => w1 h cA u M) (va_runV (As := [.int 2]) (rest := []) ⟨hx, hb, hml, hown, hts⟩ (c1_refused l D h cA rf M 2 s.heap.size) (cwV 1 hts gX1_setStep_X1_refused rfl rfl rfl (by decide +kernel) ⟨Nat.le_of_ble_eq_true rfl, Nat.le_of_ble_eq_true rfl⟩) ⟨pW_fb, va_recv hK hP (ci := 1) (q0 := 0) rfl rfl, pW_mk hP hK hD⟩ rfl rfl hl.1 rfl (lv_room (Nat.le_of_ble_eq_true rfl)) dX1_setStep_61 ⟨Nat.le_of_ble_eq_true rfl, Nat.le_of_ble_eq_true rfl⟩) hP hD hS hA (fun r17 ur17 H locs qr17 hP hD hS => ?_)
                obtain ⟨qr17, eur17⟩ := qr17
                have qr17 : r17 = 1 := qr17
                subst qr17
                have eur17 : ur17 = 2 := eur17
                subst eur17
                refine lv_if_eq (tgt := 69) hx hb dX1_setStep_64 (by decide) (fun c18 => ?_) (fun c18 => ?_)
                · exact absurd c18 (by decide)
                · refine lv_iconst (v := 0) hx hb dX1_setStep_67 (by decide) ?_
                  subst hQ
                  exact W.iret (v := 0) hx hb hr (fun t ht hW => ⟨⟨0, (2, M), rfl, (y_pk 2 (by first | (simp [y_setStep, z2, z5, hcl, c8, c13, pk_us]; done) | (simp only [y_setStep, z2, z5, hcl, c8]; simp [c13, pk_us]; done)) rfl), by rw [ht]; exact hP, hD⟩, hS.F ht⟩) hS.2.2 dX1_setStep_68
          · exact absurd c7 (by decide)
      · have qr4 : r4 = 0 := by rw [qr4, z5]; rfl
        subst qr4
        refine lv_if_eq (tgt := 26) hx hb dX1_setStep_19 (by decide) (fun c19 => ?_) (fun c19 => ?_)
        · refine lv_iconst (v := 0) hx hb dX1_setStep_26 (by decide) ?_
          refine lv_istore_n (lv' := [(3, .int 0), (0, .ref (h 0)), (1, .int t9), (2, .int r9)]) hx hb dX1_setStep_27 rfl hl (by decide) rfl (fun ls hl => ?_)
          refine lv_aload_n hx hb dX1_setStep_28 rfl (lv_at hl 1 rfl) ?_
          refine lv_iload_n hx hb dX1_setStep_29 rfl (lv_at hl 0 rfl) ?_
          refine lv_if_ne (tgt := 37) hx hb dX1_setStep_30 (by decide) (fun c20 => ?_) (fun c20 => ?_)
          · exact absurd c20 (by decide)
          · refine lv_iconst (v := 1) hx hb dX1_setStep_33 (by decide) ?_
            refine lv_goto (tgt := 61) hx hb dX1_setStep_34 (by decide) ?_
            refine g_calliS (wf := fun u : Int32 => w1 h cA u M) (va_runV (As := [.int 1]) (rest := []) ⟨hx, hb, hml, hown, hts⟩ (c1_refused l D h cA rf M 1 s.heap.size) (cwV 1 hts gX1_setStep_X1_refused rfl rfl rfl (by decide +kernel) ⟨Nat.le_of_ble_eq_true rfl, Nat.le_of_ble_eq_true rfl⟩) ⟨pW_fb, va_recv hK hP (ci := 1) (q0 := 0) rfl rfl, pW_mk hP hK hD⟩ rfl rfl hl.1 rfl (lv_room (Nat.le_of_ble_eq_true rfl)) dX1_setStep_61 ⟨Nat.le_of_ble_eq_true rfl, Nat.le_of_ble_eq_true rfl⟩) hP hD hS hA (fun r21 ur21 H locs qr21 hP hD hS => ?_)
            obtain ⟨qr21, eur21⟩ := qr21
            have qr21 : r21 = 1 := qr21
            subst qr21
            have eur21 : ur21 = 1 := eur21
            subst eur21
            refine lv_if_eq (tgt := 69) hx hb dX1_setStep_64 (by decide) (fun c22 => ?_) (fun c22 => ?_)
            · exact absurd c22 (by decide)
            · refine lv_iconst (v := 0) hx hb dX1_setStep_67 (by decide) ?_
              subst hQ
              exact W.iret (v := 0) hx hb hr (fun t ht hW => ⟨⟨0, (1, M), rfl, (y_pk 1 (by first | (simp [y_setStep, z2, z5, pk_us]; done) | (simp only [y_setStep, z2]; simp [z5, pk_us]; done)) rfl), by rw [ht]; exact hP, hD⟩, hS.F ht⟩) hS.2.2 dX1_setStep_68
        · exact absurd c19 (by decide)
  · have qr1 : r1 = 0 := by rw [qr1, z2]; rfl
    subst qr1
    refine lv_if_eq (tgt := 26) hx hb dX1_setStep_8 (by decide) (fun c23 => ?_) (fun c23 => ?_)
    · refine lv_iconst (v := 0) hx hb dX1_setStep_26 (by decide) ?_
      refine lv_istore_n (lv' := [(3, .int 0), (0, .ref (h 0)), (1, .int t9), (2, .int r9)]) hx hb dX1_setStep_27 rfl hl (by decide) rfl (fun ls hl => ?_)
      refine lv_aload_n hx hb dX1_setStep_28 rfl (lv_at hl 1 rfl) ?_
      refine lv_iload_n hx hb dX1_setStep_29 rfl (lv_at hl 0 rfl) ?_
      refine lv_if_ne (tgt := 37) hx hb dX1_setStep_30 (by decide) (fun c24 => ?_) (fun c24 => ?_)
      · exact absurd c24 (by decide)
      · refine lv_iconst (v := 1) hx hb dX1_setStep_33 (by decide) ?_
        refine lv_goto (tgt := 61) hx hb dX1_setStep_34 (by decide) ?_
        refine g_calliS (wf := fun u : Int32 => w1 h cA u M) (va_runV (As := [.int 1]) (rest := []) ⟨hx, hb, hml, hown, hts⟩ (c1_refused l D h cA rf M 1 s.heap.size) (cwV 1 hts gX1_setStep_X1_refused rfl rfl rfl (by decide +kernel) ⟨Nat.le_of_ble_eq_true rfl, Nat.le_of_ble_eq_true rfl⟩) ⟨pW_fb, va_recv hK hP (ci := 1) (q0 := 0) rfl rfl, pW_mk hP hK hD⟩ rfl rfl hl.1 rfl (lv_room (Nat.le_of_ble_eq_true rfl)) dX1_setStep_61 ⟨Nat.le_of_ble_eq_true rfl, Nat.le_of_ble_eq_true rfl⟩) hP hD hS hA (fun r25 ur25 H locs qr25 hP hD hS => ?_)
        obtain ⟨qr25, eur25⟩ := qr25
        have qr25 : r25 = 1 := qr25
        subst qr25
        have eur25 : ur25 = 1 := eur25
        subst eur25
        refine lv_if_eq (tgt := 69) hx hb dX1_setStep_64 (by decide) (fun c26 => ?_) (fun c26 => ?_)
        · exact absurd c26 (by decide)
        · refine lv_iconst (v := 0) hx hb dX1_setStep_67 (by decide) ?_
          subst hQ
          exact W.iret (v := 0) hx hb hr (fun t ht hW => ⟨⟨0, (1, M), rfl, (y_pk 1 (by simp [y_setStep, z2, pk_us]) rfl), by rw [ht]; exact hP, hD⟩, hS.F ht⟩) hS.2.2 dX1_setStep_68
    · exact absurd c23 (by decide)
set_option maxHeartbeats 4000000 in
set_option maxRecDepth 100000 in
theorem c1_dropStep (l : Launch) (D : va_G) (h : Nat → Nat) (cA : ClassId) (rf : Int32) (M : MM) (hM : OK1 M) (t9 : Int32) (sz : Nat) : Met l yX1_dropStep wsX1_dropStep ({ frames := 1, cells := 0, slots := 0, locals := 22 } : Room) (va_Pc [.ref (h 0), .int t9] (pW D [(cA, .int)] (w1 h cA rf M) sz)) (va_Qi (fun (r : Int32) (u : Int32 × MM) => y_post (y_dropStep M t9) r u) (fun u => qW D (va_A (w1 h cA rf M) sz) (w1 h cA u.1 u.2)) (va_A (w1 h cA rf M) sz)) 0 0 (va_A (w1 h cA rf M) sz) := by
  refine Met.ofW (cc := cX1_dropStep) (maxL := 4) (ret := (some .int)) (by decide) rfl ?_
  intro p e s m args below meth c s₁ B hml hv
  obtain ⟨rfl, hsz, hP, hK, hD0⟩ := hv
  have hx := B.exec
  have hb := B.bytes
  have hr := B.returns
  have hts := atoms_spec (ws := wsX1_dropStep) B.pre
  have hown : s.vm.findClass RX1 = some m.cls := findClass_of_methodNamed B.named
  have hlocks := B.notSynchronized
  have kw0 := hts (.fieldLink RX1 25 "ProgressBillingModel" "rates" "[I") (by decide +kernel)
  have hin0 : ∀ w ∈ u_ws RX1 TX1 14, w ∈ wsX1_dropStep := by decide +kernel
  subst hsz
  have hD := hD0.self (sz := s.heap.size)
  generalize hAe : va_A (w1 h cA rf M) s.heap.size = A at hD ⊢
  have hA : ∀ q : Nat, s.heap.size ≤ q → A q := fun q h => by rw [← hAe]; exact Or.inr h
  have hS : va_S A s.heap s.heap [] := va_S.rf
  have hP : va_P D vwCl (w1 h cA rf M) s.heap := hP
  obtain ⟨hn1, hn4⟩ := id hM
  have hl := lv_entry ([.ref (h 0), .int t9]) (n := 4) (Nat.le_of_ble_eq_true rfl)
  rw [lg_entry_eq]
  generalize (lg_sl ([.ref (h 0), .int t9]) ++ List.replicate (4 - (lg_sl ([.ref (h 0), .int t9])).length) Slot.unset).toArray = ls at hl ⊢
  have hl : lv_has ls 4 [(0, .ref (h 0)), (1, .int t9)] := hl
  refine w_abs (fun Q hQ => ?_)
  refine lv_iload_n hx hb dX1_dropStep_0 rfl (lv_at hl 1 rfl) ?_
  refine lv_iconst (v := 1) hx hb dX1_dropStep_1 (by decide) ?_
  refine lv_sipush (v := 1000) hx hb dX1_dropStep_2 (by decide) ?_
  refine vp_callSi (W.runS (As := [.int t9, .int 1, .int 1000]) (rest := []) ⟨hx, hb, hml, hown, hts⟩ (c1_in l t9 1 1000) (va_cwS 3 hts gX1_dropStep_X1_in rfl rfl rfl (by decide +kernel) ⟨Nat.le_of_ble_eq_true rfl, Nat.le_of_ble_eq_true rfl⟩) ⟨nil_fb, nil_mk⟩ rfl rfl hl.1 rfl (lv_room (Nat.le_of_ble_eq_true rfl)) dX1_dropStep_5 ⟨Nat.le_of_ble_eq_true rfl, Nat.le_of_ble_eq_true rfl⟩) (fun r1 qr1 => ?_)
  rcases bl_c (inR t9 1 1000) with z2 | z2
  · have qr1 : r1 = 1 := by rw [qr1, z2]; rfl
    subst qr1
    refine lv_istore_n (lv' := [(2, .int 1), (0, .ref (h 0)), (1, .int t9)]) hx hb dX1_dropStep_8 rfl hl (by decide) rfl (fun ls hl => ?_)
    refine lv_aload_n hx hb dX1_dropStep_9 rfl (lv_at hl 1 rfl) ?_
    refine lv_iload_n hx hb dX1_dropStep_10 rfl (lv_at hl 0 rfl) ?_
    refine lv_if_ne (tgt := 18) hx hb dX1_dropStep_11 (by decide) (fun c3 => ?_) (fun c3 => ?_)
    · obtain ⟨j, hj, et⟩ := inR_nI z2 (by decide) (by decide)
      subst et
      have hcl : (nI j).toNatClampNeg = j := nI_clamp (by omega)
      refine lv_aload_n hx hb dX1_dropStep_18 rfl (lv_at hl 1 rfl) ?_
      refine va_get (D := D) (ci := 1) (v := .ref (h 6)) (C := RX1) (T := TX1) (N := 14) hx hb hts hin0 hown hK hP 0 rfl rfl 7 (by decide) kw0 (fun _ h9 => h9) rfl dX1_dropStep_19 ?_
      refine lv_iload_n hx hb dX1_dropStep_22 rfl (lv_at hl 2 rfl) ?_
      refine r_ald (f := m_rt M) (j := j) hx hb hK hP 6 0 rfl rfl (by omega) (by omega) dX1_dropStep_23 ?_
      refine lv_iconst (v := -1) hx hb dX1_dropStep_24 (by decide) ?_
      refine lv_icmp_ne (tgt := 32) hx hb dX1_dropStep_25 (by decide) (fun c4 => ?_) (fun c4 => ?_)
      · refine lv_iconst (v := 0) hx hb dX1_dropStep_32 (by decide) ?_
        refine g_calliS (wf := fun u : Int32 => w1 h cA u M) (va_runV (As := [.int 0]) (rest := []) ⟨hx, hb, hml, hown, hts⟩ (c1_refused l D h cA rf M 0 s.heap.size) (cwV 1 hts gX1_dropStep_X1_refused rfl rfl rfl (by decide +kernel) ⟨Nat.le_of_ble_eq_true rfl, Nat.le_of_ble_eq_true rfl⟩) ⟨pW_fb, va_recv hK hP (ci := 1) (q0 := 0) rfl rfl, pW_mk hP hK hD⟩ rfl rfl hl.1 rfl (lv_room (Nat.le_of_ble_eq_true rfl)) dX1_dropStep_33 ⟨Nat.le_of_ble_eq_true rfl, Nat.le_of_ble_eq_true rfl⟩) hP hD hS hA (fun r5 ur5 H locs qr5 hP hD hS => ?_)
        obtain ⟨qr5, eur5⟩ := qr5
        have qr5 : r5 = 0 := qr5
        subst qr5
        have eur5 : ur5 = 0 := eur5
        subst eur5
        refine lv_if_eq (tgt := 41) hx hb dX1_dropStep_36 (by decide) (fun c6 => ?_) (fun c6 => ?_)
        · refine lv_aload_n hx hb dX1_dropStep_41 rfl (lv_at hl 1 rfl) ?_
          refine va_get (D := D) (ci := 1) (v := .ref (h 6)) (C := RX1) (T := TX1) (N := 14) hx hb hts hin0 hown hK hP 0 rfl rfl 7 (by decide) kw0 (fun _ h9 => h9) rfl dX1_dropStep_42 ?_
          refine lv_iload_n hx hb dX1_dropStep_45 rfl (lv_at hl 2 rfl) ?_
          refine r_ald (f := m_rt M) (j := j) hx hb hK hP 6 0 rfl rfl (by omega) (by omega) dX1_dropStep_46 ?_
          refine lv_istore_n (lv' := [(3, .int ((m_rt M) j)), (2, .int 1), (0, .ref (h 0)), (1, .int (nI j))]) hx hb dX1_dropStep_47 rfl hl (by decide) rfl (fun ls hl => ?_)
          refine lv_aload_n hx hb dX1_dropStep_48 rfl (lv_at hl 2 rfl) ?_
          refine va_get (D := D) (ci := 1) (v := .ref (h 6)) (C := RX1) (T := TX1) (N := 14) hx hb hts hin0 hown hK hP 0 rfl rfl 7 (by decide) kw0 (fun _ h9 => h9) rfl dX1_dropStep_49 ?_
          refine lv_iload_n hx hb dX1_dropStep_52 rfl (lv_at hl 3 rfl) ?_
          refine lv_iconst (v := -1) hx hb dX1_dropStep_53 (by decide) ?_
          refine r_ast (f := m_rt M) (j := j) (v := (-1)) hx hb hK hP hD hS 6 0 rfl rfl (by omega) (by omega) dX1_dropStep_54 (fun H locs hP hD hS => ?_)
          obtain ⟨N7, eN7⟩ : ∃ N9 : MM, N9 = s_rt M (upd (m_rt M) j (-1)) := ⟨_, rfl⟩
          rw [q1_rt, ← eN7] at hP hD
          have aN7_rt : m_rt N7 = upd (m_rt M) j (-1) := by rw [eN7]; rfl
          refine lv_iload_n hx hb dX1_dropStep_55 rfl (lv_at hl 0 rfl) ?_
          subst hQ
          exact W.iret (v := (m_rt M) j) hx hb hr (fun t ht hW => ⟨⟨(m_rt M) j, (0, N7), rfl, (by subst eN7; exact (y_pk 0 (by first | (simp [y_dropStep, z2, hcl, c4, pk_us]; done) | (simp only [y_dropStep, z2, hcl]; simp [c4, pk_us]; done)) rfl)), by rw [ht]; exact hP, hD⟩, hS.F ht⟩) hS.2.2 dX1_dropStep_56
        · exact absurd c6 (by decide)
      · refine lv_iconst (v := 2) hx hb dX1_dropStep_28 (by decide) ?_
        refine lv_goto (tgt := 33) hx hb dX1_dropStep_29 (by decide) ?_
        refine g_calliS (wf := fun u : Int32 => w1 h cA u M) (va_runV (As := [.int 2]) (rest := []) ⟨hx, hb, hml, hown, hts⟩ (c1_refused l D h cA rf M 2 s.heap.size) (cwV 1 hts gX1_dropStep_X1_refused rfl rfl rfl (by decide +kernel) ⟨Nat.le_of_ble_eq_true rfl, Nat.le_of_ble_eq_true rfl⟩) ⟨pW_fb, va_recv hK hP (ci := 1) (q0 := 0) rfl rfl, pW_mk hP hK hD⟩ rfl rfl hl.1 rfl (lv_room (Nat.le_of_ble_eq_true rfl)) dX1_dropStep_33 ⟨Nat.le_of_ble_eq_true rfl, Nat.le_of_ble_eq_true rfl⟩) hP hD hS hA (fun r8 ur8 H locs qr8 hP hD hS => ?_)
        obtain ⟨qr8, eur8⟩ := qr8
        have qr8 : r8 = 1 := qr8
        subst qr8
        have eur8 : ur8 = 2 := eur8
        subst eur8
        refine lv_if_eq (tgt := 41) hx hb dX1_dropStep_36 (by decide) (fun c9 => ?_) (fun c9 => ?_)
        · exact absurd c9 (by decide)
        · refine lv_iconst (v := 0) hx hb dX1_dropStep_39 (by decide) ?_
          subst hQ
          exact W.iret (v := 0) hx hb hr (fun t ht hW => ⟨⟨0, (2, M), rfl, (y_pk 2 (by first | (simp [y_dropStep, z2, hcl, c4, pk_us]; done) | (simp only [y_dropStep, z2, hcl]; simp [c4, pk_us]; done)) rfl), by rw [ht]; exact hP, hD⟩, hS.F ht⟩) hS.2.2 dX1_dropStep_40
    · exact absurd c3 (by decide)
  · have qr1 : r1 = 0 := by rw [qr1, z2]; rfl
    subst qr1
    refine lv_istore_n (lv' := [(2, .int 0), (0, .ref (h 0)), (1, .int t9)]) hx hb dX1_dropStep_8 rfl hl (by decide) rfl (fun ls hl => ?_)
    refine lv_aload_n hx hb dX1_dropStep_9 rfl (lv_at hl 1 rfl) ?_
    refine lv_iload_n hx hb dX1_dropStep_10 rfl (lv_at hl 0 rfl) ?_
    refine lv_if_ne (tgt := 18) hx hb dX1_dropStep_11 (by decide) (fun c10 => ?_) (fun c10 => ?_)
    · exact absurd c10 (by decide)
    · refine lv_iconst (v := 1) hx hb dX1_dropStep_14 (by decide) ?_
      refine lv_goto (tgt := 33) hx hb dX1_dropStep_15 (by decide) ?_
      refine g_calliS (wf := fun u : Int32 => w1 h cA u M) (va_runV (As := [.int 1]) (rest := []) ⟨hx, hb, hml, hown, hts⟩ (c1_refused l D h cA rf M 1 s.heap.size) (cwV 1 hts gX1_dropStep_X1_refused rfl rfl rfl (by decide +kernel) ⟨Nat.le_of_ble_eq_true rfl, Nat.le_of_ble_eq_true rfl⟩) ⟨pW_fb, va_recv hK hP (ci := 1) (q0 := 0) rfl rfl, pW_mk hP hK hD⟩ rfl rfl hl.1 rfl (lv_room (Nat.le_of_ble_eq_true rfl)) dX1_dropStep_33 ⟨Nat.le_of_ble_eq_true rfl, Nat.le_of_ble_eq_true rfl⟩) hP hD hS hA (fun r11 ur11 H locs qr11 hP hD hS => ?_)
      obtain ⟨qr11, eur11⟩ := qr11
      have qr11 : r11 = 1 := qr11
      subst qr11
      have eur11 : ur11 = 1 := eur11
      subst eur11
      refine lv_if_eq (tgt := 41) hx hb dX1_dropStep_36 (by decide) (fun c12 => ?_) (fun c12 => ?_)
      · exact absurd c12 (by decide)
      · refine lv_iconst (v := 0) hx hb dX1_dropStep_39 (by decide) ?_
        subst hQ
        exact W.iret (v := 0) hx hb hr (fun t ht hW => ⟨⟨0, (1, M), rfl, (y_pk 1 (by simp [y_dropStep, z2, pk_us]) rfl), by rw [ht]; exact hP, hD⟩, hS.F ht⟩) hS.2.2 dX1_dropStep_40
