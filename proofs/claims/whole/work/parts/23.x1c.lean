/-! THE REFERENCE: splits and goods -/
set_option maxHeartbeats 4000000 in
set_option maxRecDepth 100000 in
theorem c1_split (l : Launch) (D : va_G) (h : Nat → Nat) (cA : ClassId) (rf : Int32) (M : MM) (hM : OK1 M) (x p9 : Int32) (sz : Nat) : Met l yX1_split wsX1_split ({ frames := 2, cells := 0, slots := 0, locals := 43 } : Room) (va_Pc [.ref (h 0), .int x, .int p9] (pW D [(cA, .int)] (w1 h cA rf M) sz)) (va_Qi (fun (r : Int32) (u : Int32 × MM) => y_post (y_split M x p9) r u) (fun u => qW D (va_A (w1 h cA rf M) sz) (w1 h cA u.1 u.2)) (va_A (w1 h cA rf M) sz)) 0 0 (va_A (w1 h cA rf M) sz) := by
  refine Met.ofW (cc := cX1_split) (maxL := 4) (ret := (some .int)) (by decide) rfl ?_
  intro p e s m args below meth c s₁ B hml hv
  obtain ⟨rfl, hsz, hP, hK, hD0⟩ := hv
  have hx := B.exec
  have hb := B.bytes
  have hr := B.returns
  have hts := atoms_spec (ws := wsX1_split) B.pre
  have hown : s.vm.findClass RX1 = some m.cls := findClass_of_methodNamed B.named
  have hlocks := B.notSynchronized
  have kw0 := hts (.fieldLink RX1 7 "ProgressBillingModel" "values" "[I") (by decide +kernel)
  have kw1 := hts (.fieldLink RX1 44 "ProgressBillingModel" "lines" "I") (by decide +kernel)
  have kw2 := hts (.fieldLink RX1 13 "ProgressBillingModel" "earned" "[I") (by decide +kernel)
  have kw3 := hts (.fieldLink RX1 16 "ProgressBillingModel" "works" "[I") (by decide +kernel)
  have kw4 := hts (.fieldLink RX1 19 "ProgressBillingModel" "billed" "[I") (by decide +kernel)
  have kw5 := hts (.fieldLink RX1 22 "ProgressBillingModel" "held" "[I") (by decide +kernel)
  have hin0 : ∀ w ∈ u_ws RX1 TX1 14, w ∈ wsX1_split := by decide +kernel
  subst hsz
  have hD := hD0.self (sz := s.heap.size)
  generalize hAe : va_A (w1 h cA rf M) s.heap.size = A at hD ⊢
  have hA : ∀ q : Nat, s.heap.size ≤ q → A q := fun q h => by rw [← hAe]; exact Or.inr h
  have hS : va_S A s.heap s.heap [] := va_S.rf
  have hP : va_P D vwCl (w1 h cA rf M) s.heap := hP
  obtain ⟨hn1, hn4⟩ := id hM
  have hl := lv_entry ([.ref (h 0), .int x, .int p9]) (n := 4) (Nat.le_of_ble_eq_true rfl)
  rw [lg_entry_eq]
  generalize (lg_sl ([.ref (h 0), .int x, .int p9]) ++ List.replicate (4 - (lg_sl ([.ref (h 0), .int x, .int p9])).length) Slot.unset).toArray = ls at hl ⊢
  have hl : lv_has ls 4 [(0, .ref (h 0)), (1, .int x), (2, .int p9)] := hl
  refine w_abs (fun Q hQ => ?_)
  refine lv_aload_n hx hb dX1_split_0 rfl (lv_at hl 0 rfl) ?_
  refine lv_aload_n hx hb dX1_split_1 rfl (lv_at hl 0 rfl) ?_
  refine lv_iload_n hx hb dX1_split_2 rfl (lv_at hl 1 rfl) ?_
  refine vp_callSi (W.runV (As := [.int x]) (rest := [.ref (h 0)]) ⟨hx, hb, hml, hown, hts⟩ (c1_isLine l D h cA rf M hM x) (cwV 1 hts gX1_split_X1_isLine rfl rfl rfl (by decide +kernel) ⟨Nat.le_of_ble_eq_true rfl, Nat.le_of_ble_eq_true rfl⟩) ⟨pR_fb, va_recv hK hP (ci := 1) (q0 := 0) rfl rfl, pR_mk hP hK⟩ rfl rfl hl.1 rfl (lv_room (Nat.le_of_ble_eq_true rfl)) dX1_split_3 ⟨Nat.le_of_ble_eq_true rfl, Nat.le_of_ble_eq_true rfl⟩) (fun r1 qr1 => ?_)
  rcases ixL_c (n := m_ln M) (x := x) (by omega) with hix | ⟨j, hj, ex, hix⟩
  · have qr1 : r1 = 0 := by rw [qr1, hix]; rfl
    subst qr1
    refine lv_if_ne (tgt := 13) hx hb dX1_split_6 (by decide) (fun c2 => ?_) (fun c2 => ?_)
    · exact absurd c2 (by decide)
    · refine lv_iconst (v := 1) hx hb dX1_split_9 (by decide) ?_
      refine lv_goto (tgt := 47) hx hb dX1_split_10 (by decide) ?_
      refine g_calliS (wf := fun u : Int32 => w1 h cA u M) (va_runV (As := [.int 1]) (rest := []) ⟨hx, hb, hml, hown, hts⟩ (c1_refused l D h cA rf M 1 s.heap.size) (cwV 1 hts gX1_split_X1_refused rfl rfl rfl (by decide +kernel) ⟨Nat.le_of_ble_eq_true rfl, Nat.le_of_ble_eq_true rfl⟩) ⟨pW_fb, va_recv hK hP (ci := 1) (q0 := 0) rfl rfl, pW_mk hP hK hD⟩ rfl rfl hl.1 rfl (lv_room (Nat.le_of_ble_eq_true rfl)) dX1_split_47 ⟨Nat.le_of_ble_eq_true rfl, Nat.le_of_ble_eq_true rfl⟩) hP hD hS hA (fun r3 ur3 H locs qr3 hP hD hS => ?_)
      obtain ⟨qr3, eur3⟩ := qr3
      have qr3 : r3 = 1 := qr3
      subst qr3
      have eur3 : ur3 = 1 := eur3
      subst eur3
      refine lv_if_eq (tgt := 55) hx hb dX1_split_50 (by decide) (fun c4 => ?_) (fun c4 => ?_)
      · exact absurd c4 (by decide)
      · refine lv_iconst (v := 0) hx hb dX1_split_53 (by decide) ?_
        subst hQ
        exact W.iret (v := 0) hx hb hr (fun t ht hW => ⟨⟨0, (1, M), rfl, (y_pk 1 (by simp [y_split, hix, pk_us]) rfl), by rw [ht]; exact hP, hD⟩, hS.F ht⟩) hS.2.2 dX1_split_54
  · have qr1 : r1 = 1 := by rw [qr1, hix]; rfl
    subst qr1
    subst ex
    refine lv_if_ne (tgt := 13) hx hb dX1_split_6 (by decide) (fun c5 => ?_) (fun c5 => ?_)
    · refine lv_iload_n hx hb dX1_split_13 rfl (lv_at hl 2 rfl) ?_
      refine lv_iconst (v := 1) hx hb dX1_split_14 (by decide) ?_
      refine lv_aload_n hx hb dX1_split_15 rfl (lv_at hl 0 rfl) ?_
      refine va_get (D := D) (ci := 1) (v := .ref (h 1)) (C := RX1) (T := TX1) (N := 14) hx hb hts hin0 hown hK hP 0 rfl rfl 2 (by decide) kw0 (fun _ h9 => h9) rfl dX1_split_16 ?_
      refine lv_iload_n hx hb dX1_split_19 rfl (lv_at hl 1 rfl) ?_
      refine r_ald (f := m_lv M) (j := j) hx hb hK hP 1 0 rfl rfl (by omega) (by omega) dX1_split_20 ?_
      refine lv_iconst (v := 1) hx hb dX1_split_21 (by decide) ?_
      refine lv_isub hx hb dX1_split_22 ?_
      refine vp_callSi (W.runS (As := [.int p9, .int 1, .int (((m_lv M) j) - 1)]) (rest := [.ref (h 0)]) ⟨hx, hb, hml, hown, hts⟩ (c1_in l p9 1 (((m_lv M) j) - 1)) (va_cwS 3 hts gX1_split_X1_in rfl rfl rfl (by decide +kernel) ⟨Nat.le_of_ble_eq_true rfl, Nat.le_of_ble_eq_true rfl⟩) ⟨nil_fb, nil_mk⟩ rfl rfl hl.1 rfl (lv_room (Nat.le_of_ble_eq_true rfl)) dX1_split_23 ⟨Nat.le_of_ble_eq_true rfl, Nat.le_of_ble_eq_true rfl⟩) (fun r6 qr6 => ?_)
      rcases bl_c (inR p9 1 (((m_lv M) j) - 1)) with z7 | z7
      · have qr6 : r6 = 1 := by rw [qr6, z7]; rfl
        subst qr6
        refine lv_if_ne (tgt := 33) hx hb dX1_split_26 (by decide) (fun c8 => ?_) (fun c8 => ?_)
        · refine lv_aload_n hx hb dX1_split_33 rfl (lv_at hl 0 rfl) ?_
          refine va_get (D := D) (ci := 1) (v := .int (nI (m_ln M))) (C := RX1) (T := TX1) (N := 14) hx hb hts hin0 hown hK hP 0 rfl rfl 1 (by decide) kw1 (fun _ h9 => h9) rfl dX1_split_34 ?_
          refine lv_bipush (v := 16) hx hb dX1_split_37 (by decide) ?_
          refine lv_icmp_ne (tgt := 46) hx hb dX1_split_39 (by decide) (fun c9 => ?_) (fun c9 => ?_)
          · have c9 := k_ne (a := (m_ln M)) (b := 16) (by omega) (by omega) c9
            refine lv_iconst (v := 0) hx hb dX1_split_46 (by decide) ?_
            refine g_calliS (wf := fun u : Int32 => w1 h cA u M) (va_runV (As := [.int 0]) (rest := []) ⟨hx, hb, hml, hown, hts⟩ (c1_refused l D h cA rf M 0 s.heap.size) (cwV 1 hts gX1_split_X1_refused rfl rfl rfl (by decide +kernel) ⟨Nat.le_of_ble_eq_true rfl, Nat.le_of_ble_eq_true rfl⟩) ⟨pW_fb, va_recv hK hP (ci := 1) (q0 := 0) rfl rfl, pW_mk hP hK hD⟩ rfl rfl hl.1 rfl (lv_room (Nat.le_of_ble_eq_true rfl)) dX1_split_47 ⟨Nat.le_of_ble_eq_true rfl, Nat.le_of_ble_eq_true rfl⟩) hP hD hS hA (fun r10 ur10 H locs qr10 hP hD hS => ?_)
            obtain ⟨qr10, eur10⟩ := qr10
            have qr10 : r10 = 0 := qr10
            subst qr10
            have eur10 : ur10 = 0 := eur10
            subst eur10
            refine lv_if_eq (tgt := 55) hx hb dX1_split_50 (by decide) (fun c11 => ?_) (fun c11 => ?_)
            · have hv0 : ¬ m_lv M j = 0 := inR_nz z7
              refine lv_aload_n hx hb dX1_split_55 rfl (lv_at hl 0 rfl) ?_
              refine va_get (D := D) (ci := 1) (v := .ref (h 1)) (C := RX1) (T := TX1) (N := 14) hx hb hts hin0 hown hK hP 0 rfl rfl 2 (by decide) kw0 (fun _ h9 => h9) rfl dX1_split_56 ?_
              refine lv_iload_n hx hb dX1_split_59 rfl (lv_at hl 1 rfl) ?_
              refine r_ald (f := m_lv M) (j := j) hx hb hK hP 1 0 rfl rfl (by omega) (by omega) dX1_split_60 ?_
              refine lv_istore_n (lv' := [(3, .int ((m_lv M) j)), (0, .ref (h 0)), (1, .int (nI j)), (2, .int p9)]) hx hb dX1_split_61 rfl hl (by decide) rfl (fun ls hl => ?_)
              refine lv_aload_n hx hb dX1_split_62 rfl (lv_at hl 1 rfl) ?_
              refine lv_aload_n hx hb dX1_split_63 rfl (lv_at hl 1 rfl) ?_
              refine va_get (D := D) (ci := 1) (v := .int (nI (m_ln M))) (C := RX1) (T := TX1) (N := 14) hx hb hts hin0 hown hK hP 0 rfl rfl 1 (by decide) kw1 (fun _ h9 => h9) rfl dX1_split_64 ?_
              refine lv_iload_n hx hb dX1_split_67 rfl (lv_at hl 3 rfl) ?_
              refine lv_aload_n hx hb dX1_split_68 rfl (lv_at hl 1 rfl) ?_
              refine va_get (D := D) (ci := 1) (v := .ref (h 2)) (C := RX1) (T := TX1) (N := 14) hx hb hts hin0 hown hK hP 0 rfl rfl 3 (by decide) kw2 (fun _ h9 => h9) rfl dX1_split_69 ?_
              refine lv_iload_n hx hb dX1_split_72 rfl (lv_at hl 2 rfl) ?_
              refine r_ald (f := m_le M) (j := j) hx hb hK hP 2 0 rfl rfl (by omega) (by omega) dX1_split_73 ?_
              refine lv_iload_n hx hb dX1_split_74 rfl (lv_at hl 3 rfl) ?_
              refine lv_iload_n hx hb dX1_split_75 rfl (lv_at hl 0 rfl) ?_
              refine vp_callSi (W.runS (As := [.int ((m_le M) j), .int p9, .int ((m_lv M) j)]) (rest := [.int p9, .int (nI (m_ln M)), .ref (h 0)]) ⟨hx, hb, hml, hown, hts⟩ (c1_share l ((m_le M) j) p9 ((m_lv M) j) hv0) (va_cwS 3 hts gX1_split_X1_share rfl rfl rfl (by decide +kernel) ⟨Nat.le_of_ble_eq_true rfl, Nat.le_of_ble_eq_true rfl⟩) ⟨nil_fb, nil_mk⟩ rfl rfl hl.1 rfl (lv_room (Nat.le_of_ble_eq_true rfl)) dX1_split_76 ⟨Nat.le_of_ble_eq_true rfl, Nat.le_of_ble_eq_true rfl⟩) (fun r12 qr12 => ?_)
              have qr12 : r12 = y_sh ((m_le M) j) p9 ((m_lv M) j) := qr12
              subst qr12
              refine lv_aload_n hx hb dX1_split_79 rfl (lv_at hl 1 rfl) ?_
              refine va_get (D := D) (ci := 1) (v := .ref (h 3)) (C := RX1) (T := TX1) (N := 14) hx hb hts hin0 hown hK hP 0 rfl rfl 4 (by decide) kw3 (fun _ h9 => h9) rfl dX1_split_80 ?_
              refine lv_iload_n hx hb dX1_split_83 rfl (lv_at hl 2 rfl) ?_
              refine r_ald (f := m_lw M) (j := j) hx hb hK hP 3 0 rfl rfl (by omega) (by omega) dX1_split_84 ?_
              refine lv_iload_n hx hb dX1_split_85 rfl (lv_at hl 3 rfl) ?_
              refine lv_iload_n hx hb dX1_split_86 rfl (lv_at hl 0 rfl) ?_
              refine vp_callSi (W.runS (As := [.int ((m_lw M) j), .int p9, .int ((m_lv M) j)]) (rest := [.int (y_sh ((m_le M) j) p9 ((m_lv M) j)), .int p9, .int (nI (m_ln M)), .ref (h 0)]) ⟨hx, hb, hml, hown, hts⟩ (c1_share l ((m_lw M) j) p9 ((m_lv M) j) hv0) (va_cwS 3 hts gX1_split_X1_share rfl rfl rfl (by decide +kernel) ⟨Nat.le_of_ble_eq_true rfl, Nat.le_of_ble_eq_true rfl⟩) ⟨nil_fb, nil_mk⟩ rfl rfl hl.1 rfl (lv_room (Nat.le_of_ble_eq_true rfl)) dX1_split_87 ⟨Nat.le_of_ble_eq_true rfl, Nat.le_of_ble_eq_true rfl⟩) (fun r13 qr13 => ?_)
              have qr13 : r13 = y_sh ((m_lw M) j) p9 ((m_lv M) j) := qr13
              subst qr13
              refine lv_aload_n hx hb dX1_split_90 rfl (lv_at hl 1 rfl) ?_
              refine va_get (D := D) (ci := 1) (v := .ref (h 4)) (C := RX1) (T := TX1) (N := 14) hx hb hts hin0 hown hK hP 0 rfl rfl 5 (by decide) kw4 (fun _ h9 => h9) rfl dX1_split_91 ?_
              refine lv_iload_n hx hb dX1_split_94 rfl (lv_at hl 2 rfl) ?_
              refine r_ald (f := m_lb M) (j := j) hx hb hK hP 4 0 rfl rfl (by omega) (by omega) dX1_split_95 ?_
              refine lv_iload_n hx hb dX1_split_96 rfl (lv_at hl 3 rfl) ?_
              refine lv_iload_n hx hb dX1_split_97 rfl (lv_at hl 0 rfl) ?_
              refine vp_callSi (W.runS (As := [.int ((m_lb M) j), .int p9, .int ((m_lv M) j)]) (rest := [.int (y_sh ((m_lw M) j) p9 ((m_lv M) j)), .int (y_sh ((m_le M) j) p9 ((m_lv M) j)), .int p9, .int (nI (m_ln M)), .ref (h 0)]) ⟨hx, hb, hml, hown, hts⟩ (c1_share l ((m_lb M) j) p9 ((m_lv M) j) hv0) (va_cwS 3 hts gX1_split_X1_share rfl rfl rfl (by decide +kernel) ⟨Nat.le_of_ble_eq_true rfl, Nat.le_of_ble_eq_true rfl⟩) ⟨nil_fb, nil_mk⟩ rfl rfl hl.1 rfl (lv_room (Nat.le_of_ble_eq_true rfl)) dX1_split_98 ⟨Nat.le_of_ble_eq_true rfl, Nat.le_of_ble_eq_true rfl⟩) (fun r14 qr14 => ?_)
              have qr14 : r14 = y_sh ((m_lb M) j) p9 ((m_lv M) j) := qr14
              subst qr14
              refine lv_aload_n hx hb dX1_split_101 rfl (lv_at hl 1 rfl) ?_
              refine va_get (D := D) (ci := 1) (v := .ref (h 5)) (C := RX1) (T := TX1) (N := 14) hx hb hts hin0 hown hK hP 0 rfl rfl 6 (by decide) kw5 (fun _ h9 => h9) rfl dX1_split_102 ?_
              refine lv_iload_n hx hb dX1_split_105 rfl (lv_at hl 2 rfl) ?_
              refine r_ald (f := m_lh M) (j := j) hx hb hK hP 5 0 rfl rfl (by omega) (by omega) dX1_split_106 ?_
              refine lv_iload_n hx hb dX1_split_107 rfl (lv_at hl 3 rfl) ?_
              refine lv_iload_n hx hb dX1_split_108 rfl (lv_at hl 0 rfl) ?_
              refine vp_callSi (W.runS (As := [.int ((m_lh M) j), .int p9, .int ((m_lv M) j)]) (rest := [.int (y_sh ((m_lb M) j) p9 ((m_lv M) j)), .int (y_sh ((m_lw M) j) p9 ((m_lv M) j)), .int (y_sh ((m_le M) j) p9 ((m_lv M) j)), .int p9, .int (nI (m_ln M)), .ref (h 0)]) ⟨hx, hb, hml, hown, hts⟩ (c1_share l ((m_lh M) j) p9 ((m_lv M) j) hv0) (va_cwS 3 hts gX1_split_X1_share rfl rfl rfl (by decide +kernel) ⟨Nat.le_of_ble_eq_true rfl, Nat.le_of_ble_eq_true rfl⟩) ⟨nil_fb, nil_mk⟩ rfl rfl hl.1 rfl (lv_room (Nat.le_of_ble_eq_true rfl)) dX1_split_109 ⟨Nat.le_of_ble_eq_true rfl, Nat.le_of_ble_eq_true rfl⟩) (fun r15 qr15 => ?_)
              have qr15 : r15 = y_sh ((m_lh M) j) p9 ((m_lv M) j) := qr15
              subst qr15
              refine g_callvS (wf := fun u : MM => w1 h cA 0 u) (va_runV (As := [.int (nI (m_ln M)), .int p9, .int (y_sh ((m_le M) j) p9 ((m_lv M) j)), .int (y_sh ((m_lw M) j) p9 ((m_lv M) j)), .int (y_sh ((m_lb M) j) p9 ((m_lv M) j)), .int (y_sh ((m_lh M) j) p9 ((m_lv M) j))]) (rest := []) ⟨hx, hb, hml, hown, hts⟩ (c1_put l D h cA 0 M (m_ln M) (by omega) p9 (y_sh ((m_le M) j) p9 ((m_lv M) j)) (y_sh ((m_lw M) j) p9 ((m_lv M) j)) (y_sh ((m_lb M) j) p9 ((m_lv M) j)) (y_sh ((m_lh M) j) p9 ((m_lv M) j)) H.size) (cwV 6 hts gX1_split_X1_put rfl rfl rfl (by decide +kernel) ⟨Nat.le_of_ble_eq_true rfl, Nat.le_of_ble_eq_true rfl⟩) ⟨pW_fb, va_recv hK hP (ci := 1) (q0 := 0) rfl rfl, pW_mk hP hK hD⟩ rfl rfl hl.1 rfl (lv_room (Nat.le_of_ble_eq_true rfl)) dX1_split_112 ⟨Nat.le_of_ble_eq_true rfl, Nat.le_of_ble_eq_true rfl⟩) hP hD hS hA (fun N16 H locs qN16 hP hD hS => ?_)
              have qN16 : N16 = z_put M (m_ln M) p9 (y_sh ((m_le M) j) p9 ((m_lv M) j)) (y_sh ((m_lw M) j) p9 ((m_lv M) j)) (y_sh ((m_lb M) j) p9 ((m_lv M) j)) (y_sh ((m_lh M) j) p9 ((m_lv M) j)) := qN16
              have aN16_lv : m_lv N16 = upd (m_lv M) (m_ln M) p9 := by rw [qN16]; rfl
              have aN16_le : m_le N16 = upd (m_le M) (m_ln M) (y_sh ((m_le M) j) p9 ((m_lv M) j)) := by rw [qN16]; rfl
              have aN16_lw : m_lw N16 = upd (m_lw M) (m_ln M) (y_sh ((m_lw M) j) p9 ((m_lv M) j)) := by rw [qN16]; rfl
              have aN16_lb : m_lb N16 = upd (m_lb M) (m_ln M) (y_sh ((m_lb M) j) p9 ((m_lv M) j)) := by rw [qN16]; rfl
              have aN16_lh : m_lh N16 = upd (m_lh M) (m_ln M) (y_sh ((m_lh M) j) p9 ((m_lv M) j)) := by rw [qN16]; rfl
              have aN16_ln : m_ln N16 = m_ln M := by rw [qN16]; rfl
              have aN16_st : m_st N16 = m_st M := by rw [qN16]; rfl
              have aN16_sr : m_sr N16 = m_sr M := by rw [qN16]; rfl
              have aN16_sn : m_sn N16 = m_sn M := by rw [qN16]; rfl
              have aN16_rt : m_rt N16 = m_rt M := by rw [qN16]; rfl
              have aN16_hb : m_hb N16 = m_hb M := by rw [qN16]; rfl
              have aN16_as : m_as N16 = m_as M := by rw [qN16]; rfl
              have aN16_aa : m_aa N16 = m_aa M := by rw [qN16]; rfl
              have aN16_ab : m_ab N16 = m_ab M := by rw [qN16]; rfl
              have aN16_ah : m_ah N16 = m_ah M := by rw [qN16]; rfl
              have aN16_an : m_an N16 = m_an M := by rw [qN16]; rfl
              refine lv_aload_n hx hb dX1_split_115 rfl (lv_at hl 1 rfl) ?_
              refine lv_iload_n hx hb dX1_split_116 rfl (lv_at hl 2 rfl) ?_
              refine lv_iload_n hx hb dX1_split_117 rfl (lv_at hl 0 rfl) ?_
              refine lv_iload_n hx hb dX1_split_118 rfl (lv_at hl 3 rfl) ?_
              refine lv_isub hx hb dX1_split_119 ?_
              refine lv_aload_n hx hb dX1_split_120 rfl (lv_at hl 1 rfl) ?_
              refine va_get (D := D) (ci := 1) (v := .ref (h 2)) (C := RX1) (T := TX1) (N := 14) hx hb hts hin0 hown hK hP 0 rfl rfl 3 (by decide) kw2 (fun _ h9 => h9) rfl dX1_split_121 ?_
              refine lv_iload_n hx hb dX1_split_124 rfl (lv_at hl 2 rfl) ?_
              refine r_ald (f := m_le N16) (j := j) hx hb hK hP 2 0 rfl rfl (by omega) (by omega) dX1_split_125 ?_
              refine lv_topi (fun y17 ey17 => ?_)
              rw [aN16_le] at ey17
              subst ey17
              refine lv_aload_n hx hb dX1_split_126 rfl (lv_at hl 1 rfl) ?_
              refine va_get (D := D) (ci := 1) (v := .ref (h 2)) (C := RX1) (T := TX1) (N := 14) hx hb hts hin0 hown hK hP 0 rfl rfl 3 (by decide) kw2 (fun _ h9 => h9) rfl dX1_split_127 ?_
              refine lv_aload_n hx hb dX1_split_130 rfl (lv_at hl 1 rfl) ?_
              refine va_get (D := D) (ci := 1) (v := .int (nI (m_ln N16))) (C := RX1) (T := TX1) (N := 14) hx hb hts hin0 hown hK hP 0 rfl rfl 1 (by decide) kw1 (fun _ h9 => h9) rfl dX1_split_131 ?_
              refine lv_topi (fun y18 ey18 => ?_)
              rw [aN16_ln] at ey18
              subst ey18
              refine r_ald (f := m_le N16) (j := (m_ln M)) hx hb hK hP 2 0 rfl rfl (by omega) (by omega) dX1_split_134 ?_
              refine lv_topi (fun y19 ey19 => ?_)
              rw [aN16_le] at ey19
              subst ey19
              refine lv_isub hx hb dX1_split_135 ?_
              refine lv_aload_n hx hb dX1_split_136 rfl (lv_at hl 1 rfl) ?_
              refine va_get (D := D) (ci := 1) (v := .ref (h 3)) (C := RX1) (T := TX1) (N := 14) hx hb hts hin0 hown hK hP 0 rfl rfl 4 (by decide) kw3 (fun _ h9 => h9) rfl dX1_split_137 ?_
              refine lv_iload_n hx hb dX1_split_140 rfl (lv_at hl 2 rfl) ?_
              refine r_ald (f := m_lw N16) (j := j) hx hb hK hP 3 0 rfl rfl (by omega) (by omega) dX1_split_141 ?_
              refine lv_topi (fun y20 ey20 => ?_)
              rw [aN16_lw] at ey20
              subst ey20
              refine lv_aload_n hx hb dX1_split_142 rfl (lv_at hl 1 rfl) ?_
              refine va_get (D := D) (ci := 1) (v := .ref (h 3)) (C := RX1) (T := TX1) (N := 14) hx hb hts hin0 hown hK hP 0 rfl rfl 4 (by decide) kw3 (fun _ h9 => h9) rfl dX1_split_143 ?_
              refine lv_aload_n hx hb dX1_split_146 rfl (lv_at hl 1 rfl) ?_
              refine va_get (D := D) (ci := 1) (v := .int (nI (m_ln N16))) (C := RX1) (T := TX1) (N := 14) hx hb hts hin0 hown hK hP 0 rfl rfl 1 (by decide) kw1 (fun _ h9 => h9) rfl dX1_split_147 ?_
              refine lv_topi (fun y21 ey21 => ?_)
              rw [aN16_ln] at ey21
              subst ey21
              refine r_ald (f := m_lw N16) (j := (m_ln M)) hx hb hK hP 3 0 rfl rfl (by omega) (by omega) dX1_split_150 ?_
              refine lv_topi (fun y22 ey22 => ?_)
              rw [aN16_lw] at ey22
              subst ey22
              refine lv_isub hx hb dX1_split_151 ?_
              refine lv_aload_n hx hb dX1_split_152 rfl (lv_at hl 1 rfl) ?_
              refine va_get (D := D) (ci := 1) (v := .ref (h 4)) (C := RX1) (T := TX1) (N := 14) hx hb hts hin0 hown hK hP 0 rfl rfl 5 (by decide) kw4 (fun _ h9 => h9) rfl dX1_split_153 ?_
              refine lv_iload_n hx hb dX1_split_156 rfl (lv_at hl 2 rfl) ?_
              refine r_ald (f := m_lb N16) (j := j) hx hb hK hP 4 0 rfl rfl (by omega) (by omega) dX1_split_157 ?_
              refine lv_topi (fun y23 ey23 => ?_)
              rw [aN16_lb] at ey23
              subst ey23
              refine lv_aload_n hx hb dX1_split_158 rfl (lv_at hl 1 rfl) ?_
              refine va_get (D := D) (ci := 1) (v := .ref (h 4)) (C := RX1) (T := TX1) (N := 14) hx hb hts hin0 hown hK hP 0 rfl rfl 5 (by decide) kw4 (fun _ h9 => h9) rfl dX1_split_159 ?_
              refine lv_aload_n hx hb dX1_split_162 rfl (lv_at hl 1 rfl) ?_
              refine va_get (D := D) (ci := 1) (v := .int (nI (m_ln N16))) (C := RX1) (T := TX1) (N := 14) hx hb hts hin0 hown hK hP 0 rfl rfl 1 (by decide) kw1 (fun _ h9 => h9) rfl dX1_split_163 ?_
              refine lv_topi (fun y24 ey24 => ?_)
              rw [aN16_ln] at ey24
              subst ey24
              refine r_ald (f := m_lb N16) (j := (m_ln M)) hx hb hK hP 4 0 rfl rfl (by omega) (by omega) dX1_split_166 ?_
              refine lv_topi (fun y25 ey25 => ?_)
              rw [aN16_lb] at ey25
              subst ey25
              refine lv_isub hx hb dX1_split_167 ?_
              refine lv_aload_n hx hb dX1_split_168 rfl (lv_at hl 1 rfl) ?_
              refine va_get (D := D) (ci := 1) (v := .ref (h 5)) (C := RX1) (T := TX1) (N := 14) hx hb hts hin0 hown hK hP 0 rfl rfl 6 (by decide) kw5 (fun _ h9 => h9) rfl dX1_split_169 ?_
              refine lv_iload_n hx hb dX1_split_172 rfl (lv_at hl 2 rfl) ?_
              refine r_ald (f := m_lh N16) (j := j) hx hb hK hP 5 0 rfl rfl (by omega) (by omega) dX1_split_173 ?_
              refine lv_topi (fun y26 ey26 => ?_)
              rw [aN16_lh] at ey26
              subst ey26
              refine lv_aload_n hx hb dX1_split_174 rfl (lv_at hl 1 rfl) ?_
              refine va_get (D := D) (ci := 1) (v := .ref (h 5)) (C := RX1) (T := TX1) (N := 14) hx hb hts hin0 hown hK hP 0 rfl rfl 6 (by decide) kw5 (fun _ h9 => h9) rfl dX1_split_175 ?_
              refine lv_aload_n hx hb dX1_split_178 rfl (lv_at hl 1 rfl) ?_
              refine va_get (D := D) (ci := 1) (v := .int (nI (m_ln N16))) (C := RX1) (T := TX1) (N := 14) hx hb hts hin0 hown hK hP 0 rfl rfl 1 (by decide) kw1 (fun _ h9 => h9) rfl dX1_split_179 ?_
              refine lv_topi (fun y27 ey27 => ?_)
              rw [aN16_ln] at ey27
              subst ey27
              refine r_ald (f := m_lh N16) (j := (m_ln M)) hx hb hK hP 5 0 rfl rfl (by omega) (by omega) dX1_split_182 ?_
              refine lv_topi (fun y28 ey28 => ?_)
              rw [aN16_lh] at ey28
              subst ey28
              refine lv_isub hx hb dX1_split_183 ?_
              refine g_callvS (wf := fun u : MM => w1 h cA 0 u) (va_runV (As := [.int (nI j), .int (((m_lv M) j) - p9), .int (((upd (m_le M) (m_ln M) (y_sh ((m_le M) j) p9 ((m_lv M) j))) j) - ((upd (m_le M) (m_ln M) (y_sh ((m_le M) j) p9 ((m_lv M) j))) (m_ln M))), .int (((upd (m_lw M) (m_ln M) (y_sh ((m_lw M) j) p9 ((m_lv M) j))) j) - ((upd (m_lw M) (m_ln M) (y_sh ((m_lw M) j) p9 ((m_lv M) j))) (m_ln M))), .int (((upd (m_lb M) (m_ln M) (y_sh ((m_lb M) j) p9 ((m_lv M) j))) j) - ((upd (m_lb M) (m_ln M) (y_sh ((m_lb M) j) p9 ((m_lv M) j))) (m_ln M))), .int (((upd (m_lh M) (m_ln M) (y_sh ((m_lh M) j) p9 ((m_lv M) j))) j) - ((upd (m_lh M) (m_ln M) (y_sh ((m_lh M) j) p9 ((m_lv M) j))) (m_ln M)))]) (rest := []) ⟨hx, hb, hml, hown, hts⟩ (c1_put l D h cA 0 N16 j (by omega) (((m_lv M) j) - p9) (((upd (m_le M) (m_ln M) (y_sh ((m_le M) j) p9 ((m_lv M) j))) j) - ((upd (m_le M) (m_ln M) (y_sh ((m_le M) j) p9 ((m_lv M) j))) (m_ln M))) (((upd (m_lw M) (m_ln M) (y_sh ((m_lw M) j) p9 ((m_lv M) j))) j) - ((upd (m_lw M) (m_ln M) (y_sh ((m_lw M) j) p9 ((m_lv M) j))) (m_ln M))) (((upd (m_lb M) (m_ln M) (y_sh ((m_lb M) j) p9 ((m_lv M) j))) j) - ((upd (m_lb M) (m_ln M) (y_sh ((m_lb M) j) p9 ((m_lv M) j))) (m_ln M))) (((upd (m_lh M) (m_ln M) (y_sh ((m_lh M) j) p9 ((m_lv M) j))) j) - ((upd (m_lh M) (m_ln M) (y_sh ((m_lh M) j) p9 ((m_lv M) j))) (m_ln M))) H.size) (cwV 6 hts gX1_split_X1_put rfl rfl rfl (by decide +kernel) ⟨Nat.le_of_ble_eq_true rfl, Nat.le_of_ble_eq_true rfl⟩) ⟨pW_fb, va_recv hK hP (ci := 1) (q0 := 0) rfl rfl, pW_mk hP hK hD⟩ rfl rfl hl.1 rfl (lv_room (Nat.le_of_ble_eq_true rfl)) dX1_split_184 ⟨Nat.le_of_ble_eq_true rfl, Nat.le_of_ble_eq_true rfl⟩) hP hD hS hA (fun N29 H locs qN29 hP hD hS => ?_)
              have qN29 : N29 = z_put N16 j (((m_lv M) j) - p9) (((upd (m_le M) (m_ln M) (y_sh ((m_le M) j) p9 ((m_lv M) j))) j) - ((upd (m_le M) (m_ln M) (y_sh ((m_le M) j) p9 ((m_lv M) j))) (m_ln M))) (((upd (m_lw M) (m_ln M) (y_sh ((m_lw M) j) p9 ((m_lv M) j))) j) - ((upd (m_lw M) (m_ln M) (y_sh ((m_lw M) j) p9 ((m_lv M) j))) (m_ln M))) (((upd (m_lb M) (m_ln M) (y_sh ((m_lb M) j) p9 ((m_lv M) j))) j) - ((upd (m_lb M) (m_ln M) (y_sh ((m_lb M) j) p9 ((m_lv M) j))) (m_ln M))) (((upd (m_lh M) (m_ln M) (y_sh ((m_lh M) j) p9 ((m_lv M) j))) j) - ((upd (m_lh M) (m_ln M) (y_sh ((m_lh M) j) p9 ((m_lv M) j))) (m_ln M))) := qN29
              have aN29_lv : m_lv N29 = upd (upd (m_lv M) (m_ln M) p9) j (((m_lv M) j) - p9) := by rw [qN29, ← aN16_lv]; rfl
              have aN29_le : m_le N29 = upd (upd (m_le M) (m_ln M) (y_sh ((m_le M) j) p9 ((m_lv M) j))) j (((upd (m_le M) (m_ln M) (y_sh ((m_le M) j) p9 ((m_lv M) j))) j) - ((upd (m_le M) (m_ln M) (y_sh ((m_le M) j) p9 ((m_lv M) j))) (m_ln M))) := by rw [qN29, ← aN16_le]; rfl
              have aN29_lw : m_lw N29 = upd (upd (m_lw M) (m_ln M) (y_sh ((m_lw M) j) p9 ((m_lv M) j))) j (((upd (m_lw M) (m_ln M) (y_sh ((m_lw M) j) p9 ((m_lv M) j))) j) - ((upd (m_lw M) (m_ln M) (y_sh ((m_lw M) j) p9 ((m_lv M) j))) (m_ln M))) := by rw [qN29, ← aN16_lw]; rfl
              have aN29_lb : m_lb N29 = upd (upd (m_lb M) (m_ln M) (y_sh ((m_lb M) j) p9 ((m_lv M) j))) j (((upd (m_lb M) (m_ln M) (y_sh ((m_lb M) j) p9 ((m_lv M) j))) j) - ((upd (m_lb M) (m_ln M) (y_sh ((m_lb M) j) p9 ((m_lv M) j))) (m_ln M))) := by rw [qN29, ← aN16_lb]; rfl
              have aN29_lh : m_lh N29 = upd (upd (m_lh M) (m_ln M) (y_sh ((m_lh M) j) p9 ((m_lv M) j))) j (((upd (m_lh M) (m_ln M) (y_sh ((m_lh M) j) p9 ((m_lv M) j))) j) - ((upd (m_lh M) (m_ln M) (y_sh ((m_lh M) j) p9 ((m_lv M) j))) (m_ln M))) := by rw [qN29, ← aN16_lh]; rfl
              have aN29_ln : m_ln N29 = m_ln M := by rw [qN29]; exact aN16_ln
              have aN29_st : m_st N29 = m_st M := by rw [qN29]; exact aN16_st
              have aN29_sr : m_sr N29 = m_sr M := by rw [qN29]; exact aN16_sr
              have aN29_sn : m_sn N29 = m_sn M := by rw [qN29]; exact aN16_sn
              have aN29_rt : m_rt N29 = m_rt M := by rw [qN29]; exact aN16_rt
              have aN29_hb : m_hb N29 = m_hb M := by rw [qN29]; exact aN16_hb
              have aN29_as : m_as N29 = m_as M := by rw [qN29]; exact aN16_as
              have aN29_aa : m_aa N29 = m_aa M := by rw [qN29]; exact aN16_aa
              have aN29_ab : m_ab N29 = m_ab M := by rw [qN29]; exact aN16_ab
              have aN29_ah : m_ah N29 = m_ah M := by rw [qN29]; exact aN16_ah
              have aN29_an : m_an N29 = m_an M := by rw [qN29]; exact aN16_an
              refine lv_aload_n hx hb dX1_split_187 rfl (lv_at hl 1 rfl) ?_
              refine lv_dup hx hb dX1_split_188 rfl ?_
              refine va_get (D := D) (ci := 1) (v := .int (nI (m_ln N29))) (C := RX1) (T := TX1) (N := 14) hx hb hts hin0 hown hK hP 0 rfl rfl 1 (by decide) kw1 (fun _ h9 => h9) rfl dX1_split_189 ?_
              refine lv_topi (fun y30 ey30 => ?_)
              rw [aN29_ln] at ey30
              subst ey30
              refine lv_iconst (v := 1) hx hb dX1_split_192 (by decide) ?_
              refine lv_iadd hx hb dX1_split_193 ?_
              refine lv_topi (fun y31 ey31 => ?_)
              obtain rfl : y31 = nI ((m_ln M) + 1) := ey31.trans (nI_1 _)
              refine va_put (D := D) (ci := 1) (v := .int (nI ((m_ln M) + 1))) (ty := .int) (C := RX1) (T := TX1) (N := 14) hx hb hts hin0 tyX1 tyX1_ok nmX1 hown hK hP hD hS 0 rfl rfl 1 (by decide) kw1 (fun _ h9 => h9) rfl (by decide +kernel) rfl rfl (Nat.le_of_ble_eq_true rfl) dX1_split_194 (fun H locs hP hD hS => ?_)
              obtain ⟨N32, eN32⟩ : ∃ N9 : MM, N9 = s_ln N29 ((m_ln M) + 1) := ⟨_, rfl⟩
              rw [q1_ln, ← eN32] at hP hD
              have aN32_lv : m_lv N32 = upd (upd (m_lv M) (m_ln M) p9) j (((m_lv M) j) - p9) := by rw [eN32]; exact aN29_lv
              have aN32_le : m_le N32 = upd (upd (m_le M) (m_ln M) (y_sh ((m_le M) j) p9 ((m_lv M) j))) j (((upd (m_le M) (m_ln M) (y_sh ((m_le M) j) p9 ((m_lv M) j))) j) - ((upd (m_le M) (m_ln M) (y_sh ((m_le M) j) p9 ((m_lv M) j))) (m_ln M))) := by rw [eN32]; exact aN29_le
              have aN32_lw : m_lw N32 = upd (upd (m_lw M) (m_ln M) (y_sh ((m_lw M) j) p9 ((m_lv M) j))) j (((upd (m_lw M) (m_ln M) (y_sh ((m_lw M) j) p9 ((m_lv M) j))) j) - ((upd (m_lw M) (m_ln M) (y_sh ((m_lw M) j) p9 ((m_lv M) j))) (m_ln M))) := by rw [eN32]; exact aN29_lw
              have aN32_lb : m_lb N32 = upd (upd (m_lb M) (m_ln M) (y_sh ((m_lb M) j) p9 ((m_lv M) j))) j (((upd (m_lb M) (m_ln M) (y_sh ((m_lb M) j) p9 ((m_lv M) j))) j) - ((upd (m_lb M) (m_ln M) (y_sh ((m_lb M) j) p9 ((m_lv M) j))) (m_ln M))) := by rw [eN32]; exact aN29_lb
              have aN32_lh : m_lh N32 = upd (upd (m_lh M) (m_ln M) (y_sh ((m_lh M) j) p9 ((m_lv M) j))) j (((upd (m_lh M) (m_ln M) (y_sh ((m_lh M) j) p9 ((m_lv M) j))) j) - ((upd (m_lh M) (m_ln M) (y_sh ((m_lh M) j) p9 ((m_lv M) j))) (m_ln M))) := by rw [eN32]; exact aN29_lh
              have aN32_ln : m_ln N32 = ((m_ln M) + 1) := by rw [eN32]; rfl
              have aN32_st : m_st N32 = m_st M := by rw [eN32]; exact aN29_st
              have aN32_sr : m_sr N32 = m_sr M := by rw [eN32]; exact aN29_sr
              have aN32_sn : m_sn N32 = m_sn M := by rw [eN32]; exact aN29_sn
              have aN32_rt : m_rt N32 = m_rt M := by rw [eN32]; exact aN29_rt
              have aN32_hb : m_hb N32 = m_hb M := by rw [eN32]; exact aN29_hb
              have aN32_as : m_as N32 = m_as M := by rw [eN32]; exact aN29_as
              have aN32_aa : m_aa N32 = m_aa M := by rw [eN32]; exact aN29_aa
              have aN32_ab : m_ab N32 = m_ab M := by rw [eN32]; exact aN29_ab
              have aN32_ah : m_ah N32 = m_ah M := by rw [eN32]; exact aN29_ah
              have aN32_an : m_an N32 = m_an M := by rw [eN32]; exact aN29_an
              refine lv_aload_n hx hb dX1_split_197 rfl (lv_at hl 1 rfl) ?_
              refine va_get (D := D) (ci := 1) (v := .int (nI (m_ln N32))) (C := RX1) (T := TX1) (N := 14) hx hb hts hin0 hown hK hP 0 rfl rfl 1 (by decide) kw1 (fun _ h9 => h9) rfl dX1_split_198 ?_
              refine lv_topi (fun y33 ey33 => ?_)
              rw [aN32_ln] at ey33
              subst ey33
              refine lv_iconst (v := 1) hx hb dX1_split_201 (by decide) ?_
              refine lv_isub hx hb dX1_split_202 ?_
              refine lv_topi (fun y34 ey34 => ?_)
              obtain rfl : y34 = nI (m_ln M) := ey34.trans (nI_pred _)
              subst hQ
              exact W.iret (v := nI (m_ln M)) hx hb hr (fun t ht hW => ⟨⟨nI (m_ln M), (0, N32), rfl, (y_pk 0 (by rw [mk_eta N32, aN32_lv, aN32_le, aN32_lw, aN32_lb, aN32_lh, aN32_ln, aN32_st, aN32_sr, aN32_sn, aN32_rt, aN32_hb, aN32_as, aN32_aa, aN32_ab, aN32_ah, aN32_an]; exact y_split_ok hix z7 c9) rfl), by rw [ht]; exact hP, hD⟩, hS.F ht⟩) hS.2.2 dX1_split_203
            · exact absurd c11 (by decide)
          · have c9 := k_eq (a := (m_ln M)) (b := 16) (by omega) (by omega) c9
            refine lv_iconst (v := 3) hx hb dX1_split_42 (by decide) ?_
            refine lv_goto (tgt := 47) hx hb dX1_split_43 (by decide) ?_
            refine g_calliS (wf := fun u : Int32 => w1 h cA u M) (va_runV (As := [.int 3]) (rest := []) ⟨hx, hb, hml, hown, hts⟩ (c1_refused l D h cA rf M 3 s.heap.size) (cwV 1 hts gX1_split_X1_refused rfl rfl rfl (by decide +kernel) ⟨Nat.le_of_ble_eq_true rfl, Nat.le_of_ble_eq_true rfl⟩) ⟨pW_fb, va_recv hK hP (ci := 1) (q0 := 0) rfl rfl, pW_mk hP hK hD⟩ rfl rfl hl.1 rfl (lv_room (Nat.le_of_ble_eq_true rfl)) dX1_split_47 ⟨Nat.le_of_ble_eq_true rfl, Nat.le_of_ble_eq_true rfl⟩) hP hD hS hA (fun r35 ur35 H locs qr35 hP hD hS => ?_)
            obtain ⟨qr35, eur35⟩ := qr35
            have qr35 : r35 = 1 := qr35
            subst qr35
            have eur35 : ur35 = 3 := eur35
            subst eur35
            refine lv_if_eq (tgt := 55) hx hb dX1_split_50 (by decide) (fun c36 => ?_) (fun c36 => ?_)
            · exact absurd c36 (by decide)
            · refine lv_iconst (v := 0) hx hb dX1_split_53 (by decide) ?_
              subst hQ
              exact W.iret (v := 0) hx hb hr (fun t ht hW => ⟨⟨0, (3, M), rfl, (y_pk 3 (by first | (simp [y_split, hix, z7, c9, pk_us]; done) | (simp only [y_split, hix, z7]; simp [c9, pk_us]; done)) rfl), by rw [ht]; exact hP, hD⟩, hS.F ht⟩) hS.2.2 dX1_split_54
        · exact absurd c8 (by decide)
      · have qr6 : r6 = 0 := by rw [qr6, z7]; rfl
        subst qr6
        refine lv_if_ne (tgt := 33) hx hb dX1_split_26 (by decide) (fun c37 => ?_) (fun c37 => ?_)
        · exact absurd c37 (by decide)
        · refine lv_iconst (v := 2) hx hb dX1_split_29 (by decide) ?_
          refine lv_goto (tgt := 47) hx hb dX1_split_30 (by decide) ?_
          refine g_calliS (wf := fun u : Int32 => w1 h cA u M) (va_runV (As := [.int 2]) (rest := []) ⟨hx, hb, hml, hown, hts⟩ (c1_refused l D h cA rf M 2 s.heap.size) (cwV 1 hts gX1_split_X1_refused rfl rfl rfl (by decide +kernel) ⟨Nat.le_of_ble_eq_true rfl, Nat.le_of_ble_eq_true rfl⟩) ⟨pW_fb, va_recv hK hP (ci := 1) (q0 := 0) rfl rfl, pW_mk hP hK hD⟩ rfl rfl hl.1 rfl (lv_room (Nat.le_of_ble_eq_true rfl)) dX1_split_47 ⟨Nat.le_of_ble_eq_true rfl, Nat.le_of_ble_eq_true rfl⟩) hP hD hS hA (fun r38 ur38 H locs qr38 hP hD hS => ?_)
          obtain ⟨qr38, eur38⟩ := qr38
          have qr38 : r38 = 1 := qr38
          subst qr38
          have eur38 : ur38 = 2 := eur38
          subst eur38
          refine lv_if_eq (tgt := 55) hx hb dX1_split_50 (by decide) (fun c39 => ?_) (fun c39 => ?_)
          · exact absurd c39 (by decide)
          · refine lv_iconst (v := 0) hx hb dX1_split_53 (by decide) ?_
            subst hQ
            exact W.iret (v := 0) hx hb hr (fun t ht hW => ⟨⟨0, (2, M), rfl, (y_pk 2 (by first | (simp [y_split, hix, z7, pk_us]; done) | (simp only [y_split, hix]; simp [z7, pk_us]; done)) rfl), by rw [ht]; exact hP, hD⟩, hS.F ht⟩) hS.2.2 dX1_split_54
    · exact absurd c5 (by decide)
set_option maxHeartbeats 4000000 in
set_option maxRecDepth 100000 in
theorem c1_store (l : Launch) (D : va_G) (h : Nat → Nat) (cA : ClassId) (rf : Int32) (M : MM) (hM : OK1 M) (x g9 : Int32) (sz : Nat) : Met l yX1_store wsX1_store ({ frames := 2, cells := 0, slots := 0, locals := 43 } : Room) (va_Pc [.ref (h 0), .int x, .int g9] (pW D [(cA, .int)] (w1 h cA rf M) sz)) (va_Qi (fun (r : Int32) (u : Int32 × MM) => y_post (y_store M x g9) r u) (fun u => qW D (va_A (w1 h cA rf M) sz) (w1 h cA u.1 u.2)) (va_A (w1 h cA rf M) sz)) 0 0 (va_A (w1 h cA rf M) sz) := by
  refine Met.ofW (cc := cX1_store) (maxL := 3) (ret := (some .int)) (by decide) rfl ?_
  intro p e s m args below meth c s₁ B hml hv
  obtain ⟨rfl, hsz, hP, hK, hD0⟩ := hv
  have hx := B.exec
  have hb := B.bytes
  have hr := B.returns
  have hts := atoms_spec (ws := wsX1_store) B.pre
  have hown : s.vm.findClass RX1 = some m.cls := findClass_of_methodNamed B.named
  have hlocks := B.notSynchronized
  have kw0 := hts (.constant RX1 55 (10000000)) (by decide +kernel)
  have kw1 := hts (.fieldLink RX1 7 "ProgressBillingModel" "values" "[I") (by decide +kernel)
  have kw2 := hts (.fieldLink RX1 13 "ProgressBillingModel" "earned" "[I") (by decide +kernel)
  have kw3 := hts (.fieldLink RX1 16 "ProgressBillingModel" "works" "[I") (by decide +kernel)
  have hin0 : ∀ w ∈ u_ws RX1 TX1 14, w ∈ wsX1_store := by decide +kernel
  subst hsz
  have hD := hD0.self (sz := s.heap.size)
  generalize hAe : va_A (w1 h cA rf M) s.heap.size = A at hD ⊢
  have hA : ∀ q : Nat, s.heap.size ≤ q → A q := fun q h => by rw [← hAe]; exact Or.inr h
  have hS : va_S A s.heap s.heap [] := va_S.rf
  have hP : va_P D vwCl (w1 h cA rf M) s.heap := hP
  obtain ⟨hn1, hn4⟩ := id hM
  have hl := lv_entry ([.ref (h 0), .int x, .int g9]) (n := 3) (Nat.le_of_ble_eq_true rfl)
  rw [lg_entry_eq]
  generalize (lg_sl ([.ref (h 0), .int x, .int g9]) ++ List.replicate (3 - (lg_sl ([.ref (h 0), .int x, .int g9])).length) Slot.unset).toArray = ls at hl ⊢
  have hl : lv_has ls 3 [(0, .ref (h 0)), (1, .int x), (2, .int g9)] := hl
  refine w_abs (fun Q hQ => ?_)
  refine lv_aload_n hx hb dX1_store_0 rfl (lv_at hl 0 rfl) ?_
  refine lv_aload_n hx hb dX1_store_1 rfl (lv_at hl 0 rfl) ?_
  refine lv_iload_n hx hb dX1_store_2 rfl (lv_at hl 1 rfl) ?_
  refine vp_callSi (W.runV (As := [.int x]) (rest := [.ref (h 0)]) ⟨hx, hb, hml, hown, hts⟩ (c1_isLine l D h cA rf M hM x) (cwV 1 hts gX1_store_X1_isLine rfl rfl rfl (by decide +kernel) ⟨Nat.le_of_ble_eq_true rfl, Nat.le_of_ble_eq_true rfl⟩) ⟨pR_fb, va_recv hK hP (ci := 1) (q0 := 0) rfl rfl, pR_mk hP hK⟩ rfl rfl hl.1 rfl (lv_room (Nat.le_of_ble_eq_true rfl)) dX1_store_3 ⟨Nat.le_of_ble_eq_true rfl, Nat.le_of_ble_eq_true rfl⟩) (fun r1 qr1 => ?_)
  rcases ixL_c (n := m_ln M) (x := x) (by omega) with hix | ⟨j, hj, ex, hix⟩
  · have qr1 : r1 = 0 := by rw [qr1, hix]; rfl
    subst qr1
    refine lv_if_ne (tgt := 13) hx hb dX1_store_6 (by decide) (fun c2 => ?_) (fun c2 => ?_)
    · exact absurd c2 (by decide)
    · refine lv_iconst (v := 1) hx hb dX1_store_9 (by decide) ?_
      refine lv_goto (tgt := 49) hx hb dX1_store_10 (by decide) ?_
      refine g_calliS (wf := fun u : Int32 => w1 h cA u M) (va_runV (As := [.int 1]) (rest := []) ⟨hx, hb, hml, hown, hts⟩ (c1_refused l D h cA rf M 1 s.heap.size) (cwV 1 hts gX1_store_X1_refused rfl rfl rfl (by decide +kernel) ⟨Nat.le_of_ble_eq_true rfl, Nat.le_of_ble_eq_true rfl⟩) ⟨pW_fb, va_recv hK hP (ci := 1) (q0 := 0) rfl rfl, pW_mk hP hK hD⟩ rfl rfl hl.1 rfl (lv_room (Nat.le_of_ble_eq_true rfl)) dX1_store_49 ⟨Nat.le_of_ble_eq_true rfl, Nat.le_of_ble_eq_true rfl⟩) hP hD hS hA (fun r3 ur3 H locs qr3 hP hD hS => ?_)
      obtain ⟨qr3, eur3⟩ := qr3
      have qr3 : r3 = 1 := qr3
      subst qr3
      have eur3 : ur3 = 1 := eur3
      subst eur3
      refine lv_if_eq (tgt := 57) hx hb dX1_store_52 (by decide) (fun c4 => ?_) (fun c4 => ?_)
      · exact absurd c4 (by decide)
      · refine lv_iconst (v := 0) hx hb dX1_store_55 (by decide) ?_
        subst hQ
        exact W.iret (v := 0) hx hb hr (fun t ht hW => ⟨⟨0, (1, M), rfl, (y_pk 1 (by simp [y_store, hix, pk_us]) rfl), by rw [ht]; exact hP, hD⟩, hS.F ht⟩) hS.2.2 dX1_store_56
  · have qr1 : r1 = 1 := by rw [qr1, hix]; rfl
    subst qr1
    subst ex
    refine lv_if_ne (tgt := 13) hx hb dX1_store_6 (by decide) (fun c5 => ?_) (fun c5 => ?_)
    · refine lv_iload_n hx hb dX1_store_13 rfl (lv_at hl 2 rfl) ?_
      refine lv_iconst (v := 1) hx hb dX1_store_14 (by decide) ?_
      refine lv_ldc hx hb hown kw0 dX1_store_15 ?_
      refine vp_callSi (W.runS (As := [.int g9, .int 1, .int 10000000]) (rest := [.ref (h 0)]) ⟨hx, hb, hml, hown, hts⟩ (c1_in l g9 1 10000000) (va_cwS 3 hts gX1_store_X1_in rfl rfl rfl (by decide +kernel) ⟨Nat.le_of_ble_eq_true rfl, Nat.le_of_ble_eq_true rfl⟩) ⟨nil_fb, nil_mk⟩ rfl rfl hl.1 rfl (lv_room (Nat.le_of_ble_eq_true rfl)) dX1_store_17 ⟨Nat.le_of_ble_eq_true rfl, Nat.le_of_ble_eq_true rfl⟩) (fun r6 qr6 => ?_)
      rcases bl_c (inR g9 1 10000000) with z7 | z7
      · have qr6 : r6 = 1 := by rw [qr6, z7]; rfl
        subst qr6
        refine lv_if_ne (tgt := 27) hx hb dX1_store_20 (by decide) (fun c8 => ?_) (fun c8 => ?_)
        · refine lv_iload_n hx hb dX1_store_27 rfl (lv_at hl 2 rfl) ?_
          refine lv_aload_n hx hb dX1_store_28 rfl (lv_at hl 0 rfl) ?_
          refine va_get (D := D) (ci := 1) (v := .ref (h 1)) (C := RX1) (T := TX1) (N := 14) hx hb hts hin0 hown hK hP 0 rfl rfl 2 (by decide) kw1 (fun _ h9 => h9) rfl dX1_store_29 ?_
          refine lv_iload_n hx hb dX1_store_32 rfl (lv_at hl 1 rfl) ?_
          refine r_ald (f := m_lv M) (j := j) hx hb hK hP 1 0 rfl rfl (by omega) (by omega) dX1_store_33 ?_
          refine lv_aload_n hx hb dX1_store_34 rfl (lv_at hl 0 rfl) ?_
          refine va_get (D := D) (ci := 1) (v := .ref (h 2)) (C := RX1) (T := TX1) (N := 14) hx hb hts hin0 hown hK hP 0 rfl rfl 3 (by decide) kw2 (fun _ h9 => h9) rfl dX1_store_35 ?_
          refine lv_iload_n hx hb dX1_store_38 rfl (lv_at hl 1 rfl) ?_
          refine r_ald (f := m_le M) (j := j) hx hb hK hP 2 0 rfl rfl (by omega) (by omega) dX1_store_39 ?_
          refine lv_isub hx hb dX1_store_40 ?_
          refine lv_icmp_le (tgt := 48) hx hb dX1_store_41 (by decide) (fun c9 => ?_) (fun c9 => ?_)
          · have c9 := Int32.not_lt.mpr c9
            refine lv_iconst (v := 0) hx hb dX1_store_48 (by decide) ?_
            refine g_calliS (wf := fun u : Int32 => w1 h cA u M) (va_runV (As := [.int 0]) (rest := []) ⟨hx, hb, hml, hown, hts⟩ (c1_refused l D h cA rf M 0 s.heap.size) (cwV 1 hts gX1_store_X1_refused rfl rfl rfl (by decide +kernel) ⟨Nat.le_of_ble_eq_true rfl, Nat.le_of_ble_eq_true rfl⟩) ⟨pW_fb, va_recv hK hP (ci := 1) (q0 := 0) rfl rfl, pW_mk hP hK hD⟩ rfl rfl hl.1 rfl (lv_room (Nat.le_of_ble_eq_true rfl)) dX1_store_49 ⟨Nat.le_of_ble_eq_true rfl, Nat.le_of_ble_eq_true rfl⟩) hP hD hS hA (fun r10 ur10 H locs qr10 hP hD hS => ?_)
            obtain ⟨qr10, eur10⟩ := qr10
            have qr10 : r10 = 0 := qr10
            subst qr10
            have eur10 : ur10 = 0 := eur10
            subst eur10
            refine lv_if_eq (tgt := 57) hx hb dX1_store_52 (by decide) (fun c11 => ?_) (fun c11 => ?_)
            · refine lv_aload_n hx hb dX1_store_57 rfl (lv_at hl 0 rfl) ?_
              refine va_get (D := D) (ci := 1) (v := .ref (h 2)) (C := RX1) (T := TX1) (N := 14) hx hb hts hin0 hown hK hP 0 rfl rfl 3 (by decide) kw2 (fun _ h9 => h9) rfl dX1_store_58 ?_
              refine lv_iload_n hx hb dX1_store_61 rfl (lv_at hl 1 rfl) ?_
              refine lv_dup2_11 hx hb dX1_store_62 rfl rfl ?_
              refine r_ald (f := m_le M) (j := j) hx hb hK hP 2 0 rfl rfl (by omega) (by omega) dX1_store_63 ?_
              refine lv_iload_n hx hb dX1_store_64 rfl (lv_at hl 2 rfl) ?_
              refine lv_iadd hx hb dX1_store_65 ?_
              refine r_ast (f := m_le M) (j := j) (v := ((m_le M) j) + g9) hx hb hK hP hD hS 2 0 rfl rfl (by omega) (by omega) dX1_store_66 (fun H locs hP hD hS => ?_)
              obtain ⟨N12, eN12⟩ : ∃ N9 : MM, N9 = s_le M (upd (m_le M) j (((m_le M) j) + g9)) := ⟨_, rfl⟩
              rw [q1_le, ← eN12] at hP hD
              have aN12_lv : m_lv N12 = m_lv M := by rw [eN12]; rfl
              have aN12_le : m_le N12 = upd (m_le M) j (((m_le M) j) + g9) := by rw [eN12]; rfl
              have aN12_lw : m_lw N12 = m_lw M := by rw [eN12]; rfl
              refine lv_aload_n hx hb dX1_store_67 rfl (lv_at hl 0 rfl) ?_
              refine va_get (D := D) (ci := 1) (v := .ref (h 2)) (C := RX1) (T := TX1) (N := 14) hx hb hts hin0 hown hK hP 0 rfl rfl 3 (by decide) kw2 (fun _ h9 => h9) rfl dX1_store_68 ?_
              refine lv_iload_n hx hb dX1_store_71 rfl (lv_at hl 1 rfl) ?_
              refine r_ald (f := m_le N12) (j := j) hx hb hK hP 2 0 rfl rfl (by omega) (by omega) dX1_store_72 ?_
              refine lv_topi (fun y13 ey13 => ?_)
              rw [aN12_le] at ey13
              subst ey13
              refine lv_aload_n hx hb dX1_store_73 rfl (lv_at hl 0 rfl) ?_
              refine va_get (D := D) (ci := 1) (v := .ref (h 3)) (C := RX1) (T := TX1) (N := 14) hx hb hts hin0 hown hK hP 0 rfl rfl 4 (by decide) kw3 (fun _ h9 => h9) rfl dX1_store_74 ?_
              refine lv_iload_n hx hb dX1_store_77 rfl (lv_at hl 1 rfl) ?_
              refine r_ald (f := m_lw N12) (j := j) hx hb hK hP 3 0 rfl rfl (by omega) (by omega) dX1_store_78 ?_
              refine lv_topi (fun y14 ey14 => ?_)
              rw [aN12_lw] at ey14
              subst ey14
              refine lv_isub hx hb dX1_store_79 ?_
              subst hQ
              exact W.iret (v := ((upd (m_le M) j (((m_le M) j) + g9)) j) - ((m_lw M) j)) hx hb hr (fun t ht hW => ⟨⟨((upd (m_le M) j (((m_le M) j) + g9)) j) - ((m_lw M) j), (0, N12), rfl, (by subst eN12; exact (y_pk 0 (by first | (simp [y_store, hix, z7, c9, pk_us]; done) | (simp only [y_store, hix, z7]; simp [c9, pk_us]; done)) rfl)), by rw [ht]; exact hP, hD⟩, hS.F ht⟩) hS.2.2 dX1_store_80
            · exact absurd c11 (by decide)
          · have c9 := Int32.not_le.mp c9
            refine lv_iconst (v := 3) hx hb dX1_store_44 (by decide) ?_
            refine lv_goto (tgt := 49) hx hb dX1_store_45 (by decide) ?_
            refine g_calliS (wf := fun u : Int32 => w1 h cA u M) (va_runV (As := [.int 3]) (rest := []) ⟨hx, hb, hml, hown, hts⟩ (c1_refused l D h cA rf M 3 s.heap.size) (cwV 1 hts gX1_store_X1_refused rfl rfl rfl (by decide +kernel) ⟨Nat.le_of_ble_eq_true rfl, Nat.le_of_ble_eq_true rfl⟩) ⟨pW_fb, va_recv hK hP (ci := 1) (q0 := 0) rfl rfl, pW_mk hP hK hD⟩ rfl rfl hl.1 rfl (lv_room (Nat.le_of_ble_eq_true rfl)) dX1_store_49 ⟨Nat.le_of_ble_eq_true rfl, Nat.le_of_ble_eq_true rfl⟩) hP hD hS hA (fun r15 ur15 H locs qr15 hP hD hS => ?_)
            obtain ⟨qr15, eur15⟩ := qr15
            have qr15 : r15 = 1 := qr15
            subst qr15
            have eur15 : ur15 = 3 := eur15
            subst eur15
            refine lv_if_eq (tgt := 57) hx hb dX1_store_52 (by decide) (fun c16 => ?_) (fun c16 => ?_)
            · exact absurd c16 (by decide)
            · refine lv_iconst (v := 0) hx hb dX1_store_55 (by decide) ?_
              subst hQ
              exact W.iret (v := 0) hx hb hr (fun t ht hW => ⟨⟨0, (3, M), rfl, (y_pk 3 (by first | (simp [y_store, hix, z7, c9, pk_us]; done) | (simp only [y_store, hix, z7]; simp [c9, pk_us]; done)) rfl), by rw [ht]; exact hP, hD⟩, hS.F ht⟩) hS.2.2 dX1_store_56
        · exact absurd c8 (by decide)
      · have qr6 : r6 = 0 := by rw [qr6, z7]; rfl
        subst qr6
        refine lv_if_ne (tgt := 27) hx hb dX1_store_20 (by decide) (fun c17 => ?_) (fun c17 => ?_)
        · exact absurd c17 (by decide)
        · refine lv_iconst (v := 2) hx hb dX1_store_23 (by decide) ?_
          refine lv_goto (tgt := 49) hx hb dX1_store_24 (by decide) ?_
          refine g_calliS (wf := fun u : Int32 => w1 h cA u M) (va_runV (As := [.int 2]) (rest := []) ⟨hx, hb, hml, hown, hts⟩ (c1_refused l D h cA rf M 2 s.heap.size) (cwV 1 hts gX1_store_X1_refused rfl rfl rfl (by decide +kernel) ⟨Nat.le_of_ble_eq_true rfl, Nat.le_of_ble_eq_true rfl⟩) ⟨pW_fb, va_recv hK hP (ci := 1) (q0 := 0) rfl rfl, pW_mk hP hK hD⟩ rfl rfl hl.1 rfl (lv_room (Nat.le_of_ble_eq_true rfl)) dX1_store_49 ⟨Nat.le_of_ble_eq_true rfl, Nat.le_of_ble_eq_true rfl⟩) hP hD hS hA (fun r18 ur18 H locs qr18 hP hD hS => ?_)
          obtain ⟨qr18, eur18⟩ := qr18
          have qr18 : r18 = 1 := qr18
          subst qr18
          have eur18 : ur18 = 2 := eur18
          subst eur18
          refine lv_if_eq (tgt := 57) hx hb dX1_store_52 (by decide) (fun c19 => ?_) (fun c19 => ?_)
          · exact absurd c19 (by decide)
          · refine lv_iconst (v := 0) hx hb dX1_store_55 (by decide) ?_
            subst hQ
            exact W.iret (v := 0) hx hb hr (fun t ht hW => ⟨⟨0, (2, M), rfl, (y_pk 2 (by first | (simp [y_store, hix, z7, pk_us]; done) | (simp only [y_store, hix]; simp [z7, pk_us]; done)) rfl), by rw [ht]; exact hP, hD⟩, hS.F ht⟩) hS.2.2 dX1_store_56
    · exact absurd c5 (by decide)
set_option maxHeartbeats 4000000 in
set_option maxRecDepth 100000 in
theorem c1_place (l : Launch) (D : va_G) (h : Nat → Nat) (cA : ClassId) (rf : Int32) (M : MM) (hM : OK1 M) (x g9 : Int32) (sz : Nat) : Met l yX1_place wsX1_place ({ frames := 2, cells := 0, slots := 0, locals := 43 } : Room) (va_Pc [.ref (h 0), .int x, .int g9] (pW D [(cA, .int)] (w1 h cA rf M) sz)) (va_Qi (fun (r : Int32) (u : Int32 × MM) => y_post (o_place M x g9) r u) (fun u => qW D (va_A (w1 h cA rf M) sz) (w1 h cA u.1 u.2)) (va_A (w1 h cA rf M) sz)) 0 0 (va_A (w1 h cA rf M) sz) := by
  refine Met.ofW (cc := cX1_place) (maxL := 3) (ret := (some .int)) (by decide) rfl ?_
  intro p e s m args below meth c s₁ B hml hv
  obtain ⟨rfl, hsz, hP, hK, hD0⟩ := hv
  have hx := B.exec
  have hb := B.bytes
  have hr := B.returns
  have hts := atoms_spec (ws := wsX1_place) B.pre
  have hown : s.vm.findClass RX1 = some m.cls := findClass_of_methodNamed B.named
  have hlocks := B.notSynchronized
  have kw0 := hts (.constant RX1 55 (10000000)) (by decide +kernel)
  have kw1 := hts (.fieldLink RX1 13 "ProgressBillingModel" "earned" "[I") (by decide +kernel)
  have kw2 := hts (.fieldLink RX1 16 "ProgressBillingModel" "works" "[I") (by decide +kernel)
  have hin0 : ∀ w ∈ u_ws RX1 TX1 14, w ∈ wsX1_place := by decide +kernel
  subst hsz
  have hD := hD0.self (sz := s.heap.size)
  generalize hAe : va_A (w1 h cA rf M) s.heap.size = A at hD ⊢
  have hA : ∀ q : Nat, s.heap.size ≤ q → A q := fun q h => by rw [← hAe]; exact Or.inr h
  have hS : va_S A s.heap s.heap [] := va_S.rf
  have hP : va_P D vwCl (w1 h cA rf M) s.heap := hP
  obtain ⟨hn1, hn4⟩ := id hM
  have hl := lv_entry ([.ref (h 0), .int x, .int g9]) (n := 3) (Nat.le_of_ble_eq_true rfl)
  rw [lg_entry_eq]
  generalize (lg_sl ([.ref (h 0), .int x, .int g9]) ++ List.replicate (3 - (lg_sl ([.ref (h 0), .int x, .int g9])).length) Slot.unset).toArray = ls at hl ⊢
  have hl : lv_has ls 3 [(0, .ref (h 0)), (1, .int x), (2, .int g9)] := hl
  refine w_abs (fun Q hQ => ?_)
  refine lv_aload_n hx hb dX1_place_0 rfl (lv_at hl 0 rfl) ?_
  refine lv_aload_n hx hb dX1_place_1 rfl (lv_at hl 0 rfl) ?_
  refine lv_iload_n hx hb dX1_place_2 rfl (lv_at hl 1 rfl) ?_
  refine vp_callSi (W.runV (As := [.int x]) (rest := [.ref (h 0)]) ⟨hx, hb, hml, hown, hts⟩ (c1_isLine l D h cA rf M hM x) (cwV 1 hts gX1_place_X1_isLine rfl rfl rfl (by decide +kernel) ⟨Nat.le_of_ble_eq_true rfl, Nat.le_of_ble_eq_true rfl⟩) ⟨pR_fb, va_recv hK hP (ci := 1) (q0 := 0) rfl rfl, pR_mk hP hK⟩ rfl rfl hl.1 rfl (lv_room (Nat.le_of_ble_eq_true rfl)) dX1_place_3 ⟨Nat.le_of_ble_eq_true rfl, Nat.le_of_ble_eq_true rfl⟩) (fun r1 qr1 => ?_)
  rcases ixL_c (n := m_ln M) (x := x) (by omega) with hix | ⟨j, hj, ex, hix⟩
  · have qr1 : r1 = 0 := by rw [qr1, hix]; rfl
    subst qr1
    refine lv_if_ne (tgt := 13) hx hb dX1_place_6 (by decide) (fun c2 => ?_) (fun c2 => ?_)
    · exact absurd c2 (by decide)
    · refine lv_iconst (v := 1) hx hb dX1_place_9 (by decide) ?_
      refine lv_goto (tgt := 49) hx hb dX1_place_10 (by decide) ?_
      refine g_calliS (wf := fun u : Int32 => w1 h cA u M) (va_runV (As := [.int 1]) (rest := []) ⟨hx, hb, hml, hown, hts⟩ (c1_refused l D h cA rf M 1 s.heap.size) (cwV 1 hts gX1_place_X1_refused rfl rfl rfl (by decide +kernel) ⟨Nat.le_of_ble_eq_true rfl, Nat.le_of_ble_eq_true rfl⟩) ⟨pW_fb, va_recv hK hP (ci := 1) (q0 := 0) rfl rfl, pW_mk hP hK hD⟩ rfl rfl hl.1 rfl (lv_room (Nat.le_of_ble_eq_true rfl)) dX1_place_49 ⟨Nat.le_of_ble_eq_true rfl, Nat.le_of_ble_eq_true rfl⟩) hP hD hS hA (fun r3 ur3 H locs qr3 hP hD hS => ?_)
      obtain ⟨qr3, eur3⟩ := qr3
      have qr3 : r3 = 1 := qr3
      subst qr3
      have eur3 : ur3 = 1 := eur3
      subst eur3
      refine lv_if_eq (tgt := 57) hx hb dX1_place_52 (by decide) (fun c4 => ?_) (fun c4 => ?_)
      · exact absurd c4 (by decide)
      · refine lv_iconst (v := 0) hx hb dX1_place_55 (by decide) ?_
        subst hQ
        exact W.iret (v := 0) hx hb hr (fun t ht hW => ⟨⟨0, (1, M), rfl, (y_pk 1 (by simp [o_place, hix, pk_us]) rfl), by rw [ht]; exact hP, hD⟩, hS.F ht⟩) hS.2.2 dX1_place_56
  · have qr1 : r1 = 1 := by rw [qr1, hix]; rfl
    subst qr1
    subst ex
    refine lv_if_ne (tgt := 13) hx hb dX1_place_6 (by decide) (fun c5 => ?_) (fun c5 => ?_)
    · refine lv_iload_n hx hb dX1_place_13 rfl (lv_at hl 2 rfl) ?_
      refine lv_iconst (v := 1) hx hb dX1_place_14 (by decide) ?_
      refine lv_ldc hx hb hown kw0 dX1_place_15 ?_
      refine vp_callSi (W.runS (As := [.int g9, .int 1, .int 10000000]) (rest := [.ref (h 0)]) ⟨hx, hb, hml, hown, hts⟩ (c1_in l g9 1 10000000) (va_cwS 3 hts gX1_place_X1_in rfl rfl rfl (by decide +kernel) ⟨Nat.le_of_ble_eq_true rfl, Nat.le_of_ble_eq_true rfl⟩) ⟨nil_fb, nil_mk⟩ rfl rfl hl.1 rfl (lv_room (Nat.le_of_ble_eq_true rfl)) dX1_place_17 ⟨Nat.le_of_ble_eq_true rfl, Nat.le_of_ble_eq_true rfl⟩) (fun r6 qr6 => ?_)
      rcases bl_c (inR g9 1 10000000) with z7 | z7
      · have qr6 : r6 = 1 := by rw [qr6, z7]; rfl
        subst qr6
        refine lv_if_ne (tgt := 27) hx hb dX1_place_20 (by decide) (fun c8 => ?_) (fun c8 => ?_)
        · refine lv_iload_n hx hb dX1_place_27 rfl (lv_at hl 2 rfl) ?_
          refine lv_aload_n hx hb dX1_place_28 rfl (lv_at hl 0 rfl) ?_
          refine va_get (D := D) (ci := 1) (v := .ref (h 2)) (C := RX1) (T := TX1) (N := 14) hx hb hts hin0 hown hK hP 0 rfl rfl 3 (by decide) kw1 (fun _ h9 => h9) rfl dX1_place_29 ?_
          refine lv_iload_n hx hb dX1_place_32 rfl (lv_at hl 1 rfl) ?_
          refine r_ald (f := m_le M) (j := j) hx hb hK hP 2 0 rfl rfl (by omega) (by omega) dX1_place_33 ?_
          refine lv_aload_n hx hb dX1_place_34 rfl (lv_at hl 0 rfl) ?_
          refine va_get (D := D) (ci := 1) (v := .ref (h 3)) (C := RX1) (T := TX1) (N := 14) hx hb hts hin0 hown hK hP 0 rfl rfl 4 (by decide) kw2 (fun _ h9 => h9) rfl dX1_place_35 ?_
          refine lv_iload_n hx hb dX1_place_38 rfl (lv_at hl 1 rfl) ?_
          refine r_ald (f := m_lw M) (j := j) hx hb hK hP 3 0 rfl rfl (by omega) (by omega) dX1_place_39 ?_
          refine lv_isub hx hb dX1_place_40 ?_
          refine lv_icmp_le (tgt := 48) hx hb dX1_place_41 (by decide) (fun c9 => ?_) (fun c9 => ?_)
          · have c9 := Int32.not_lt.mpr c9
            refine lv_iconst (v := 0) hx hb dX1_place_48 (by decide) ?_
            refine g_calliS (wf := fun u : Int32 => w1 h cA u M) (va_runV (As := [.int 0]) (rest := []) ⟨hx, hb, hml, hown, hts⟩ (c1_refused l D h cA rf M 0 s.heap.size) (cwV 1 hts gX1_place_X1_refused rfl rfl rfl (by decide +kernel) ⟨Nat.le_of_ble_eq_true rfl, Nat.le_of_ble_eq_true rfl⟩) ⟨pW_fb, va_recv hK hP (ci := 1) (q0 := 0) rfl rfl, pW_mk hP hK hD⟩ rfl rfl hl.1 rfl (lv_room (Nat.le_of_ble_eq_true rfl)) dX1_place_49 ⟨Nat.le_of_ble_eq_true rfl, Nat.le_of_ble_eq_true rfl⟩) hP hD hS hA (fun r10 ur10 H locs qr10 hP hD hS => ?_)
            obtain ⟨qr10, eur10⟩ := qr10
            have qr10 : r10 = 0 := qr10
            subst qr10
            have eur10 : ur10 = 0 := eur10
            subst eur10
            refine lv_if_eq (tgt := 57) hx hb dX1_place_52 (by decide) (fun c11 => ?_) (fun c11 => ?_)
            · refine lv_aload_n hx hb dX1_place_57 rfl (lv_at hl 0 rfl) ?_
              refine va_get (D := D) (ci := 1) (v := .ref (h 3)) (C := RX1) (T := TX1) (N := 14) hx hb hts hin0 hown hK hP 0 rfl rfl 4 (by decide) kw2 (fun _ h9 => h9) rfl dX1_place_58 ?_
              refine lv_iload_n hx hb dX1_place_61 rfl (lv_at hl 1 rfl) ?_
              refine lv_dup2_11 hx hb dX1_place_62 rfl rfl ?_
              refine r_ald (f := m_lw M) (j := j) hx hb hK hP 3 0 rfl rfl (by omega) (by omega) dX1_place_63 ?_
              refine lv_iload_n hx hb dX1_place_64 rfl (lv_at hl 2 rfl) ?_
              refine lv_iadd hx hb dX1_place_65 ?_
              refine r_ast (f := m_lw M) (j := j) (v := ((m_lw M) j) + g9) hx hb hK hP hD hS 3 0 rfl rfl (by omega) (by omega) dX1_place_66 (fun H locs hP hD hS => ?_)
              obtain ⟨N12, eN12⟩ : ∃ N9 : MM, N9 = s_lw M (upd (m_lw M) j (((m_lw M) j) + g9)) := ⟨_, rfl⟩
              rw [q1_lw, ← eN12] at hP hD
              have aN12_le : m_le N12 = m_le M := by rw [eN12]; rfl
              have aN12_lw : m_lw N12 = upd (m_lw M) j (((m_lw M) j) + g9) := by rw [eN12]; rfl
              refine lv_aload_n hx hb dX1_place_67 rfl (lv_at hl 0 rfl) ?_
              refine va_get (D := D) (ci := 1) (v := .ref (h 3)) (C := RX1) (T := TX1) (N := 14) hx hb hts hin0 hown hK hP 0 rfl rfl 4 (by decide) kw2 (fun _ h9 => h9) rfl dX1_place_68 ?_
              refine lv_iload_n hx hb dX1_place_71 rfl (lv_at hl 1 rfl) ?_
              refine r_ald (f := m_lw N12) (j := j) hx hb hK hP 3 0 rfl rfl (by omega) (by omega) dX1_place_72 ?_
              refine lv_topi (fun y13 ey13 => ?_)
              rw [aN12_lw] at ey13
              subst ey13
              subst hQ
              exact W.iret (v := (upd (m_lw M) j (((m_lw M) j) + g9)) j) hx hb hr (fun t ht hW => ⟨⟨(upd (m_lw M) j (((m_lw M) j) + g9)) j, (0, N12), rfl, (by subst eN12; exact (y_pk 0 (by first | (simp [o_place, hix, z7, c9, pk_us]; done) | (simp only [o_place, hix, z7]; simp [c9, pk_us]; done)) rfl)), by rw [ht]; exact hP, hD⟩, hS.F ht⟩) hS.2.2 dX1_place_73
            · exact absurd c11 (by decide)
          · have c9 := Int32.not_le.mp c9
            refine lv_iconst (v := 3) hx hb dX1_place_44 (by decide) ?_
            refine lv_goto (tgt := 49) hx hb dX1_place_45 (by decide) ?_
            refine g_calliS (wf := fun u : Int32 => w1 h cA u M) (va_runV (As := [.int 3]) (rest := []) ⟨hx, hb, hml, hown, hts⟩ (c1_refused l D h cA rf M 3 s.heap.size) (cwV 1 hts gX1_place_X1_refused rfl rfl rfl (by decide +kernel) ⟨Nat.le_of_ble_eq_true rfl, Nat.le_of_ble_eq_true rfl⟩) ⟨pW_fb, va_recv hK hP (ci := 1) (q0 := 0) rfl rfl, pW_mk hP hK hD⟩ rfl rfl hl.1 rfl (lv_room (Nat.le_of_ble_eq_true rfl)) dX1_place_49 ⟨Nat.le_of_ble_eq_true rfl, Nat.le_of_ble_eq_true rfl⟩) hP hD hS hA (fun r14 ur14 H locs qr14 hP hD hS => ?_)
            obtain ⟨qr14, eur14⟩ := qr14
            have qr14 : r14 = 1 := qr14
            subst qr14
            have eur14 : ur14 = 3 := eur14
            subst eur14
            refine lv_if_eq (tgt := 57) hx hb dX1_place_52 (by decide) (fun c15 => ?_) (fun c15 => ?_)
            · exact absurd c15 (by decide)
            · refine lv_iconst (v := 0) hx hb dX1_place_55 (by decide) ?_
              subst hQ
              exact W.iret (v := 0) hx hb hr (fun t ht hW => ⟨⟨0, (3, M), rfl, (y_pk 3 (by first | (simp [o_place, hix, z7, c9, pk_us]; done) | (simp only [o_place, hix, z7]; simp [c9, pk_us]; done)) rfl), by rw [ht]; exact hP, hD⟩, hS.F ht⟩) hS.2.2 dX1_place_56
        · exact absurd c8 (by decide)
      · have qr6 : r6 = 0 := by rw [qr6, z7]; rfl
        subst qr6
        refine lv_if_ne (tgt := 27) hx hb dX1_place_20 (by decide) (fun c16 => ?_) (fun c16 => ?_)
        · exact absurd c16 (by decide)
        · refine lv_iconst (v := 2) hx hb dX1_place_23 (by decide) ?_
          refine lv_goto (tgt := 49) hx hb dX1_place_24 (by decide) ?_
          refine g_calliS (wf := fun u : Int32 => w1 h cA u M) (va_runV (As := [.int 2]) (rest := []) ⟨hx, hb, hml, hown, hts⟩ (c1_refused l D h cA rf M 2 s.heap.size) (cwV 1 hts gX1_place_X1_refused rfl rfl rfl (by decide +kernel) ⟨Nat.le_of_ble_eq_true rfl, Nat.le_of_ble_eq_true rfl⟩) ⟨pW_fb, va_recv hK hP (ci := 1) (q0 := 0) rfl rfl, pW_mk hP hK hD⟩ rfl rfl hl.1 rfl (lv_room (Nat.le_of_ble_eq_true rfl)) dX1_place_49 ⟨Nat.le_of_ble_eq_true rfl, Nat.le_of_ble_eq_true rfl⟩) hP hD hS hA (fun r17 ur17 H locs qr17 hP hD hS => ?_)
          obtain ⟨qr17, eur17⟩ := qr17
          have qr17 : r17 = 1 := qr17
          subst qr17
          have eur17 : ur17 = 2 := eur17
          subst eur17
          refine lv_if_eq (tgt := 57) hx hb dX1_place_52 (by decide) (fun c18 => ?_) (fun c18 => ?_)
          · exact absurd c18 (by decide)
          · refine lv_iconst (v := 0) hx hb dX1_place_55 (by decide) ?_
            subst hQ
            exact W.iret (v := 0) hx hb hr (fun t ht hW => ⟨⟨0, (2, M), rfl, (y_pk 2 (by first | (simp [o_place, hix, z7, pk_us]; done) | (simp only [o_place, hix]; simp [z7, pk_us]; done)) rfl), by rw [ht]; exact hP, hD⟩, hS.F ht⟩) hS.2.2 dX1_place_56
    · exact absurd c5 (by decide)
