/-! THE CLASS: splits and steps -/
set_option maxHeartbeats 4000000 in
set_option maxRecDepth 100000 in
theorem c0_split (l : Launch) (hlt : l.stackTraces = false) (D : va_G) (h : Nat → Nat) (cA : ClassId) (M : MM) (hM : OKM M) (x p9 : Int32) (sz : Nat) : vx_Met l yX0_split wsX0_split ({ frames := 7, cells := 1, slots := 6, locals := 112 } : Room) (va_Pc [.ref (h 0), .int x, .int p9] (fun U => pW D [(cA, .int)] (w0 h cA M) sz U ∧ x_En U)) (va_Qi (fun (r : Int32) (u : MM) => x_split M x p9 = (0, r, u)) (fun u => qW D (va_A (w0 h cA M) sz) (w0 h cA u)) (va_A (w0 h cA M) sz)) (g_X (fun E : String => (E = E_io ∧ (x_split M x p9).1 = 1) ∨ (E = E_ia ∧ (x_split M x p9).1 = 2) ∨ (E = E_is ∧ (x_split M x p9).1 = 3))) 1 6 (va_A (w0 h cA M) sz) := by
  refine vx_ofW (cc := cX0_split) (maxL := 5) (ret := (some .int)) (by decide) rfl ?_
  intro p e s m args below meth c s₁ B hml htab hv
  obtain ⟨rfl, ⟨hsz, hP, hK, hD0⟩, hE⟩ := hv
  have hx := B.exec
  have hb := B.bytes
  have hr := B.returns
  have hts := atoms_spec (ws := wsX0_split) B.pre
  have hown : s.vm.findClass RX0 = some m.cls := findClass_of_methodNamed B.named
  have hlocks := B.notSynchronized
  have kw0 := hts (.fieldLink RX0 9 "ProgressBilling" "lineValue" "[I") (by decide +kernel)
  have kw1 := hts (.fieldLink RX0 55 "ProgressBilling" "lineCount" "I") (by decide +kernel)
  have kw2 := hts (.fieldLink RX0 13 "ProgressBilling" "lineEarned" "[I") (by decide +kernel)
  have kw3 := hts (.fieldLink RX0 16 "ProgressBilling" "lineWork" "[I") (by decide +kernel)
  have kw4 := hts (.fieldLink RX0 19 "ProgressBilling" "lineBilled" "[I") (by decide +kernel)
  have kw5 := hts (.fieldLink RX0 22 "ProgressBilling" "lineHeld" "[I") (by decide +kernel)
  have hin0 : ∀ w ∈ u_ws RX0 TX0 15, w ∈ wsX0_split := by decide +kernel
  subst hsz
  have hD := hD0.self (sz := s.heap.size)
  generalize hAe : va_A (w0 h cA M) s.heap.size = A at hD ⊢
  have hA : ∀ q : Nat, s.heap.size ≤ q → A q := fun q h => by rw [← hAe]; exact Or.inr h
  have hS : va_S A s.heap s.heap [] := va_S.rf
  have hP : va_P D vwCl (w0 h cA M) s.heap := hP
  obtain ⟨hn1, hn2, hn3, hn4⟩ := id hM
  have hl := lv_entry ([.ref (h 0), .int x, .int p9]) (n := 5) (Nat.le_of_ble_eq_true rfl)
  rw [lg_entry_eq]
  generalize (lg_sl ([.ref (h 0), .int x, .int p9]) ++ List.replicate (5 - (lg_sl ([.ref (h 0), .int x, .int p9])).length) Slot.unset).toArray = ls at hl ⊢
  have hl : lv_has ls 5 [(0, .ref (h 0)), (1, .int x), (2, .int p9)] := hl
  refine w_abs (fun Q hQ => ?_)
  refine lv_aload_n hx hb dX0_split_0 rfl (lv_at hl 0 rfl) ?_
  refine lv_iload_n hx hb dX0_split_1 rfl (lv_at hl 1 rfl) ?_
  refine g_callv (vx_runV (As := [.int x]) (rest := []) ⟨hx, hb, hml, hown, hts⟩ (c0_requireLine l hlt D h cA M hM x) (cwV 1 hts gX0_split_X0_requireLine rfl rfl rfl (by decide +kernel) ⟨Nat.le_of_ble_eq_true rfl, Nat.le_of_ble_eq_true rfl⟩) ⟨pE_fb pR_fb, va_recv hK hP (ci := 0) (q0 := 0) rfl rfl, pE_mk rfl (pR_mk hP hK) hE⟩ rfl rfl hl.1 rfl (lv_room (Nat.le_of_ble_eq_true rfl)) dX0_split_2 ⟨Nat.le_of_ble_eq_true rfl, Nat.le_of_ble_eq_true rfl⟩) (fun E ce q9 H1 hpx g1 g2 hce hcv hcl => ?_) (fun q1 => ?_)
  · subst hQ
    exact r_out htab hlocks g1 g2 hce hcv hcl (Or.inl (⟨hpx.1, by first | (simp only [x_split]; simp [hpx.2]; done) | (simp [x_split, hpx.2]; done)⟩)) (by decide) (by decide)
  · obtain ⟨j, hj, q1, hix⟩ := q1
    subst q1
    refine lv_aload_n hx hb dX0_split_5 rfl (lv_at hl 0 rfl) ?_
    refine va_get (D := D) (ci := 0) (v := .ref (h 1)) (C := RX0) (T := TX0) (N := 15) hx hb hts hin0 hown hK hP 0 rfl rfl 0 (by decide) kw0 (fun _ h9 => h9) rfl dX0_split_6 ?_
    refine lv_iload_n hx hb dX0_split_9 rfl (lv_at hl 1 rfl) ?_
    refine r_ald (f := m_lv M) (j := j) hx hb hK hP 1 0 rfl rfl (by omega) (by omega) dX0_split_10 ?_
    refine lv_istore_n (lv' := [(3, .int ((m_lv M) j)), (0, .ref (h 0)), (1, .int (nI j)), (2, .int p9)]) hx hb dX0_split_11 rfl hl (by decide) rfl (fun ls hl => ?_)
    refine lv_iload_n hx hb dX0_split_12 rfl (lv_at hl 3 rfl) ?_
    refine lv_iconst (v := 1) hx hb dX0_split_13 (by decide) ?_
    refine lv_iload_n hx hb dX0_split_14 rfl (lv_at hl 0 rfl) ?_
    refine lv_iconst (v := 1) hx hb dX0_split_15 (by decide) ?_
    refine lv_isub hx hb dX0_split_16 ?_
    refine g_callv (vx_runS (As := [.int p9, .int 1, .int (((m_lv M) j) - 1)]) (rest := []) ⟨hx, hb, hml, hown, hts⟩ (c0_requireBetween l hlt p9 1 (((m_lv M) j) - 1)) (va_cwS 3 hts gX0_split_X0_requireBetween rfl rfl rfl (by decide +kernel) ⟨Nat.le_of_ble_eq_true rfl, Nat.le_of_ble_eq_true rfl⟩) ⟨pE_fb nil_fb, pE_mk rfl nil_mk hE⟩ rfl rfl hl.1 rfl (lv_room (Nat.le_of_ble_eq_true rfl)) dX0_split_17 ⟨Nat.le_of_ble_eq_true rfl, Nat.le_of_ble_eq_true rfl⟩) (fun E ce q9 H1 hpx g1 g2 hce hcv hcl => ?_) (fun q2 => ?_)
    · subst hQ
      exact r_out htab hlocks g1 g2 hce hcv hcl (Or.inr (Or.inl (⟨hpx.1, by first | (simp only [x_split, hix]; simp [hpx.2]; done) | (simp [x_split, hix, hpx.2]; done)⟩))) (by decide) (by decide)
    · have q2 : inR p9 1 (((m_lv M) j) - 1) = true := q2
      refine lv_aload_n hx hb dX0_split_20 rfl (lv_at hl 1 rfl) ?_
      refine g_callv (vx_runV (As := []) (rest := []) ⟨hx, hb, hml, hown, hts⟩ (c0_requireRoomForLine l hlt D h cA M hM) (cwV 0 hts gX0_split_X0_requireRoomForLine rfl rfl rfl (by decide +kernel) ⟨Nat.le_of_ble_eq_true rfl, Nat.le_of_ble_eq_true rfl⟩) ⟨pE_fb pR_fb, va_recv hK hP (ci := 0) (q0 := 0) rfl rfl, pE_mk rfl (pR_mk hP hK) hE⟩ rfl rfl hl.1 rfl (lv_room (Nat.le_of_ble_eq_true rfl)) dX0_split_21 ⟨Nat.le_of_ble_eq_true rfl, Nat.le_of_ble_eq_true rfl⟩) (fun E ce q9 H1 hpx g1 g2 hce hcv hcl => ?_) (fun q3 => ?_)
      · subst hQ
        exact r_out htab hlocks g1 g2 hce hcv hcl (Or.inr (Or.inr (⟨hpx.1, by first | (simp only [x_split, hix, q2]; simp [hpx.2]; done) | (simp [x_split, hix, q2, hpx.2]; done)⟩))) (by decide) (by decide)
      · have q3 : ¬ m_ln M = 16 := q3
        refine lv_aload_n hx hb dX0_split_24 rfl (lv_at hl 1 rfl) ?_
        refine va_get (D := D) (ci := 0) (v := .int (nI (m_ln M))) (C := RX0) (T := TX0) (N := 15) hx hb hts hin0 hown hK hP 0 rfl rfl 5 (by decide) kw1 (fun _ h9 => h9) rfl dX0_split_25 ?_
        refine lv_istore (lv' := [(4, .int (nI (m_ln M))), (3, .int ((m_lv M) j)), (0, .ref (h 0)), (1, .int (nI j)), (2, .int p9)]) hx hb dX0_split_28 hl (by decide) rfl (fun ls hl => ?_)
        refine lv_aload_n hx hb dX0_split_30 rfl (lv_at hl 2 rfl) ?_
        refine va_get (D := D) (ci := 0) (v := .ref (h 2)) (C := RX0) (T := TX0) (N := 15) hx hb hts hin0 hown hK hP 0 rfl rfl 1 (by decide) kw2 (fun _ h9 => h9) rfl dX0_split_31 ?_
        refine lv_iload_n hx hb dX0_split_34 rfl (lv_at hl 3 rfl) ?_
        refine lv_iload hx hb dX0_split_35 (lv_at hl 0 rfl) ?_
        refine lv_iload_n hx hb dX0_split_37 rfl (lv_at hl 4 rfl) ?_
        refine lv_iload_n hx hb dX0_split_38 rfl (lv_at hl 1 rfl) ?_
        refine g_callvW (wf := fun u : FF => [(h 2, .inl (cA, 16, .inl u))]) (wl := List.take 2 (w0 h cA M)) (wc := [(h 2, .inl (cA, 16, .inl (m_le M)))]) (wr := List.drop 3 (w0 h cA M)) (va_runS (As := [.ref (h 2), .int (nI j), .int (nI (m_ln M)), .int p9, .int ((m_lv M) j)]) (rest := []) ⟨hx, hb, hml, hown, hts⟩ (c0_moveShare l D cA (h 2) s.heap.size (m_le M) j (m_ln M) p9 ((m_lv M) j) (by omega) (by omega)) (va_cwS 5 hts gX0_split_X0_moveShare rfl rfl rfl (by decide +kernel) ⟨Nat.le_of_ble_eq_true rfl, Nat.le_of_ble_eq_true rfl⟩) ⟨pW_fb, pW_mk (hP.sub (ws' := [(h 2, .inl (cA, 16, .inl (m_le M)))]) [2] rfl) hK (hD.sub (ws' := [(h 2, .inl (cA, 16, .inl (m_le M)))]) [2] (by decide) rfl)⟩ rfl rfl hl.1 rfl (lv_room (Nat.le_of_ble_eq_true rfl)) dX0_split_39 ⟨Nat.le_of_ble_eq_true rfl, Nat.le_of_ble_eq_true rfl⟩) rfl hP hD hS hA (fun u H locs q4 hP hD hS => ?_)
        have q4 : u = x_mv (m_le M) j (m_ln M) p9 ((m_lv M) j) := q4
        subst q4
        have hP : va_P D vwCl (w0 h cA (s_le M (x_mv (m_le M) j (m_ln M) p9 ((m_lv M) j)))) H := hP
        have hD : va_D A (w0 h cA (s_le M (x_mv (m_le M) j (m_ln M) p9 ((m_lv M) j)))) := hD
        refine lv_aload_n hx hb dX0_split_42 rfl (lv_at hl 2 rfl) ?_
        refine va_get (D := D) (ci := 0) (v := .ref (h 3)) (C := RX0) (T := TX0) (N := 15) hx hb hts hin0 hown hK hP 0 rfl rfl 2 (by decide) kw3 (fun _ h9 => h9) rfl dX0_split_43 ?_
        refine lv_iload_n hx hb dX0_split_46 rfl (lv_at hl 3 rfl) ?_
        refine lv_iload hx hb dX0_split_47 (lv_at hl 0 rfl) ?_
        refine lv_iload_n hx hb dX0_split_49 rfl (lv_at hl 4 rfl) ?_
        refine lv_iload_n hx hb dX0_split_50 rfl (lv_at hl 1 rfl) ?_
        refine g_callvW (wf := fun u : FF => [(h 3, .inl (cA, 16, .inl u))]) (wl := List.take 3 (w0 h cA (s_le M (x_mv (m_le M) j (m_ln M) p9 ((m_lv M) j))))) (wc := [(h 3, .inl (cA, 16, .inl (m_lw M)))]) (wr := List.drop 4 (w0 h cA (s_le M (x_mv (m_le M) j (m_ln M) p9 ((m_lv M) j))))) (va_runS (As := [.ref (h 3), .int (nI j), .int (nI (m_ln M)), .int p9, .int ((m_lv M) j)]) (rest := []) ⟨hx, hb, hml, hown, hts⟩ (c0_moveShare l D cA (h 3) H.size (m_lw M) j (m_ln M) p9 ((m_lv M) j) (by omega) (by omega)) (va_cwS 5 hts gX0_split_X0_moveShare rfl rfl rfl (by decide +kernel) ⟨Nat.le_of_ble_eq_true rfl, Nat.le_of_ble_eq_true rfl⟩) ⟨pW_fb, pW_mk (hP.sub (ws' := [(h 3, .inl (cA, 16, .inl (m_lw M)))]) [3] rfl) hK (hD.sub (ws' := [(h 3, .inl (cA, 16, .inl (m_lw M)))]) [3] (by decide) rfl)⟩ rfl rfl hl.1 rfl (lv_room (Nat.le_of_ble_eq_true rfl)) dX0_split_51 ⟨Nat.le_of_ble_eq_true rfl, Nat.le_of_ble_eq_true rfl⟩) rfl hP hD hS hA (fun u H locs q5 hP hD hS => ?_)
        have q5 : u = x_mv (m_lw M) j (m_ln M) p9 ((m_lv M) j) := q5
        subst q5
        have hP : va_P D vwCl (w0 h cA (s_lw (s_le M (x_mv (m_le M) j (m_ln M) p9 ((m_lv M) j))) (x_mv (m_lw M) j (m_ln M) p9 ((m_lv M) j)))) H := hP
        have hD : va_D A (w0 h cA (s_lw (s_le M (x_mv (m_le M) j (m_ln M) p9 ((m_lv M) j))) (x_mv (m_lw M) j (m_ln M) p9 ((m_lv M) j)))) := hD
        refine lv_aload_n hx hb dX0_split_54 rfl (lv_at hl 2 rfl) ?_
        refine va_get (D := D) (ci := 0) (v := .ref (h 4)) (C := RX0) (T := TX0) (N := 15) hx hb hts hin0 hown hK hP 0 rfl rfl 3 (by decide) kw4 (fun _ h9 => h9) rfl dX0_split_55 ?_
        refine lv_iload_n hx hb dX0_split_58 rfl (lv_at hl 3 rfl) ?_
        refine lv_iload hx hb dX0_split_59 (lv_at hl 0 rfl) ?_
        refine lv_iload_n hx hb dX0_split_61 rfl (lv_at hl 4 rfl) ?_
        refine lv_iload_n hx hb dX0_split_62 rfl (lv_at hl 1 rfl) ?_
        refine g_callvW (wf := fun u : FF => [(h 4, .inl (cA, 16, .inl u))]) (wl := List.take 4 (w0 h cA (s_lw (s_le M (x_mv (m_le M) j (m_ln M) p9 ((m_lv M) j))) (x_mv (m_lw M) j (m_ln M) p9 ((m_lv M) j))))) (wc := [(h 4, .inl (cA, 16, .inl (m_lb M)))]) (wr := List.drop 5 (w0 h cA (s_lw (s_le M (x_mv (m_le M) j (m_ln M) p9 ((m_lv M) j))) (x_mv (m_lw M) j (m_ln M) p9 ((m_lv M) j))))) (va_runS (As := [.ref (h 4), .int (nI j), .int (nI (m_ln M)), .int p9, .int ((m_lv M) j)]) (rest := []) ⟨hx, hb, hml, hown, hts⟩ (c0_moveShare l D cA (h 4) H.size (m_lb M) j (m_ln M) p9 ((m_lv M) j) (by omega) (by omega)) (va_cwS 5 hts gX0_split_X0_moveShare rfl rfl rfl (by decide +kernel) ⟨Nat.le_of_ble_eq_true rfl, Nat.le_of_ble_eq_true rfl⟩) ⟨pW_fb, pW_mk (hP.sub (ws' := [(h 4, .inl (cA, 16, .inl (m_lb M)))]) [4] rfl) hK (hD.sub (ws' := [(h 4, .inl (cA, 16, .inl (m_lb M)))]) [4] (by decide) rfl)⟩ rfl rfl hl.1 rfl (lv_room (Nat.le_of_ble_eq_true rfl)) dX0_split_63 ⟨Nat.le_of_ble_eq_true rfl, Nat.le_of_ble_eq_true rfl⟩) rfl hP hD hS hA (fun u H locs q6 hP hD hS => ?_)
        have q6 : u = x_mv (m_lb M) j (m_ln M) p9 ((m_lv M) j) := q6
        subst q6
        have hP : va_P D vwCl (w0 h cA (s_lb (s_lw (s_le M (x_mv (m_le M) j (m_ln M) p9 ((m_lv M) j))) (x_mv (m_lw M) j (m_ln M) p9 ((m_lv M) j))) (x_mv (m_lb M) j (m_ln M) p9 ((m_lv M) j)))) H := hP
        have hD : va_D A (w0 h cA (s_lb (s_lw (s_le M (x_mv (m_le M) j (m_ln M) p9 ((m_lv M) j))) (x_mv (m_lw M) j (m_ln M) p9 ((m_lv M) j))) (x_mv (m_lb M) j (m_ln M) p9 ((m_lv M) j)))) := hD
        refine lv_aload_n hx hb dX0_split_66 rfl (lv_at hl 2 rfl) ?_
        refine va_get (D := D) (ci := 0) (v := .ref (h 5)) (C := RX0) (T := TX0) (N := 15) hx hb hts hin0 hown hK hP 0 rfl rfl 4 (by decide) kw5 (fun _ h9 => h9) rfl dX0_split_67 ?_
        refine lv_iload_n hx hb dX0_split_70 rfl (lv_at hl 3 rfl) ?_
        refine lv_iload hx hb dX0_split_71 (lv_at hl 0 rfl) ?_
        refine lv_iload_n hx hb dX0_split_73 rfl (lv_at hl 4 rfl) ?_
        refine lv_iload_n hx hb dX0_split_74 rfl (lv_at hl 1 rfl) ?_
        refine g_callvW (wf := fun u : FF => [(h 5, .inl (cA, 16, .inl u))]) (wl := List.take 5 (w0 h cA (s_lb (s_lw (s_le M (x_mv (m_le M) j (m_ln M) p9 ((m_lv M) j))) (x_mv (m_lw M) j (m_ln M) p9 ((m_lv M) j))) (x_mv (m_lb M) j (m_ln M) p9 ((m_lv M) j))))) (wc := [(h 5, .inl (cA, 16, .inl (m_lh M)))]) (wr := List.drop 6 (w0 h cA (s_lb (s_lw (s_le M (x_mv (m_le M) j (m_ln M) p9 ((m_lv M) j))) (x_mv (m_lw M) j (m_ln M) p9 ((m_lv M) j))) (x_mv (m_lb M) j (m_ln M) p9 ((m_lv M) j))))) (va_runS (As := [.ref (h 5), .int (nI j), .int (nI (m_ln M)), .int p9, .int ((m_lv M) j)]) (rest := []) ⟨hx, hb, hml, hown, hts⟩ (c0_moveShare l D cA (h 5) H.size (m_lh M) j (m_ln M) p9 ((m_lv M) j) (by omega) (by omega)) (va_cwS 5 hts gX0_split_X0_moveShare rfl rfl rfl (by decide +kernel) ⟨Nat.le_of_ble_eq_true rfl, Nat.le_of_ble_eq_true rfl⟩) ⟨pW_fb, pW_mk (hP.sub (ws' := [(h 5, .inl (cA, 16, .inl (m_lh M)))]) [5] rfl) hK (hD.sub (ws' := [(h 5, .inl (cA, 16, .inl (m_lh M)))]) [5] (by decide) rfl)⟩ rfl rfl hl.1 rfl (lv_room (Nat.le_of_ble_eq_true rfl)) dX0_split_75 ⟨Nat.le_of_ble_eq_true rfl, Nat.le_of_ble_eq_true rfl⟩) rfl hP hD hS hA (fun u H locs q7 hP hD hS => ?_)
        have q7 : u = x_mv (m_lh M) j (m_ln M) p9 ((m_lv M) j) := q7
        subst q7
        have hP : va_P D vwCl (w0 h cA (s_lh (s_lb (s_lw (s_le M (x_mv (m_le M) j (m_ln M) p9 ((m_lv M) j))) (x_mv (m_lw M) j (m_ln M) p9 ((m_lv M) j))) (x_mv (m_lb M) j (m_ln M) p9 ((m_lv M) j))) (x_mv (m_lh M) j (m_ln M) p9 ((m_lv M) j)))) H := hP
        have hD : va_D A (w0 h cA (s_lh (s_lb (s_lw (s_le M (x_mv (m_le M) j (m_ln M) p9 ((m_lv M) j))) (x_mv (m_lw M) j (m_ln M) p9 ((m_lv M) j))) (x_mv (m_lb M) j (m_ln M) p9 ((m_lv M) j))) (x_mv (m_lh M) j (m_ln M) p9 ((m_lv M) j)))) := hD
        refine lv_aload_n hx hb dX0_split_78 rfl (lv_at hl 2 rfl) ?_
        refine va_get (D := D) (ci := 0) (v := .ref (h 1)) (C := RX0) (T := TX0) (N := 15) hx hb hts hin0 hown hK hP 0 rfl rfl 0 (by decide) kw0 (fun _ h9 => h9) rfl dX0_split_79 ?_
        refine lv_iload hx hb dX0_split_82 (lv_at hl 0 rfl) ?_
        refine lv_iload_n hx hb dX0_split_84 rfl (lv_at hl 4 rfl) ?_
        refine r_ast (f := m_lv M) (j := (m_ln M)) (v := p9) hx hb hK hP hD hS 1 0 rfl rfl (by omega) (by omega) dX0_split_85 (fun H locs hP hD hS => ?_)
        have hP : va_P D vwCl (w0 h cA (s_lv (s_lh (s_lb (s_lw (s_le M (x_mv (m_le M) j (m_ln M) p9 ((m_lv M) j))) (x_mv (m_lw M) j (m_ln M) p9 ((m_lv M) j))) (x_mv (m_lb M) j (m_ln M) p9 ((m_lv M) j))) (x_mv (m_lh M) j (m_ln M) p9 ((m_lv M) j))) (upd (m_lv M) (m_ln M) p9))) H := hP
        have hD : va_D A (w0 h cA (s_lv (s_lh (s_lb (s_lw (s_le M (x_mv (m_le M) j (m_ln M) p9 ((m_lv M) j))) (x_mv (m_lw M) j (m_ln M) p9 ((m_lv M) j))) (x_mv (m_lb M) j (m_ln M) p9 ((m_lv M) j))) (x_mv (m_lh M) j (m_ln M) p9 ((m_lv M) j))) (upd (m_lv M) (m_ln M) p9))) := hD
        refine lv_aload_n hx hb dX0_split_86 rfl (lv_at hl 2 rfl) ?_
        refine va_get (D := D) (ci := 0) (v := .ref (h 1)) (C := RX0) (T := TX0) (N := 15) hx hb hts hin0 hown hK hP 0 rfl rfl 0 (by decide) kw0 (fun _ h9 => h9) rfl dX0_split_87 ?_
        refine lv_iload_n hx hb dX0_split_90 rfl (lv_at hl 3 rfl) ?_
        refine lv_iload_n hx hb dX0_split_91 rfl (lv_at hl 1 rfl) ?_
        refine lv_iload_n hx hb dX0_split_92 rfl (lv_at hl 4 rfl) ?_
        refine lv_isub hx hb dX0_split_93 ?_
        refine r_ast (f := upd (m_lv M) (m_ln M) p9) (j := j) (v := ((m_lv M) j) - p9) hx hb hK hP hD hS 1 0 rfl rfl (by omega) (by omega) dX0_split_94 (fun H locs hP hD hS => ?_)
        have hP : va_P D vwCl (w0 h cA (s_lv (s_lv (s_lh (s_lb (s_lw (s_le M (x_mv (m_le M) j (m_ln M) p9 ((m_lv M) j))) (x_mv (m_lw M) j (m_ln M) p9 ((m_lv M) j))) (x_mv (m_lb M) j (m_ln M) p9 ((m_lv M) j))) (x_mv (m_lh M) j (m_ln M) p9 ((m_lv M) j))) (upd (m_lv M) (m_ln M) p9)) (upd (upd (m_lv M) (m_ln M) p9) j (((m_lv M) j) - p9)))) H := hP
        have hD : va_D A (w0 h cA (s_lv (s_lv (s_lh (s_lb (s_lw (s_le M (x_mv (m_le M) j (m_ln M) p9 ((m_lv M) j))) (x_mv (m_lw M) j (m_ln M) p9 ((m_lv M) j))) (x_mv (m_lb M) j (m_ln M) p9 ((m_lv M) j))) (x_mv (m_lh M) j (m_ln M) p9 ((m_lv M) j))) (upd (m_lv M) (m_ln M) p9)) (upd (upd (m_lv M) (m_ln M) p9) j (((m_lv M) j) - p9)))) := hD
        refine lv_aload_n hx hb dX0_split_95 rfl (lv_at hl 2 rfl) ?_
        refine lv_iload hx hb dX0_split_96 (lv_at hl 0 rfl) ?_
        refine lv_iconst (v := 1) hx hb dX0_split_98 (by decide) ?_
        refine lv_iadd hx hb dX0_split_99 ?_
        refine lv_topi (fun y8 ey8 => ?_)
        obtain rfl : y8 = nI ((m_ln M) + 1) := ey8.trans (nI_1 _)
        refine va_put (D := D) (ci := 0) (v := .int (nI ((m_ln M) + 1))) (ty := .int) (C := RX0) (T := TX0) (N := 15) hx hb hts hin0 tyX0 tyX0_ok nmX0 hown hK hP hD hS 0 rfl rfl 5 (by decide) kw1 (fun _ h9 => h9) rfl (by decide +kernel) rfl rfl (Nat.le_of_ble_eq_true rfl) dX0_split_100 (fun H locs hP hD hS => ?_)
        have hP : va_P D vwCl (w0 h cA (s_ln (s_lv (s_lv (s_lh (s_lb (s_lw (s_le M (x_mv (m_le M) j (m_ln M) p9 ((m_lv M) j))) (x_mv (m_lw M) j (m_ln M) p9 ((m_lv M) j))) (x_mv (m_lb M) j (m_ln M) p9 ((m_lv M) j))) (x_mv (m_lh M) j (m_ln M) p9 ((m_lv M) j))) (upd (m_lv M) (m_ln M) p9)) (upd (upd (m_lv M) (m_ln M) p9) j (((m_lv M) j) - p9))) ((m_ln M) + 1))) H := hP
        have hD : va_D A (w0 h cA (s_ln (s_lv (s_lv (s_lh (s_lb (s_lw (s_le M (x_mv (m_le M) j (m_ln M) p9 ((m_lv M) j))) (x_mv (m_lw M) j (m_ln M) p9 ((m_lv M) j))) (x_mv (m_lb M) j (m_ln M) p9 ((m_lv M) j))) (x_mv (m_lh M) j (m_ln M) p9 ((m_lv M) j))) (upd (m_lv M) (m_ln M) p9)) (upd (upd (m_lv M) (m_ln M) p9) j (((m_lv M) j) - p9))) ((m_ln M) + 1))) := hD
        refine lv_iload hx hb dX0_split_103 (lv_at hl 0 rfl) ?_
        subst hQ
        refine vx_ret ?_
        refine W.widen (k := 1) (n := 6) (by decide) (by decide) ?_
        exact W.iret (v := nI (m_ln M)) hx hb hr (fun t ht hW => ⟨⟨nI (m_ln M), s_ln (s_lv (s_lv (s_lh (s_lb (s_lw (s_le M (x_mv (m_le M) j (m_ln M) p9 ((m_lv M) j))) (x_mv (m_lw M) j (m_ln M) p9 ((m_lv M) j))) (x_mv (m_lb M) j (m_ln M) p9 ((m_lv M) j))) (x_mv (m_lh M) j (m_ln M) p9 ((m_lv M) j))) (upd (m_lv M) (m_ln M) p9)) (upd (upd (m_lv M) (m_ln M) p9) j (((m_lv M) j) - p9))) ((m_ln M) + 1), rfl, (by rw [x_split_ok hix q2 q3]; rfl), by rw [ht]; exact hP, hD⟩, hS.F ht⟩) hS.2.2 dX0_split_105
set_option maxHeartbeats 4000000 in
set_option maxRecDepth 100000 in
theorem c0_setStep (l : Launch) (hlt : l.stackTraces = false) (D : va_G) (h : Nat → Nat) (cA : ClassId) (M : MM) (hM : OKM M) (t9 r9 : Int32) (sz : Nat) : vx_Met l yX0_setStep wsX0_setStep ({ frames := 7, cells := 1, slots := 6, locals := 112 } : Room) (va_Pc [.ref (h 0), .int t9, .int r9] (fun U => pW D [(cA, .int)] (w0 h cA M) sz U ∧ x_En U)) (va_Qi (fun (r : Int32) (u : MM) => x_setStep M t9 r9 = (0, r, u)) (fun u => qW D (va_A (w0 h cA M) sz) (w0 h cA u)) (va_A (w0 h cA M) sz)) (g_X (fun E : String => (E = E_ia ∧ (x_setStep M t9 r9).1 = 1) ∨ (E = E_is ∧ (x_setStep M t9 r9).1 = 2))) 1 6 (va_A (w0 h cA M) sz) := by
  refine vx_ofW (cc := cX0_setStep) (maxL := 5) (ret := (some .int)) (by decide) rfl ?_
  intro p e s m args below meth c s₁ B hml htab hv
  obtain ⟨rfl, ⟨hsz, hP, hK, hD0⟩, hE⟩ := hv
  have hx := B.exec
  have hb := B.bytes
  have hr := B.returns
  have hts := atoms_spec (ws := wsX0_setStep) B.pre
  have hown : s.vm.findClass RX0 = some m.cls := findClass_of_methodNamed B.named
  have hlocks := B.notSynchronized
  have kw0 := hts (.fieldLink RX0 28 "ProgressBilling" "stepRate" "[I") (by decide +kernel)
  have hin0 : ∀ w ∈ u_ws RX0 TX0 15, w ∈ wsX0_setStep := by decide +kernel
  subst hsz
  have hD := hD0.self (sz := s.heap.size)
  generalize hAe : va_A (w0 h cA M) s.heap.size = A at hD ⊢
  have hA : ∀ q : Nat, s.heap.size ≤ q → A q := fun q h => by rw [← hAe]; exact Or.inr h
  have hS : va_S A s.heap s.heap [] := va_S.rf
  have hP : va_P D vwCl (w0 h cA M) s.heap := hP
  obtain ⟨hn1, hn2, hn3, hn4⟩ := id hM
  have hl := lv_entry ([.ref (h 0), .int t9, .int r9]) (n := 5) (Nat.le_of_ble_eq_true rfl)
  rw [lg_entry_eq]
  generalize (lg_sl ([.ref (h 0), .int t9, .int r9]) ++ List.replicate (5 - (lg_sl ([.ref (h 0), .int t9, .int r9])).length) Slot.unset).toArray = ls at hl ⊢
  have hl : lv_has ls 5 [(0, .ref (h 0)), (1, .int t9), (2, .int r9)] := hl
  refine w_abs (fun Q hQ => ?_)
  refine lv_iload_n hx hb dX0_setStep_0 rfl (lv_at hl 1 rfl) ?_
  refine lv_iconst (v := 0) hx hb dX0_setStep_1 (by decide) ?_
  refine lv_sipush (v := 1000) hx hb dX0_setStep_2 (by decide) ?_
  refine g_callv (vx_runS (As := [.int t9, .int 0, .int 1000]) (rest := []) ⟨hx, hb, hml, hown, hts⟩ (c0_requireBetween l hlt t9 0 1000) (va_cwS 3 hts gX0_setStep_X0_requireBetween rfl rfl rfl (by decide +kernel) ⟨Nat.le_of_ble_eq_true rfl, Nat.le_of_ble_eq_true rfl⟩) ⟨pE_fb nil_fb, pE_mk rfl nil_mk hE⟩ rfl rfl hl.1 rfl (lv_room (Nat.le_of_ble_eq_true rfl)) dX0_setStep_5 ⟨Nat.le_of_ble_eq_true rfl, Nat.le_of_ble_eq_true rfl⟩) (fun E ce q9 H1 hpx g1 g2 hce hcv hcl => ?_) (fun q1 => ?_)
  · subst hQ
    exact r_out htab hlocks g1 g2 hce hcv hcl (Or.inl (⟨hpx.1, by first | (simp only [x_setStep]; simp [hpx.2]; done) | (simp [x_setStep, hpx.2]; done)⟩)) (by decide) (by decide)
  · have q1 : inR t9 0 1000 = true := q1
    refine lv_iload_n hx hb dX0_setStep_8 rfl (lv_at hl 2 rfl) ?_
    refine lv_iconst (v := 0) hx hb dX0_setStep_9 (by decide) ?_
    refine lv_sipush (v := 1000) hx hb dX0_setStep_10 (by decide) ?_
    refine g_callv (vx_runS (As := [.int r9, .int 0, .int 1000]) (rest := []) ⟨hx, hb, hml, hown, hts⟩ (c0_requireBetween l hlt r9 0 1000) (va_cwS 3 hts gX0_setStep_X0_requireBetween rfl rfl rfl (by decide +kernel) ⟨Nat.le_of_ble_eq_true rfl, Nat.le_of_ble_eq_true rfl⟩) ⟨pE_fb nil_fb, pE_mk rfl nil_mk hE⟩ rfl rfl hl.1 rfl (lv_room (Nat.le_of_ble_eq_true rfl)) dX0_setStep_13 ⟨Nat.le_of_ble_eq_true rfl, Nat.le_of_ble_eq_true rfl⟩) (fun E ce q9 H1 hpx g1 g2 hce hcv hcl => ?_) (fun q2 => ?_)
    · subst hQ
      exact r_out htab hlocks g1 g2 hce hcv hcl (Or.inl (⟨hpx.1, by first | (simp only [x_setStep, q1]; simp [hpx.2]; done) | (simp [x_setStep, q1, hpx.2]; done)⟩)) (by decide) (by decide)
    · have q2 : inR r9 0 1000 = true := q2
      refine lv_aload_n hx hb dX0_setStep_16 rfl (lv_at hl 0 rfl) ?_
      refine lv_iload_n hx hb dX0_setStep_17 rfl (lv_at hl 1 rfl) ?_
      refine vp_callSi (W.runV (As := [.int t9]) (rest := []) ⟨hx, hb, hml, hown, hts⟩ (c0_stepWith l D h cA M hM t9) (cwV 1 hts gX0_setStep_X0_stepWith rfl rfl rfl (by decide +kernel) ⟨Nat.le_of_ble_eq_true rfl, Nat.le_of_ble_eq_true rfl⟩) ⟨pR_fb, va_recv hK hP (ci := 0) (q0 := 0) rfl rfl, pR_mk hP hK⟩ rfl rfl hl.1 rfl (lv_room (Nat.le_of_ble_eq_true rfl)) dX0_setStep_18 ⟨Nat.le_of_ble_eq_true rfl, Nat.le_of_ble_eq_true rfl⟩) (fun r3 qr3 => ?_)
      rcases qr3 with ⟨i4, hi4, qr3, fi4, gi4⟩ | ⟨qr3, fi4⟩
      · subst qr3
        refine lv_istore_n (lv' := [(3, .int (nI i4)), (0, .ref (h 0)), (1, .int t9), (2, .int r9)]) hx hb dX0_setStep_21 rfl hl (by decide) rfl (fun ls hl => ?_)
        refine lv_iload_n hx hb dX0_setStep_22 rfl (lv_at hl 0 rfl) ?_
        refine lv_if_ge (tgt := 34) hx hb dX0_setStep_23 (by decide) (fun c5 => ?_) (fun c5 => ?_)
        · have c5 := k_le (a := 0) (b := i4) (by omega) (by omega) c5
          refine lv_aload_n hx hb dX0_setStep_34 rfl (lv_at hl 1 rfl) ?_
          refine va_get (D := D) (ci := 0) (v := .ref (h 7)) (C := RX0) (T := TX0) (N := 15) hx hb hts hin0 hown hK hP 0 rfl rfl 7 (by decide) kw0 (fun _ h9 => h9) rfl dX0_setStep_35 ?_
          refine lv_iload_n hx hb dX0_setStep_38 rfl (lv_at hl 0 rfl) ?_
          refine r_ald (f := m_sr M) (j := i4) hx hb hK hP 7 0 rfl rfl (by omega) (by omega) dX0_setStep_39 ?_
          refine lv_istore (lv' := [(4, .int ((m_sr M) i4)), (3, .int (nI i4)), (0, .ref (h 0)), (1, .int t9), (2, .int r9)]) hx hb dX0_setStep_40 hl (by decide) rfl (fun ls hl => ?_)
          refine lv_aload_n hx hb dX0_setStep_42 rfl (lv_at hl 2 rfl) ?_
          refine va_get (D := D) (ci := 0) (v := .ref (h 7)) (C := RX0) (T := TX0) (N := 15) hx hb hts hin0 hown hK hP 0 rfl rfl 7 (by decide) kw0 (fun _ h9 => h9) rfl dX0_setStep_43 ?_
          refine lv_iload_n hx hb dX0_setStep_46 rfl (lv_at hl 1 rfl) ?_
          refine lv_iload_n hx hb dX0_setStep_47 rfl (lv_at hl 4 rfl) ?_
          refine r_ast (f := m_sr M) (j := i4) (v := r9) hx hb hK hP hD hS 7 0 rfl rfl (by omega) (by omega) dX0_setStep_48 (fun H locs hP hD hS => ?_)
          have hP : va_P D vwCl (w0 h cA (s_sr M (upd (m_sr M) i4 r9))) H := hP
          have hD : va_D A (w0 h cA (s_sr M (upd (m_sr M) i4 r9))) := hD
          refine lv_iload hx hb dX0_setStep_49 (lv_at hl 0 rfl) ?_
          subst hQ
          refine vx_ret ?_
          refine W.widen (k := 1) (n := 6) (by decide) (by decide) ?_
          exact W.iret (v := (m_sr M) i4) hx hb hr (fun t ht hW => ⟨⟨(m_sr M) i4, s_sr M (upd (m_sr M) i4 r9), rfl, (by simp [x_setStep, q1, q2, fi4, c5, pk_us]), by rw [ht]; exact hP, hD⟩, hS.F ht⟩) hS.2.2 dX0_setStep_51
        · have c5 := k_nle (a := 0) (b := i4) (by omega) (by omega) c5
          exact absurd c5 (Nat.not_lt_zero _)
      · subst qr3
        refine lv_istore_n (lv' := [(3, .int (-1)), (0, .ref (h 0)), (1, .int t9), (2, .int r9)]) hx hb dX0_setStep_21 rfl hl (by decide) rfl (fun ls hl => ?_)
        refine lv_iload_n hx hb dX0_setStep_22 rfl (lv_at hl 0 rfl) ?_
        refine lv_if_ge (tgt := 34) hx hb dX0_setStep_23 (by decide) (fun c6 => ?_) (fun c6 => ?_)
        · exact absurd c6 (by decide)
        · refine lv_aload_n hx hb dX0_setStep_26 rfl (lv_at hl 1 rfl) ?_
          refine lv_iload_n hx hb dX0_setStep_27 rfl (lv_at hl 2 rfl) ?_
          refine lv_iload_n hx hb dX0_setStep_28 rfl (lv_at hl 3 rfl) ?_
          refine g_callvXS (wf := fun u : MM => w0 h cA u) (vx_runV (As := [.int t9, .int r9]) (rest := []) ⟨hx, hb, hml, hown, hts⟩ (c0_addStep l hlt D h cA M hM t9 r9 s.heap.size) (cwV 2 hts gX0_setStep_X0_addStep rfl rfl rfl (by decide +kernel) ⟨Nat.le_of_ble_eq_true rfl, Nat.le_of_ble_eq_true rfl⟩) ⟨pE_fb pW_fb, va_recv hK hP (ci := 0) (q0 := 0) rfl rfl, pE_mk rfl (pW_mk hP hK hD) hE⟩ rfl rfl hl.1 rfl (lv_room (Nat.le_of_ble_eq_true rfl)) dX0_setStep_29 ⟨Nat.le_of_ble_eq_true rfl, Nat.le_of_ble_eq_true rfl⟩) hP hD hS hA (fun E ce q9 H1 locs1 hpx g1 g2 hP1 hS1 hce hcv hcl => ?_) (fun N7 H locs qN7 hP hD hS => ?_)
          · subst hQ
            exact r_outL htab hlocks hS1 g1 g2 hce hcv hcl (Or.inr (⟨hpx.1, by first | (simp only [x_setStep, q1, q2, fi4]; simp [hpx.2]; done) | (simp [x_setStep, q1, q2, fi4, hpx.2]; done)⟩)) (by decide) (by decide)
          · obtain ⟨qN7, eN7⟩ := qN7
            subst eN7
            refine lv_iconst (v := -1) hx hb dX0_setStep_32 (by decide) ?_
            subst hQ
            refine vx_ret ?_
            refine W.widen (k := 1) (n := 6) (by decide) (by decide) ?_
            exact W.iret (v := (-1)) hx hb hr (fun t ht hW => ⟨⟨(-1), s_sn (s_sr (s_st M (upd (m_st M) (m_sn M) t9)) (upd (m_sr M) (m_sn M) r9)) (m_sn M + 1), rfl, (by simp [x_setStep, q1, q2, fi4, qN7, pk_us]), by rw [ht]; exact hP, hD⟩, hS.F ht⟩) hS.2.2 dX0_setStep_33
set_option maxHeartbeats 4000000 in
set_option maxRecDepth 100000 in
theorem c0_dropStep (l : Launch) (hlt : l.stackTraces = false) (D : va_G) (h : Nat → Nat) (cA : ClassId) (M : MM) (hM : OKM M) (t9 : Int32) (sz : Nat) : vx_Met l yX0_dropStep wsX0_dropStep ({ frames := 7, cells := 1, slots := 6, locals := 112 } : Room) (va_Pc [.ref (h 0), .int t9] (fun U => pW D [(cA, .int)] (w0 h cA M) sz U ∧ x_En U)) (va_Qi (fun (r : Int32) (u : MM) => x_dropStep M t9 = (0, r, u)) (fun u => qW D (va_A (w0 h cA M) sz) (w0 h cA u)) (va_A (w0 h cA M) sz)) (g_X (fun E : String => (E = E_ia ∧ (x_dropStep M t9).1 = 1) ∨ (E = E_is ∧ (x_dropStep M t9).1 = 2))) 1 6 (va_A (w0 h cA M) sz) := by
  refine vx_ofW (cc := cX0_dropStep) (maxL := 5) (ret := (some .int)) (by decide) rfl ?_
  intro p e s m args below meth c s₁ B hml htab hv
  obtain ⟨rfl, ⟨hsz, hP, hK, hD0⟩, hE⟩ := hv
  have hx := B.exec
  have hb := B.bytes
  have hr := B.returns
  have hts := atoms_spec (ws := wsX0_dropStep) B.pre
  have hown : s.vm.findClass RX0 = some m.cls := findClass_of_methodNamed B.named
  have hlocks := B.notSynchronized
  have kw0 := hts (.fieldLink RX0 28 "ProgressBilling" "stepRate" "[I") (by decide +kernel)
  have kw1 := hts (.fieldLink RX0 43 "ProgressBilling" "stepCount" "I") (by decide +kernel)
  have kw2 := hts (.fieldLink RX0 25 "ProgressBilling" "stepThreshold" "[I") (by decide +kernel)
  have hin0 : ∀ w ∈ u_ws RX0 TX0 15, w ∈ wsX0_dropStep := by decide +kernel
  have ht_is : ∀ w ∈ t_is, w ∈ wsX0_dropStep := by decide +kernel
  subst hsz
  have hD := hD0.self (sz := s.heap.size)
  generalize hAe : va_A (w0 h cA M) s.heap.size = A at hD ⊢
  have hA : ∀ q : Nat, s.heap.size ≤ q → A q := fun q h => by rw [← hAe]; exact Or.inr h
  have hS : va_S A s.heap s.heap [] := va_S.rf
  have hP : va_P D vwCl (w0 h cA M) s.heap := hP
  obtain ⟨hn1, hn2, hn3, hn4⟩ := id hM
  have hl := lv_entry ([.ref (h 0), .int t9]) (n := 5) (Nat.le_of_ble_eq_true rfl)
  rw [lg_entry_eq]
  generalize (lg_sl ([.ref (h 0), .int t9]) ++ List.replicate (5 - (lg_sl ([.ref (h 0), .int t9])).length) Slot.unset).toArray = ls at hl ⊢
  have hl : lv_has ls 5 [(0, .ref (h 0)), (1, .int t9)] := hl
  refine w_abs (fun Q hQ => ?_)
  refine lv_iload_n hx hb dX0_dropStep_0 rfl (lv_at hl 1 rfl) ?_
  refine lv_iconst (v := 1) hx hb dX0_dropStep_1 (by decide) ?_
  refine lv_sipush (v := 1000) hx hb dX0_dropStep_2 (by decide) ?_
  refine g_callv (vx_runS (As := [.int t9, .int 1, .int 1000]) (rest := []) ⟨hx, hb, hml, hown, hts⟩ (c0_requireBetween l hlt t9 1 1000) (va_cwS 3 hts gX0_dropStep_X0_requireBetween rfl rfl rfl (by decide +kernel) ⟨Nat.le_of_ble_eq_true rfl, Nat.le_of_ble_eq_true rfl⟩) ⟨pE_fb nil_fb, pE_mk rfl nil_mk hE⟩ rfl rfl hl.1 rfl (lv_room (Nat.le_of_ble_eq_true rfl)) dX0_dropStep_5 ⟨Nat.le_of_ble_eq_true rfl, Nat.le_of_ble_eq_true rfl⟩) (fun E ce q9 H1 hpx g1 g2 hce hcv hcl => ?_) (fun q1 => ?_)
  · subst hQ
    exact r_out htab hlocks g1 g2 hce hcv hcl (Or.inl (⟨hpx.1, by first | (simp only [x_dropStep]; simp [hpx.2]; done) | (simp [x_dropStep, hpx.2]; done)⟩)) (by decide) (by decide)
  · have q1 : inR t9 1 1000 = true := q1
    refine lv_aload_n hx hb dX0_dropStep_8 rfl (lv_at hl 0 rfl) ?_
    refine lv_iload_n hx hb dX0_dropStep_9 rfl (lv_at hl 1 rfl) ?_
    refine vp_callSi (W.runV (As := [.int t9]) (rest := []) ⟨hx, hb, hml, hown, hts⟩ (c0_stepWith l D h cA M hM t9) (cwV 1 hts gX0_dropStep_X0_stepWith rfl rfl rfl (by decide +kernel) ⟨Nat.le_of_ble_eq_true rfl, Nat.le_of_ble_eq_true rfl⟩) ⟨pR_fb, va_recv hK hP (ci := 0) (q0 := 0) rfl rfl, pR_mk hP hK⟩ rfl rfl hl.1 rfl (lv_room (Nat.le_of_ble_eq_true rfl)) dX0_dropStep_10 ⟨Nat.le_of_ble_eq_true rfl, Nat.le_of_ble_eq_true rfl⟩) (fun r2 qr2 => ?_)
    rcases qr2 with ⟨i3, hi3, qr2, fi3, gi3⟩ | ⟨qr2, fi3⟩
    · subst qr2
      refine lv_istore_n (lv' := [(2, .int (nI i3)), (0, .ref (h 0)), (1, .int t9)]) hx hb dX0_dropStep_13 rfl hl (by decide) rfl (fun ls hl => ?_)
      refine lv_iload_n hx hb dX0_dropStep_14 rfl (lv_at hl 0 rfl) ?_
      refine lv_if_ge (tgt := 28) hx hb dX0_dropStep_15 (by decide) (fun c4 => ?_) (fun c4 => ?_)
      · have c4 := k_le (a := 0) (b := i3) (by omega) (by omega) c4
        refine lv_aload_n hx hb dX0_dropStep_28 rfl (lv_at hl 1 rfl) ?_
        refine va_get (D := D) (ci := 0) (v := .ref (h 7)) (C := RX0) (T := TX0) (N := 15) hx hb hts hin0 hown hK hP 0 rfl rfl 7 (by decide) kw0 (fun _ h9 => h9) rfl dX0_dropStep_29 ?_
        refine lv_iload_n hx hb dX0_dropStep_32 rfl (lv_at hl 0 rfl) ?_
        refine r_ald (f := m_sr M) (j := i3) hx hb hK hP 7 0 rfl rfl (by omega) (by omega) dX0_dropStep_33 ?_
        refine lv_istore_n (lv' := [(3, .int ((m_sr M) i3)), (2, .int (nI i3)), (0, .ref (h 0)), (1, .int t9)]) hx hb dX0_dropStep_34 rfl hl (by decide) rfl (fun ls hl => ?_)
        refine lv_aload_n hx hb dX0_dropStep_35 rfl (lv_at hl 2 rfl) ?_
        refine va_get (D := D) (ci := 0) (v := .int (nI (m_sn M))) (C := RX0) (T := TX0) (N := 15) hx hb hts hin0 hown hK hP 0 rfl rfl 8 (by decide) kw1 (fun _ h9 => h9) rfl dX0_dropStep_36 ?_
        refine lv_iconst (v := 1) hx hb dX0_dropStep_39 (by decide) ?_
        refine lv_isub hx hb dX0_dropStep_40 ?_
        refine lv_topi (fun y5 ey5 => ?_)
        obtain rfl : y5 = nI ((m_sn M) - 1) := ey5.trans (k_pred (by omega))
        refine lv_istore (lv' := [(4, .int (nI ((m_sn M) - 1))), (3, .int ((m_sr M) i3)), (2, .int (nI i3)), (0, .ref (h 0)), (1, .int t9)]) hx hb dX0_dropStep_41 hl (by decide) rfl (fun ls hl => ?_)
        refine lv_aload_n hx hb dX0_dropStep_43 rfl (lv_at hl 3 rfl) ?_
        refine va_get (D := D) (ci := 0) (v := .ref (h 6)) (C := RX0) (T := TX0) (N := 15) hx hb hts hin0 hown hK hP 0 rfl rfl 6 (by decide) kw2 (fun _ h9 => h9) rfl dX0_dropStep_44 ?_
        refine lv_iload_n hx hb dX0_dropStep_47 rfl (lv_at hl 2 rfl) ?_
        refine lv_aload_n hx hb dX0_dropStep_48 rfl (lv_at hl 3 rfl) ?_
        refine va_get (D := D) (ci := 0) (v := .ref (h 6)) (C := RX0) (T := TX0) (N := 15) hx hb hts hin0 hown hK hP 0 rfl rfl 6 (by decide) kw2 (fun _ h9 => h9) rfl dX0_dropStep_49 ?_
        refine lv_iload hx hb dX0_dropStep_52 (lv_at hl 0 rfl) ?_
        refine r_ald (f := m_st M) (j := ((m_sn M) - 1)) hx hb hK hP 6 0 rfl rfl (by omega) (by omega) dX0_dropStep_54 ?_
        refine r_ast (f := m_st M) (j := i3) (v := (m_st M) ((m_sn M) - 1)) hx hb hK hP hD hS 6 0 rfl rfl (by omega) (by omega) dX0_dropStep_55 (fun H locs hP hD hS => ?_)
        have hP : va_P D vwCl (w0 h cA (s_st M (upd (m_st M) i3 ((m_st M) ((m_sn M) - 1))))) H := hP
        have hD : va_D A (w0 h cA (s_st M (upd (m_st M) i3 ((m_st M) ((m_sn M) - 1))))) := hD
        refine lv_aload_n hx hb dX0_dropStep_56 rfl (lv_at hl 3 rfl) ?_
        refine va_get (D := D) (ci := 0) (v := .ref (h 7)) (C := RX0) (T := TX0) (N := 15) hx hb hts hin0 hown hK hP 0 rfl rfl 7 (by decide) kw0 (fun _ h9 => h9) rfl dX0_dropStep_57 ?_
        refine lv_iload_n hx hb dX0_dropStep_60 rfl (lv_at hl 2 rfl) ?_
        refine lv_aload_n hx hb dX0_dropStep_61 rfl (lv_at hl 3 rfl) ?_
        refine va_get (D := D) (ci := 0) (v := .ref (h 7)) (C := RX0) (T := TX0) (N := 15) hx hb hts hin0 hown hK hP 0 rfl rfl 7 (by decide) kw0 (fun _ h9 => h9) rfl dX0_dropStep_62 ?_
        refine lv_iload hx hb dX0_dropStep_65 (lv_at hl 0 rfl) ?_
        refine r_ald (f := m_sr M) (j := ((m_sn M) - 1)) hx hb hK hP 7 0 rfl rfl (by omega) (by omega) dX0_dropStep_67 ?_
        refine r_ast (f := m_sr M) (j := i3) (v := (m_sr M) ((m_sn M) - 1)) hx hb hK hP hD hS 7 0 rfl rfl (by omega) (by omega) dX0_dropStep_68 (fun H locs hP hD hS => ?_)
        have hP : va_P D vwCl (w0 h cA (s_sr (s_st M (upd (m_st M) i3 ((m_st M) ((m_sn M) - 1)))) (upd (m_sr M) i3 ((m_sr M) ((m_sn M) - 1))))) H := hP
        have hD : va_D A (w0 h cA (s_sr (s_st M (upd (m_st M) i3 ((m_st M) ((m_sn M) - 1)))) (upd (m_sr M) i3 ((m_sr M) ((m_sn M) - 1))))) := hD
        refine lv_aload_n hx hb dX0_dropStep_69 rfl (lv_at hl 3 rfl) ?_
        refine lv_iload hx hb dX0_dropStep_70 (lv_at hl 0 rfl) ?_
        refine va_put (D := D) (ci := 0) (v := .int (nI ((m_sn M) - 1))) (ty := .int) (C := RX0) (T := TX0) (N := 15) hx hb hts hin0 tyX0 tyX0_ok nmX0 hown hK hP hD hS 0 rfl rfl 8 (by decide) kw1 (fun _ h9 => h9) rfl (by decide +kernel) rfl rfl (Nat.le_of_ble_eq_true rfl) dX0_dropStep_72 (fun H locs hP hD hS => ?_)
        have hP : va_P D vwCl (w0 h cA (s_sn (s_sr (s_st M (upd (m_st M) i3 ((m_st M) ((m_sn M) - 1)))) (upd (m_sr M) i3 ((m_sr M) ((m_sn M) - 1)))) ((m_sn M) - 1))) H := hP
        have hD : va_D A (w0 h cA (s_sn (s_sr (s_st M (upd (m_st M) i3 ((m_st M) ((m_sn M) - 1)))) (upd (m_sr M) i3 ((m_sr M) ((m_sn M) - 1)))) ((m_sn M) - 1))) := hD
        refine lv_iload_n hx hb dX0_dropStep_75 rfl (lv_at hl 1 rfl) ?_
        subst hQ
        refine vx_ret ?_
        refine W.widen (k := 1) (n := 6) (by decide) (by decide) ?_
        exact W.iret (v := (m_sr M) i3) hx hb hr (fun t ht hW => ⟨⟨(m_sr M) i3, s_sn (s_sr (s_st M (upd (m_st M) i3 ((m_st M) ((m_sn M) - 1)))) (upd (m_sr M) i3 ((m_sr M) ((m_sn M) - 1)))) ((m_sn M) - 1), rfl, (by simp [x_dropStep, q1, fi3, c4, pk_us]), by rw [ht]; exact hP, hD⟩, hS.F ht⟩) hS.2.2 dX0_dropStep_76
      · have c4 := k_nle (a := 0) (b := i3) (by omega) (by omega) c4
        exact absurd c4 (Nat.not_lt_zero _)
    · subst qr2
      refine lv_istore_n (lv' := [(2, .int (-1)), (0, .ref (h 0)), (1, .int t9)]) hx hb dX0_dropStep_13 rfl hl (by decide) rfl (fun ls hl => ?_)
      refine lv_iload_n hx hb dX0_dropStep_14 rfl (lv_at hl 0 rfl) ?_
      refine lv_if_ge (tgt := 28) hx hb dX0_dropStep_15 (by decide) (fun c6 => ?_) (fun c6 => ?_)
      · exact absurd c6 (by decide)
      · subst hQ
        exact r_is (text := "no step has this threshold") hx hb hlt hown hts ht_is hE (by decide +kernel) (hl.1.trans hml.symm) dX0_dropStep_18 dX0_dropStep_21 dX0_dropStep_22 dX0_dropStep_24 dX0_dropStep_27 htab ⟨Nat.le_of_ble_eq_true rfl, Nat.le_of_ble_eq_true rfl, Nat.le_of_ble_eq_true rfl, Nat.le_of_ble_eq_true rfl⟩ hlocks (Or.inr (⟨rfl, by simp [x_dropStep, q1, fi3]⟩))
