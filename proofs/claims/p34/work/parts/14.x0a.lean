/-! THE CLASS: what is asked first, and parts that change -/
set_option maxHeartbeats 4000000 in
set_option maxRecDepth 100000 in
theorem c0_requireLine (l : Launch) (hlt : l.stackTraces = false) (D : va_G) (h : Nat → Nat) (cA : ClassId) (M : MM) (hM : OKM M) (x9 : Int32) : vx_Met l yX0_requireLine wsX0_requireLine ({ frames := 6, cells := 1, slots := 6, locals := 90 } : Room) (va_Pc [.ref (h 0), .int x9] (fun U => (pR D [(cA, .int)] (w0 h cA M)) U ∧ x_En U)) (va_Sv (fun _ : Unit => ∃ j : Nat, j < m_ln M ∧ x9 = nI j ∧ ixL (m_ln M) x9 = some j)) (g_X (fun E : String => E = E_io ∧ ixL (m_ln M) x9 = none)) 1 6 (fun _ => False) := by
  refine vx_ofW (cc := cX0_requireLine) (maxL := 2) (ret := none) (by decide) rfl ?_
  intro p e s m args below meth c s₁ B hml htab hv
  obtain ⟨rfl, ⟨hP, hK⟩, hE⟩ := hv
  have hx := B.exec
  have hb := B.bytes
  have hr := B.returns
  have hts := atoms_spec (ws := wsX0_requireLine) B.pre
  have hown : s.vm.findClass RX0 = some m.cls := findClass_of_methodNamed B.named
  have hlocks := B.notSynchronized
  have kw0 := hts (.fieldLink RX0 55 "ProgressBilling" "lineCount" "I") (by decide +kernel)
  have hin0 : ∀ w ∈ u_ws RX0 TX0 15, w ∈ wsX0_requireLine := by decide +kernel
  have ht_io : ∀ w ∈ t_io, w ∈ wsX0_requireLine := by decide +kernel
  obtain ⟨hn1, hn2, hn3, hn4⟩ := id hM
  have hl := lv_entry ([.ref (h 0), .int x9]) (n := 2) (Nat.le_of_ble_eq_true rfl)
  rw [lg_entry_eq]
  generalize (lg_sl ([.ref (h 0), .int x9]) ++ List.replicate (2 - (lg_sl ([.ref (h 0), .int x9])).length) Slot.unset).toArray = ls at hl ⊢
  have hl : lv_has ls 2 [(0, .ref (h 0)), (1, .int x9)] := hl
  refine w_abs (fun Q hQ => ?_)
  refine lv_iload_n hx hb dX0_requireLine_0 rfl (lv_at hl 1 rfl) ?_
  refine lv_if_lt (tgt := 12) hx hb dX0_requireLine_1 (by decide) (fun c1 => ?_) (fun c1 => ?_)
  · subst hQ
    exact r_io (text := "there is no such line") hx hb hlt hown hts ht_io hE (by decide +kernel) (hl.1.trans hml.symm) dX0_requireLine_12 dX0_requireLine_15 dX0_requireLine_16 dX0_requireLine_18 dX0_requireLine_21 htab ⟨Nat.le_of_ble_eq_true rfl, Nat.le_of_ble_eq_true rfl, Nat.le_of_ble_eq_true rfl, Nat.le_of_ble_eq_true rfl⟩ hlocks ⟨rfl, ixL_neg c1⟩
  · refine lv_iload_n hx hb dX0_requireLine_4 rfl (lv_at hl 1 rfl) ?_
    refine lv_aload_n hx hb dX0_requireLine_5 rfl (lv_at hl 0 rfl) ?_
    refine va_get (D := D) (ci := 0) (v := .int (nI (m_ln M))) (C := RX0) (T := TX0) (N := 15) hx hb hts hin0 hown hK hP 0 rfl rfl 5 (by decide) kw0 (fun _ h9 => h9) rfl dX0_requireLine_6 ?_
    refine lv_icmp_lt (tgt := 22) hx hb dX0_requireLine_9 (by decide) (fun c2 => ?_) (fun c2 => ?_)
    · subst hQ
      refine vx_ret ?_
      refine W.widen (k := 1) (n := 6) (by decide) (by decide) ?_
      exact W.vret hx hb hr (fun t ht hW => ⟨rfl, ixL_in (by omega) c1 c2, ht⟩) (fun q hq => by cases hq) dX0_requireLine_22
    · subst hQ
      exact r_io (text := "there is no such line") hx hb hlt hown hts ht_io hE (by decide +kernel) (hl.1.trans hml.symm) dX0_requireLine_12 dX0_requireLine_15 dX0_requireLine_16 dX0_requireLine_18 dX0_requireLine_21 htab ⟨Nat.le_of_ble_eq_true rfl, Nat.le_of_ble_eq_true rfl, Nat.le_of_ble_eq_true rfl, Nat.le_of_ble_eq_true rfl⟩ hlocks ⟨rfl, ixL_big (by omega) c2⟩
set_option maxHeartbeats 4000000 in
set_option maxRecDepth 100000 in
theorem c0_requireApplication (l : Launch) (hlt : l.stackTraces = false) (D : va_G) (h : Nat → Nat) (cA : ClassId) (M : MM) (hM : OKM M) (x9 : Int32) : vx_Met l yX0_requireApplication wsX0_requireApplication ({ frames := 6, cells := 1, slots := 6, locals := 90 } : Room) (va_Pc [.ref (h 0), .int x9] (fun U => (pR D [(cA, .int)] (w0 h cA M)) U ∧ x_En U)) (va_Sv (fun _ : Unit => ∃ j : Nat, j < m_an M ∧ x9 = nI j ∧ ixL (m_an M) x9 = some j)) (g_X (fun E : String => E = E_io ∧ ixL (m_an M) x9 = none)) 1 6 (fun _ => False) := by
  refine vx_ofW (cc := cX0_requireApplication) (maxL := 2) (ret := none) (by decide) rfl ?_
  intro p e s m args below meth c s₁ B hml htab hv
  obtain ⟨rfl, ⟨hP, hK⟩, hE⟩ := hv
  have hx := B.exec
  have hb := B.bytes
  have hr := B.returns
  have hts := atoms_spec (ws := wsX0_requireApplication) B.pre
  have hown : s.vm.findClass RX0 = some m.cls := findClass_of_methodNamed B.named
  have hlocks := B.notSynchronized
  have kw0 := hts (.fieldLink RX0 115 "ProgressBilling" "applicationCount" "I") (by decide +kernel)
  have hin0 : ∀ w ∈ u_ws RX0 TX0 15, w ∈ wsX0_requireApplication := by decide +kernel
  have ht_io : ∀ w ∈ t_io, w ∈ wsX0_requireApplication := by decide +kernel
  obtain ⟨hn1, hn2, hn3, hn4⟩ := id hM
  have hl := lv_entry ([.ref (h 0), .int x9]) (n := 2) (Nat.le_of_ble_eq_true rfl)
  rw [lg_entry_eq]
  generalize (lg_sl ([.ref (h 0), .int x9]) ++ List.replicate (2 - (lg_sl ([.ref (h 0), .int x9])).length) Slot.unset).toArray = ls at hl ⊢
  have hl : lv_has ls 2 [(0, .ref (h 0)), (1, .int x9)] := hl
  refine w_abs (fun Q hQ => ?_)
  refine lv_iload_n hx hb dX0_requireApplication_0 rfl (lv_at hl 1 rfl) ?_
  refine lv_if_lt (tgt := 12) hx hb dX0_requireApplication_1 (by decide) (fun c1 => ?_) (fun c1 => ?_)
  · subst hQ
    exact r_io (text := "there is no such application") hx hb hlt hown hts ht_io hE (by decide +kernel) (hl.1.trans hml.symm) dX0_requireApplication_12 dX0_requireApplication_15 dX0_requireApplication_16 dX0_requireApplication_18 dX0_requireApplication_21 htab ⟨Nat.le_of_ble_eq_true rfl, Nat.le_of_ble_eq_true rfl, Nat.le_of_ble_eq_true rfl, Nat.le_of_ble_eq_true rfl⟩ hlocks ⟨rfl, ixL_neg c1⟩
  · refine lv_iload_n hx hb dX0_requireApplication_4 rfl (lv_at hl 1 rfl) ?_
    refine lv_aload_n hx hb dX0_requireApplication_5 rfl (lv_at hl 0 rfl) ?_
    refine va_get (D := D) (ci := 0) (v := .int (nI (m_an M))) (C := RX0) (T := TX0) (N := 15) hx hb hts hin0 hown hK hP 0 rfl rfl 14 (by decide) kw0 (fun _ h9 => h9) rfl dX0_requireApplication_6 ?_
    refine lv_icmp_lt (tgt := 22) hx hb dX0_requireApplication_9 (by decide) (fun c2 => ?_) (fun c2 => ?_)
    · subst hQ
      refine vx_ret ?_
      refine W.widen (k := 1) (n := 6) (by decide) (by decide) ?_
      exact W.vret hx hb hr (fun t ht hW => ⟨rfl, ixL_in (by omega) c1 c2, ht⟩) (fun q hq => by cases hq) dX0_requireApplication_22
    · subst hQ
      exact r_io (text := "there is no such application") hx hb hlt hown hts ht_io hE (by decide +kernel) (hl.1.trans hml.symm) dX0_requireApplication_12 dX0_requireApplication_15 dX0_requireApplication_16 dX0_requireApplication_18 dX0_requireApplication_21 htab ⟨Nat.le_of_ble_eq_true rfl, Nat.le_of_ble_eq_true rfl, Nat.le_of_ble_eq_true rfl, Nat.le_of_ble_eq_true rfl⟩ hlocks ⟨rfl, ixL_big (by omega) c2⟩
set_option maxHeartbeats 4000000 in
set_option maxRecDepth 100000 in
theorem c0_requireBetween (l : Launch) (hlt : l.stackTraces = false) (n9 lo hi : Int32) : vx_Met l yX0_requireBetween wsX0_requireBetween ({ frames := 6, cells := 1, slots := 6, locals := 90 } : Room) (va_Pc [.int n9, .int lo, .int hi] (fun U => (fun _ => True) U ∧ x_En U)) (va_Sv (fun _ : Unit => inR n9 lo hi = true)) (g_X (fun E : String => E = E_ia ∧ inR n9 lo hi = false)) 1 6 (fun _ => False) := by
  refine vx_ofW (cc := cX0_requireBetween) (maxL := 3) (ret := none) (by decide) rfl ?_
  intro p e s m args below meth c s₁ B hml htab hv
  obtain ⟨rfl, -, hE⟩ := hv
  have hx := B.exec
  have hb := B.bytes
  have hr := B.returns
  have hts := atoms_spec (ws := wsX0_requireBetween) B.pre
  have hown : s.vm.findClass RX0 = some m.cls := findClass_of_methodNamed B.named
  have hlocks := B.notSynchronized
  have ht_ia : ∀ w ∈ t_ia, w ∈ wsX0_requireBetween := by decide +kernel
  have hl := lv_entry ([.int n9, .int lo, .int hi]) (n := 3) (Nat.le_of_ble_eq_true rfl)
  rw [lg_entry_eq]
  generalize (lg_sl ([.int n9, .int lo, .int hi]) ++ List.replicate (3 - (lg_sl ([.int n9, .int lo, .int hi])).length) Slot.unset).toArray = ls at hl ⊢
  have hl : lv_has ls 3 [(0, .int n9), (1, .int lo), (2, .int hi)] := hl
  refine w_abs (fun Q hQ => ?_)
  refine lv_iload_n hx hb dX0_requireBetween_0 rfl (lv_at hl 0 rfl) ?_
  refine lv_iload_n hx hb dX0_requireBetween_1 rfl (lv_at hl 1 rfl) ?_
  refine lv_icmp_lt (tgt := 10) hx hb dX0_requireBetween_2 (by decide) (fun c1 => ?_) (fun c1 => ?_)
  · subst hQ
    exact r_ia (text := "an argument is out of its range") hx hb hlt hown hts ht_ia hE (by decide +kernel) (hl.1.trans hml.symm) dX0_requireBetween_10 dX0_requireBetween_13 dX0_requireBetween_14 dX0_requireBetween_16 dX0_requireBetween_19 htab ⟨Nat.le_of_ble_eq_true rfl, Nat.le_of_ble_eq_true rfl, Nat.le_of_ble_eq_true rfl, Nat.le_of_ble_eq_true rfl⟩ hlocks ⟨rfl, inR_lo c1⟩
  · refine lv_iload_n hx hb dX0_requireBetween_5 rfl (lv_at hl 0 rfl) ?_
    refine lv_iload_n hx hb dX0_requireBetween_6 rfl (lv_at hl 2 rfl) ?_
    refine lv_icmp_le (tgt := 20) hx hb dX0_requireBetween_7 (by decide) (fun c2 => ?_) (fun c2 => ?_)
    · have c2 := Int32.not_lt.mpr c2
      subst hQ
      refine vx_ret ?_
      refine W.widen (k := 1) (n := 6) (by decide) (by decide) ?_
      exact W.vret hx hb hr (fun t ht hW => ⟨rfl, inR_ok c1 c2, ht⟩) (fun q hq => by cases hq) dX0_requireBetween_20
    · have c2 := Int32.not_le.mp c2
      subst hQ
      exact r_ia (text := "an argument is out of its range") hx hb hlt hown hts ht_ia hE (by decide +kernel) (hl.1.trans hml.symm) dX0_requireBetween_10 dX0_requireBetween_13 dX0_requireBetween_14 dX0_requireBetween_16 dX0_requireBetween_19 htab ⟨Nat.le_of_ble_eq_true rfl, Nat.le_of_ble_eq_true rfl, Nat.le_of_ble_eq_true rfl, Nat.le_of_ble_eq_true rfl⟩ hlocks ⟨rfl, inR_hi c2⟩
set_option maxHeartbeats 4000000 in
set_option maxRecDepth 100000 in
theorem c0_requireRoomForLine (l : Launch) (hlt : l.stackTraces = false) (D : va_G) (h : Nat → Nat) (cA : ClassId) (M : MM) (hM : OKM M) : vx_Met l yX0_requireRoomForLine wsX0_requireRoomForLine ({ frames := 6, cells := 1, slots := 6, locals := 90 } : Room) (va_Pc [.ref (h 0)] (fun U => (pR D [(cA, .int)] (w0 h cA M)) U ∧ x_En U)) (va_Sv (fun _ : Unit => ¬ m_ln M = 16)) (g_X (fun E : String => E = E_is ∧ m_ln M = 16)) 1 6 (fun _ => False) := by
  refine vx_ofW (cc := cX0_requireRoomForLine) (maxL := 1) (ret := none) (by decide) rfl ?_
  intro p e s m args below meth c s₁ B hml htab hv
  obtain ⟨rfl, ⟨hP, hK⟩, hE⟩ := hv
  have hx := B.exec
  have hb := B.bytes
  have hr := B.returns
  have hts := atoms_spec (ws := wsX0_requireRoomForLine) B.pre
  have hown : s.vm.findClass RX0 = some m.cls := findClass_of_methodNamed B.named
  have hlocks := B.notSynchronized
  have kw0 := hts (.fieldLink RX0 55 "ProgressBilling" "lineCount" "I") (by decide +kernel)
  have hin0 : ∀ w ∈ u_ws RX0 TX0 15, w ∈ wsX0_requireRoomForLine := by decide +kernel
  have ht_is : ∀ w ∈ t_is, w ∈ wsX0_requireRoomForLine := by decide +kernel
  obtain ⟨hn1, hn2, hn3, hn4⟩ := id hM
  have hl := lv_entry ([.ref (h 0)]) (n := 1) (Nat.le_of_ble_eq_true rfl)
  rw [lg_entry_eq]
  generalize (lg_sl ([.ref (h 0)]) ++ List.replicate (1 - (lg_sl ([.ref (h 0)])).length) Slot.unset).toArray = ls at hl ⊢
  have hl : lv_has ls 1 [(0, .ref (h 0))] := hl
  refine w_abs (fun Q hQ => ?_)
  refine lv_aload_n hx hb dX0_requireRoomForLine_0 rfl (lv_at hl 0 rfl) ?_
  refine va_get (D := D) (ci := 0) (v := .int (nI (m_ln M))) (C := RX0) (T := TX0) (N := 15) hx hb hts hin0 hown hK hP 0 rfl rfl 5 (by decide) kw0 (fun _ h9 => h9) rfl dX0_requireRoomForLine_1 ?_
  refine lv_bipush (v := 16) hx hb dX0_requireRoomForLine_4 (by decide) ?_
  refine lv_icmp_lt (tgt := 19) hx hb dX0_requireRoomForLine_6 (by decide) (fun c1 => ?_) (fun c1 => ?_)
  · have c1 := k_lt (a := (m_ln M)) (b := 16) (by omega) (by omega) c1
    subst hQ
    refine vx_ret ?_
    refine W.widen (k := 1) (n := 6) (by decide) (by decide) ?_
    exact W.vret hx hb hr (fun t ht hW => ⟨rfl, by omega, ht⟩) (fun q hq => by cases hq) dX0_requireRoomForLine_19
  · have c1 := k_nlt (a := (m_ln M)) (b := 16) (by omega) (by omega) c1
    subst hQ
    exact r_is (text := "there are 16 lines") hx hb hlt hown hts ht_is hE (by decide +kernel) (hl.1.trans hml.symm) dX0_requireRoomForLine_9 dX0_requireRoomForLine_12 dX0_requireRoomForLine_13 dX0_requireRoomForLine_15 dX0_requireRoomForLine_18 htab ⟨Nat.le_of_ble_eq_true rfl, Nat.le_of_ble_eq_true rfl, Nat.le_of_ble_eq_true rfl, Nat.le_of_ble_eq_true rfl⟩ hlocks ⟨rfl, by omega⟩
set_option maxHeartbeats 4000000 in
set_option maxRecDepth 100000 in
theorem c0_requireValueFor (l : Launch) (hlt : l.stackTraces = false) (D : va_G) (h : Nat → Nat) (cA : ClassId) (M : MM) (hM : OKM M) (j : Nat) (hj : j < m_ln M) (c9 : Int32) : vx_Met l yX0_requireValueFor wsX0_requireValueFor ({ frames := 6, cells := 1, slots := 6, locals := 90 } : Room) (va_Pc [.ref (h 0), .int (nI j), .int c9] (fun U => (pR D [(cA, .int)] (w0 h cA M)) U ∧ x_En U)) (va_Sv (fun _ : Unit => ¬ m_lv M j < m_le M j + c9)) (g_X (fun E : String => E = E_is ∧ m_lv M j < m_le M j + c9)) 1 6 (fun _ => False) := by
  refine vx_ofW (cc := cX0_requireValueFor) (maxL := 3) (ret := none) (by decide) rfl ?_
  intro p e s m args below meth c s₁ B hml htab hv
  obtain ⟨rfl, ⟨hP, hK⟩, hE⟩ := hv
  have hx := B.exec
  have hb := B.bytes
  have hr := B.returns
  have hts := atoms_spec (ws := wsX0_requireValueFor) B.pre
  have hown : s.vm.findClass RX0 = some m.cls := findClass_of_methodNamed B.named
  have hlocks := B.notSynchronized
  have kw0 := hts (.fieldLink RX0 13 "ProgressBilling" "lineEarned" "[I") (by decide +kernel)
  have kw1 := hts (.fieldLink RX0 9 "ProgressBilling" "lineValue" "[I") (by decide +kernel)
  have hin0 : ∀ w ∈ u_ws RX0 TX0 15, w ∈ wsX0_requireValueFor := by decide +kernel
  have ht_is : ∀ w ∈ t_is, w ∈ wsX0_requireValueFor := by decide +kernel
  obtain ⟨hn1, hn2, hn3, hn4⟩ := id hM
  have hl := lv_entry ([.ref (h 0), .int (nI j), .int c9]) (n := 3) (Nat.le_of_ble_eq_true rfl)
  rw [lg_entry_eq]
  generalize (lg_sl ([.ref (h 0), .int (nI j), .int c9]) ++ List.replicate (3 - (lg_sl ([.ref (h 0), .int (nI j), .int c9])).length) Slot.unset).toArray = ls at hl ⊢
  have hl : lv_has ls 3 [(0, .ref (h 0)), (1, .int (nI j)), (2, .int c9)] := hl
  refine w_abs (fun Q hQ => ?_)
  refine lv_aload_n hx hb dX0_requireValueFor_0 rfl (lv_at hl 0 rfl) ?_
  refine va_get (D := D) (ci := 0) (v := .ref (h 2)) (C := RX0) (T := TX0) (N := 15) hx hb hts hin0 hown hK hP 0 rfl rfl 1 (by decide) kw0 (fun _ h9 => h9) rfl dX0_requireValueFor_1 ?_
  refine lv_iload_n hx hb dX0_requireValueFor_4 rfl (lv_at hl 1 rfl) ?_
  refine r_ald (f := m_le M) (j := j) hx hb hK hP 2 0 rfl rfl (by omega) (by omega) dX0_requireValueFor_5 ?_
  refine lv_iload_n hx hb dX0_requireValueFor_6 rfl (lv_at hl 2 rfl) ?_
  refine lv_iadd hx hb dX0_requireValueFor_7 ?_
  refine lv_aload_n hx hb dX0_requireValueFor_8 rfl (lv_at hl 0 rfl) ?_
  refine va_get (D := D) (ci := 0) (v := .ref (h 1)) (C := RX0) (T := TX0) (N := 15) hx hb hts hin0 hown hK hP 0 rfl rfl 0 (by decide) kw1 (fun _ h9 => h9) rfl dX0_requireValueFor_9 ?_
  refine lv_iload_n hx hb dX0_requireValueFor_12 rfl (lv_at hl 1 rfl) ?_
  refine r_ald (f := m_lv M) (j := j) hx hb hK hP 1 0 rfl rfl (by omega) (by omega) dX0_requireValueFor_13 ?_
  refine lv_icmp_le (tgt := 27) hx hb dX0_requireValueFor_14 (by decide) (fun c1 => ?_) (fun c1 => ?_)
  · have c1 := Int32.not_lt.mpr c1
    subst hQ
    refine vx_ret ?_
    refine W.widen (k := 1) (n := 6) (by decide) (by decide) ?_
    exact W.vret hx hb hr (fun t ht hW => ⟨rfl, c1, ht⟩) (fun q hq => by cases hq) dX0_requireValueFor_27
  · have c1 := Int32.not_le.mp c1
    subst hQ
    exact r_is (text := "the line would have earned more than its value") hx hb hlt hown hts ht_is hE (by decide +kernel) (hl.1.trans hml.symm) dX0_requireValueFor_17 dX0_requireValueFor_20 dX0_requireValueFor_21 dX0_requireValueFor_23 dX0_requireValueFor_26 htab ⟨Nat.le_of_ble_eq_true rfl, Nat.le_of_ble_eq_true rfl, Nat.le_of_ble_eq_true rfl, Nat.le_of_ble_eq_true rfl⟩ hlocks ⟨rfl, c1⟩
set_option maxHeartbeats 4000000 in
set_option maxRecDepth 100000 in
theorem c0_moveShare (l : Launch) (D : va_G) (cA : ClassId) (a sz : Nat) (f : FF) (j n : Nat) (p9 w9 : Int32) (hj : j < 16) (hn : n < 16) : Met l yX0_moveShare wsX0_moveShare ({ frames := 2, cells := 0, slots := 0, locals := 47 } : Room) (va_Pc [.ref a, .int (nI j), .int (nI n), .int p9, .int w9] (pW D [(cA, .int)] ([(a, .inl (cA, 16, .inl f))]) sz)) (va_Qv (fun (u : FF) => u = x_mv f j n p9 w9) (fun u => qW D (va_A ([(a, .inl (cA, 16, .inl f))]) sz) ([(a, .inl (cA, 16, .inl u))])) (va_A ([(a, .inl (cA, 16, .inl f))]) sz)) 0 0 (va_A ([(a, .inl (cA, 16, .inl f))]) sz) := by
  refine Met.ofW (cc := cX0_moveShare) (maxL := 6) (ret := none) (by decide) rfl ?_
  intro p e s m args below meth c s₁ B hml hv
  obtain ⟨rfl, hsz, hP, hK, hD0⟩ := hv
  have hx := B.exec
  have hb := B.bytes
  have hr := B.returns
  have hts := atoms_spec (ws := wsX0_moveShare) B.pre
  have hown : s.vm.findClass RX0 = some m.cls := findClass_of_methodNamed B.named
  have hlocks := B.notSynchronized
  subst hsz
  have hD := hD0.self (sz := s.heap.size)
  generalize hAe : va_A ([(a, .inl (cA, 16, .inl f))]) s.heap.size = A at hD ⊢
  have hA : ∀ q : Nat, s.heap.size ≤ q → A q := fun q h => by rw [← hAe]; exact Or.inr h
  have hS : va_S A s.heap s.heap [] := va_S.rf
  have hP : va_P D vwCl ([(a, .inl (cA, 16, .inl f))]) s.heap := hP
  have hl := lv_entry ([.ref a, .int (nI j), .int (nI n), .int p9, .int w9]) (n := 6) (Nat.le_of_ble_eq_true rfl)
  rw [lg_entry_eq]
  generalize (lg_sl ([.ref a, .int (nI j), .int (nI n), .int p9, .int w9]) ++ List.replicate (6 - (lg_sl ([.ref a, .int (nI j), .int (nI n), .int p9, .int w9])).length) Slot.unset).toArray = ls at hl ⊢
  have hl : lv_has ls 6 [(0, .ref a), (1, .int (nI j)), (2, .int (nI n)), (3, .int p9), (4, .int w9)] := hl
  refine w_abs (fun Q hQ => ?_)
  refine lv_aload_n hx hb dX0_moveShare_0 rfl (lv_at hl 0 rfl) ?_
  refine lv_iload_n hx hb dX0_moveShare_1 rfl (lv_at hl 1 rfl) ?_
  refine r_ald (f := f) (j := j) hx hb hK hP 0 0 rfl rfl (by omega) (by omega) dX0_moveShare_2 ?_
  refine lv_iload_n hx hb dX0_moveShare_3 rfl (lv_at hl 3 rfl) ?_
  refine lv_iload hx hb dX0_moveShare_4 (lv_at hl 4 rfl) ?_
  refine vp_callSi (W.runS (As := [.int (f j), .int p9, .int w9]) (rest := []) ⟨hx, hb, hml, hown, hts⟩ (c0_scaledDown l (f j) p9 w9) (va_cwS 3 hts gX0_moveShare_X0_scaledDown rfl rfl rfl (by decide +kernel) ⟨Nat.le_of_ble_eq_true rfl, Nat.le_of_ble_eq_true rfl⟩) ⟨nil_fb, nil_mk⟩ rfl rfl hl.1 rfl (lv_room (Nat.le_of_ble_eq_true rfl)) dX0_moveShare_6 ⟨Nat.le_of_ble_eq_true rfl, Nat.le_of_ble_eq_true rfl⟩) (fun r1 qr1 => ?_)
  have qr1 : r1 = x_sd (f j) p9 w9 := qr1
  subst qr1
  refine lv_istore (lv' := [(5, .int (x_sd (f j) p9 w9)), (0, .ref a), (1, .int (nI j)), (2, .int (nI n)), (3, .int p9), (4, .int w9)]) hx hb dX0_moveShare_9 hl (by decide) rfl (fun ls hl => ?_)
  refine lv_aload_n hx hb dX0_moveShare_11 rfl (lv_at hl 1 rfl) ?_
  refine lv_iload_n hx hb dX0_moveShare_12 rfl (lv_at hl 3 rfl) ?_
  refine lv_iload hx hb dX0_moveShare_13 (lv_at hl 0 rfl) ?_
  refine r_ast (f := f) (j := n) (v := x_sd (f j) p9 w9) hx hb hK hP hD hS 0 0 rfl rfl (by omega) (by omega) dX0_moveShare_15 (fun H locs hP hD hS => ?_)
  have hP : va_P D vwCl ([(a, .inl (cA, 16, .inl (upd f n (x_sd (f j) p9 w9))))]) H := hP
  have hD : va_D A ([(a, .inl (cA, 16, .inl (upd f n (x_sd (f j) p9 w9))))]) := hD
  refine lv_aload_n hx hb dX0_moveShare_16 rfl (lv_at hl 1 rfl) ?_
  refine lv_iload_n hx hb dX0_moveShare_17 rfl (lv_at hl 2 rfl) ?_
  refine lv_dup2_11 hx hb dX0_moveShare_18 rfl rfl ?_
  refine r_ald (f := upd f n (x_sd (f j) p9 w9)) (j := j) hx hb hK hP 0 0 rfl rfl (by omega) (by omega) dX0_moveShare_19 ?_
  refine lv_iload hx hb dX0_moveShare_20 (lv_at hl 0 rfl) ?_
  refine lv_isub hx hb dX0_moveShare_22 ?_
  refine r_ast (f := upd f n (x_sd (f j) p9 w9)) (j := j) (v := ((upd f n (x_sd (f j) p9 w9)) j) - (x_sd (f j) p9 w9)) hx hb hK hP hD hS 0 0 rfl rfl (by omega) (by omega) dX0_moveShare_23 (fun H locs hP hD hS => ?_)
  have hP : va_P D vwCl ([(a, .inl (cA, 16, .inl (upd (upd f n (x_sd (f j) p9 w9)) j (((upd f n (x_sd (f j) p9 w9)) j) - (x_sd (f j) p9 w9)))))]) H := hP
  have hD : va_D A ([(a, .inl (cA, 16, .inl (upd (upd f n (x_sd (f j) p9 w9)) j (((upd f n (x_sd (f j) p9 w9)) j) - (x_sd (f j) p9 w9)))))]) := hD
  subst hQ
  exact W.vret hx hb hr (fun t ht hW => ⟨⟨upd (upd f n (x_sd (f j) p9 w9)) j (((upd f n (x_sd (f j) p9 w9)) j) - (x_sd (f j) p9 w9)), rfl, rfl, by rw [ht]; exact hP, hD⟩, hS.F ht⟩) hS.2.2 dX0_moveShare_24
set_option maxHeartbeats 4000000 in
set_option maxRecDepth 100000 in
theorem c0_billLines (l : Launch) (D : va_G) (h : Nat → Nat) (cA : ClassId) (M : MM) (hM : OKM M) (sz : Nat) : Met l yX0_billLines wsX0_billLines ({ frames := 4, cells := 0, slots := 0, locals := 90 } : Room) (va_Pc [.ref (h 0)] (pW D [(cA, .int)] (w0 h cA M) sz)) (va_Qv (fun (u : MM) => u = x_bill M (x_rate M) (m_ln M)) (fun u => qW D (va_A (w0 h cA M) sz) (w0 h cA u)) (va_A (w0 h cA M) sz)) 0 0 (va_A (w0 h cA M) sz) := by
  refine Met.ofW (cc := cX0_billLines) (maxL := 3) (ret := none) (by decide) rfl ?_
  intro p e s m args below meth c s₁ B hml hv
  obtain ⟨rfl, hsz, hP, hK, hD0⟩ := hv
  have hx := B.exec
  have hb := B.bytes
  have hr := B.returns
  have hts := atoms_spec (ws := wsX0_billLines) B.pre
  have hown : s.vm.findClass RX0 = some m.cls := findClass_of_methodNamed B.named
  have hlocks := B.notSynchronized
  have kw0 := hts (.fieldLink RX0 55 "ProgressBilling" "lineCount" "I") (by decide +kernel)
  have kw1 := hts (.fieldLink RX0 22 "ProgressBilling" "lineHeld" "[I") (by decide +kernel)
  have kw2 := hts (.fieldLink RX0 19 "ProgressBilling" "lineBilled" "[I") (by decide +kernel)
  have kw3 := hts (.fieldLink RX0 13 "ProgressBilling" "lineEarned" "[I") (by decide +kernel)
  have hin0 : ∀ w ∈ u_ws RX0 TX0 15, w ∈ wsX0_billLines := by decide +kernel
  subst hsz
  have hD := hD0.self (sz := s.heap.size)
  generalize hAe : va_A (w0 h cA M) s.heap.size = A at hD ⊢
  have hA : ∀ q : Nat, s.heap.size ≤ q → A q := fun q h => by rw [← hAe]; exact Or.inr h
  have hS : va_S A s.heap s.heap [] := va_S.rf
  have hP : va_P D vwCl (w0 h cA M) s.heap := hP
  obtain ⟨hn1, hn2, hn3, hn4⟩ := id hM
  have hl := lv_entry ([.ref (h 0)]) (n := 3) (Nat.le_of_ble_eq_true rfl)
  rw [lg_entry_eq]
  generalize (lg_sl ([.ref (h 0)]) ++ List.replicate (3 - (lg_sl ([.ref (h 0)])).length) Slot.unset).toArray = ls at hl ⊢
  have hl : lv_has ls 3 [(0, .ref (h 0))] := hl
  refine w_abs (fun Q hQ => ?_)
  refine lv_aload_n hx hb dX0_billLines_0 rfl (lv_at hl 0 rfl) ?_
  refine vp_callSi (W.runV (As := []) (rest := []) ⟨hx, hb, hml, hown, hts⟩ (c0_rate l D h cA M hM) (cwV 0 hts gX0_billLines_X0_rate rfl rfl rfl (by decide +kernel) ⟨Nat.le_of_ble_eq_true rfl, Nat.le_of_ble_eq_true rfl⟩) ⟨pR_fb, va_recv hK hP (ci := 0) (q0 := 0) rfl rfl, pR_mk hP hK⟩ rfl rfl hl.1 rfl (lv_room (Nat.le_of_ble_eq_true rfl)) dX0_billLines_1 ⟨Nat.le_of_ble_eq_true rfl, Nat.le_of_ble_eq_true rfl⟩) (fun r1 qr1 => ?_)
  have qr1 : r1 = x_rate M := qr1
  subst qr1
  refine lv_istore_n (lv' := [(1, .int (x_rate M)), (0, .ref (h 0))]) hx hb dX0_billLines_4 rfl hl (by decide) rfl (fun ls hl => ?_)
  refine lv_iconst (v := 0) hx hb dX0_billLines_5 (by decide) ?_
  refine lv_istore_n (lv' := [(2, .int 0), (1, .int (x_rate M)), (0, .ref (h 0))]) hx hb dX0_billLines_6 rfl hl (by decide) rfl (fun ls hl => ?_)
  have loop : ∀ (fu : Nat) (k : Nat) (N : MM), k ≤ m_ln M → N = x_bill M (x_rate M) k → OKM N → m_ln N = m_ln M → m_ln M - k < fu → ∀ (H : Heap) (locs : List Loc), va_P D vwCl (w0 h cA N) H → va_D A (w0 h cA N) → va_S A s.heap H locs → ∀ (ls : Array Slot), lv_has ls 3 [(0, .ref (h 0)), (1, .int (x_rate M)), (2, .int (nI k))] → W p l e (headSpec wsX0_billLines ({ frames := 4, cells := 0, slots := 0, locals := 90 } : Room)).room s m ([.ref (h 0)] : List Value).toArray below meth c H locs 0 0 Q (F0 m 7 ls []) := by
    intro fu
    induction fu with
    | zero => intro k N hk eN hN hNl hfu; exact absurd hfu (by omega)
    | succ fu ih =>
      intro k N hk eN hN hNl hfu H locs hP hD hS ls hl
      refine lv_iload_n hx hb dX0_billLines_7 rfl (lv_at hl 2 rfl) ?_
      refine lv_aload_n hx hb dX0_billLines_8 rfl (lv_at hl 0 rfl) ?_
      refine va_get (D := D) (ci := 0) (v := .int (nI (m_ln N))) (C := RX0) (T := TX0) (N := 15) hx hb hts hin0 hown hK hP 0 rfl rfl 5 (by decide) kw0 (fun _ h9 => h9) rfl dX0_billLines_9 ?_
      refine lv_icmp_ge (tgt := 45) hx hb dX0_billLines_12 (by decide) (fun c2 => ?_) (fun c2 => ?_)
      · have c2 := k_le (a := (m_ln N)) (b := k) (by omega) (by omega) c2
        subst hQ
        exact W.vret hx hb hr (fun t ht hW => ⟨⟨N, rfl, (by rw [eN, show k = m_ln M by omega]), by rw [ht]; exact hP, hD⟩, hS.F ht⟩) hS.2.2 dX0_billLines_45
      · have c2 := k_nle (a := (m_ln N)) (b := k) (by omega) (by omega) c2
        refine lv_aload_n hx hb dX0_billLines_15 rfl (lv_at hl 0 rfl) ?_
        refine va_get (D := D) (ci := 0) (v := .ref (h 5)) (C := RX0) (T := TX0) (N := 15) hx hb hts hin0 hown hK hP 0 rfl rfl 4 (by decide) kw1 (fun _ h9 => h9) rfl dX0_billLines_16 ?_
        refine lv_iload_n hx hb dX0_billLines_19 rfl (lv_at hl 2 rfl) ?_
        refine lv_aload_n hx hb dX0_billLines_20 rfl (lv_at hl 0 rfl) ?_
        refine lv_iload_n hx hb dX0_billLines_21 rfl (lv_at hl 2 rfl) ?_
        refine lv_iload_n hx hb dX0_billLines_22 rfl (lv_at hl 1 rfl) ?_
        refine vp_callSi (W.runV (As := [.int (nI k), .int (x_rate M)]) (rest := [.int (nI k), .ref (h 5)]) ⟨hx, hb, hml, hown, hts⟩ (c0_heldIfClosed l D h cA N hN k (by omega) (x_rate M)) (cwV 2 hts gX0_billLines_X0_heldIfClosed rfl rfl rfl (by decide +kernel) ⟨Nat.le_of_ble_eq_true rfl, Nat.le_of_ble_eq_true rfl⟩) ⟨pR_fb, va_recv hK hP (ci := 0) (q0 := 0) rfl rfl, pR_mk hP hK⟩ rfl rfl hl.1 rfl (lv_room (Nat.le_of_ble_eq_true rfl)) dX0_billLines_23 ⟨Nat.le_of_ble_eq_true rfl, Nat.le_of_ble_eq_true rfl⟩) (fun r3 qr3 => ?_)
        have qr3 : r3 = x_hIf N k (x_rate M) := qr3
        subst qr3
        refine r_ast (f := m_lh N) (j := k) (v := x_hIf N k (x_rate M)) hx hb hK hP hD hS 5 0 rfl rfl (by omega) (by omega) dX0_billLines_26 (fun H locs hP hD hS => ?_)
        have hP : va_P D vwCl (w0 h cA (s_lh N (upd (m_lh N) k (x_hIf N k (x_rate M))))) H := hP
        have hD : va_D A (w0 h cA (s_lh N (upd (m_lh N) k (x_hIf N k (x_rate M))))) := hD
        refine lv_aload_n hx hb dX0_billLines_27 rfl (lv_at hl 0 rfl) ?_
        refine va_get (D := D) (ci := 0) (v := .ref (h 4)) (C := RX0) (T := TX0) (N := 15) hx hb hts hin0 hown hK hP 0 rfl rfl 3 (by decide) kw2 (fun _ h9 => h9) rfl dX0_billLines_28 ?_
        refine lv_iload_n hx hb dX0_billLines_31 rfl (lv_at hl 2 rfl) ?_
        refine lv_aload_n hx hb dX0_billLines_32 rfl (lv_at hl 0 rfl) ?_
        refine va_get (D := D) (ci := 0) (v := .ref (h 2)) (C := RX0) (T := TX0) (N := 15) hx hb hts hin0 hown hK hP 0 rfl rfl 1 (by decide) kw3 (fun _ h9 => h9) rfl dX0_billLines_33 ?_
        refine lv_iload_n hx hb dX0_billLines_36 rfl (lv_at hl 2 rfl) ?_
        refine r_ald (f := m_le N) (j := k) hx hb hK hP 2 0 rfl rfl (by omega) (by omega) dX0_billLines_37 ?_
        refine r_ast (f := m_lb N) (j := k) (v := (m_le N) k) hx hb hK hP hD hS 4 0 rfl rfl (by omega) (by omega) dX0_billLines_38 (fun H locs hP hD hS => ?_)
        have hP : va_P D vwCl (w0 h cA (s_lb (s_lh N (upd (m_lh N) k (x_hIf N k (x_rate M)))) (upd (m_lb N) k ((m_le N) k)))) H := hP
        have hD : va_D A (w0 h cA (s_lb (s_lh N (upd (m_lh N) k (x_hIf N k (x_rate M)))) (upd (m_lb N) k ((m_le N) k)))) := hD
        refine lv_iinc (v := nI (k + 1)) (lv' := [(2, .int (nI (k + 1))), (0, .ref (h 0)), (1, .int (x_rate M))]) hx hb dX0_billLines_39 hl (k := 2) rfl (nI_1 _) (by decide) rfl (fun ls hl => ?_)
        refine lv_goto (tgt := 7) hx hb dX0_billLines_42 (by decide) ?_
        exact ih (k + 1) (s_lb (s_lh N (upd (m_lh N) k (x_hIf N k (x_rate M)))) (upd (m_lb N) k ((m_le N) k))) (by omega) (by rw [eN]; rfl) hN hNl (by omega) _ _ hP hD hS ls (lv_sub hl [1, 2, 0] rfl)
  exact loop (m_ln M + 1) 0 M (Nat.zero_le _) rfl hM rfl (by omega) _ _ hP hD hS ls (lv_sub hl [2, 1, 0] rfl)
set_option maxHeartbeats 4000000 in
set_option maxRecDepth 100000 in
theorem c0_hold (l : Launch) (D : va_G) (h : Nat → Nat) (cA : ClassId) (M : MM) (hM : OKM M) (v9 : Int32) (hv : v9 = 0 ∨ v9 = 1) (hh : m_hb M = 0 ∨ m_hb M = 1) (sz : Nat) : Met l yX0_hold wsX0_hold ({ frames := 0, cells := 0, slots := 0, locals := 0 } : Room) (va_Pc [.ref (h 0), .int v9] (pW D [(cA, .int)] (w0 h cA M) sz)) (va_Qi (fun (r : Int32) (u : MM) => r = m_hb M ∧ u = s_hb M v9) (fun u => qW D (va_A (w0 h cA M) sz) (w0 h cA u)) (va_A (w0 h cA M) sz)) 0 0 (va_A (w0 h cA M) sz) := by
  refine Met.ofW (cc := cX0_hold) (maxL := 3) (ret := (some .boolean)) (by decide) rfl ?_
  intro p e s m args below meth c s₁ B hml hv
  obtain ⟨rfl, hsz, hP, hK, hD0⟩ := hv
  have hx := B.exec
  have hb := B.bytes
  have hr := B.returns
  have hts := atoms_spec (ws := wsX0_hold) B.pre
  have hown : s.vm.findClass RX0 = some m.cls := findClass_of_methodNamed B.named
  have hlocks := B.notSynchronized
  have kw0 := hts (.fieldLink RX0 94 "ProgressBilling" "holdsByIncrease" "Z") (by decide +kernel)
  have hin0 : ∀ w ∈ u_ws RX0 TX0 15, w ∈ wsX0_hold := by decide +kernel
  subst hsz
  have hD := hD0.self (sz := s.heap.size)
  generalize hAe : va_A (w0 h cA M) s.heap.size = A at hD ⊢
  have hA : ∀ q : Nat, s.heap.size ≤ q → A q := fun q h => by rw [← hAe]; exact Or.inr h
  have hS : va_S A s.heap s.heap [] := va_S.rf
  have hP : va_P D vwCl (w0 h cA M) s.heap := hP
  obtain ⟨hn1, hn2, hn3, hn4⟩ := id hM
  have hl := lv_entry ([.ref (h 0), .int v9]) (n := 3) (Nat.le_of_ble_eq_true rfl)
  rw [lg_entry_eq]
  generalize (lg_sl ([.ref (h 0), .int v9]) ++ List.replicate (3 - (lg_sl ([.ref (h 0), .int v9])).length) Slot.unset).toArray = ls at hl ⊢
  have hl : lv_has ls 3 [(0, .ref (h 0)), (1, .int v9)] := hl
  refine w_abs (fun Q hQ => ?_)
  refine lv_aload_n hx hb dX0_hold_0 rfl (lv_at hl 0 rfl) ?_
  refine va_get (D := D) (ci := 0) (v := .int (m_hb M)) (C := RX0) (T := TX0) (N := 15) hx hb hts hin0 hown hK hP 0 rfl rfl 9 (by decide) kw0 (fun _ h9 => h9) rfl dX0_hold_1 ?_
  refine lv_istore_n (lv' := [(2, .int (m_hb M)), (0, .ref (h 0)), (1, .int v9)]) hx hb dX0_hold_4 rfl hl (by decide) rfl (fun ls hl => ?_)
  refine lv_aload_n hx hb dX0_hold_5 rfl (lv_at hl 1 rfl) ?_
  refine lv_iload_n hx hb dX0_hold_6 rfl (lv_at hl 2 rfl) ?_
  refine va_put (D := D) (ci := 0) (v := .int v9) (ty := .boolean) (C := RX0) (T := TX0) (N := 15) hx hb hts hin0 tyX0 tyX0_ok nmX0 hown hK hP hD hS 0 rfl rfl 9 (by decide) kw0 (fun _ h9 => h9) rfl (by decide +kernel) (by rcases hv with rfl | rfl <;> rfl) (by rcases hv with rfl | rfl <;> rfl) (Nat.le_of_ble_eq_true rfl) dX0_hold_7 (fun H locs hP hD hS => ?_)
  have hP : va_P D vwCl (w0 h cA (s_hb M v9)) H := hP
  have hD : va_D A (w0 h cA (s_hb M v9)) := hD
  refine lv_iload_n hx hb dX0_hold_10 rfl (lv_at hl 0 rfl) ?_
  subst hQ
  exact W.zret (v := m_hb M) (ty := .boolean) hx hb hr (by rcases hh with z | z <;> rw [z] <;> rfl) (fun t ht hW => ⟨⟨m_hb M, s_hb M v9, rfl, ⟨rfl, rfl⟩, by rw [ht]; exact hP, hD⟩, hS.F ht⟩) hS.2.2 dX0_hold_11
set_option maxHeartbeats 4000000 in
set_option maxRecDepth 100000 in
theorem c0_addStep (l : Launch) (hlt : l.stackTraces = false) (D : va_G) (h : Nat → Nat) (cA : ClassId) (M : MM) (hM : OKM M) (t9 r9 : Int32) (sz : Nat) : vx_Met l yX0_addStep wsX0_addStep ({ frames := 6, cells := 1, slots := 6, locals := 90 } : Room) (va_Pc [.ref (h 0), .int t9, .int r9] (fun U => pW D [(cA, .int)] (w0 h cA M) sz U ∧ x_En U)) (va_Qv (fun (u : MM) => ¬ m_sn M = 6 ∧ u = s_sn (s_sr (s_st M (upd (m_st M) (m_sn M) t9)) (upd (m_sr M) (m_sn M) r9)) (m_sn M + 1)) (fun u => qW D (va_A (w0 h cA M) sz) (w0 h cA u)) (va_A (w0 h cA M) sz)) (g_X (fun E : String => E = E_is ∧ m_sn M = 6)) 1 6 (va_A (w0 h cA M) sz) := by
  refine vx_ofW (cc := cX0_addStep) (maxL := 3) (ret := none) (by decide) rfl ?_
  intro p e s m args below meth c s₁ B hml htab hv
  obtain ⟨rfl, ⟨hsz, hP, hK, hD0⟩, hE⟩ := hv
  have hx := B.exec
  have hb := B.bytes
  have hr := B.returns
  have hts := atoms_spec (ws := wsX0_addStep) B.pre
  have hown : s.vm.findClass RX0 = some m.cls := findClass_of_methodNamed B.named
  have hlocks := B.notSynchronized
  have kw0 := hts (.fieldLink RX0 43 "ProgressBilling" "stepCount" "I") (by decide +kernel)
  have kw1 := hts (.fieldLink RX0 25 "ProgressBilling" "stepThreshold" "[I") (by decide +kernel)
  have kw2 := hts (.fieldLink RX0 28 "ProgressBilling" "stepRate" "[I") (by decide +kernel)
  have hin0 : ∀ w ∈ u_ws RX0 TX0 15, w ∈ wsX0_addStep := by decide +kernel
  have ht_is : ∀ w ∈ t_is, w ∈ wsX0_addStep := by decide +kernel
  subst hsz
  have hD := hD0.self (sz := s.heap.size)
  generalize hAe : va_A (w0 h cA M) s.heap.size = A at hD ⊢
  have hA : ∀ q : Nat, s.heap.size ≤ q → A q := fun q h => by rw [← hAe]; exact Or.inr h
  have hS : va_S A s.heap s.heap [] := va_S.rf
  have hP : va_P D vwCl (w0 h cA M) s.heap := hP
  obtain ⟨hn1, hn2, hn3, hn4⟩ := id hM
  have hl := lv_entry ([.ref (h 0), .int t9, .int r9]) (n := 3) (Nat.le_of_ble_eq_true rfl)
  rw [lg_entry_eq]
  generalize (lg_sl ([.ref (h 0), .int t9, .int r9]) ++ List.replicate (3 - (lg_sl ([.ref (h 0), .int t9, .int r9])).length) Slot.unset).toArray = ls at hl ⊢
  have hl : lv_has ls 3 [(0, .ref (h 0)), (1, .int t9), (2, .int r9)] := hl
  refine w_abs (fun Q hQ => ?_)
  refine lv_aload_n hx hb dX0_addStep_0 rfl (lv_at hl 0 rfl) ?_
  refine va_get (D := D) (ci := 0) (v := .int (nI (m_sn M))) (C := RX0) (T := TX0) (N := 15) hx hb hts hin0 hown hK hP 0 rfl rfl 8 (by decide) kw0 (fun _ h9 => h9) rfl dX0_addStep_1 ?_
  refine lv_bipush (v := 6) hx hb dX0_addStep_4 (by decide) ?_
  refine lv_icmp_lt (tgt := 19) hx hb dX0_addStep_6 (by decide) (fun c1 => ?_) (fun c1 => ?_)
  · have c1 := k_lt (a := (m_sn M)) (b := 6) (by omega) (by omega) c1
    refine lv_aload_n hx hb dX0_addStep_19 rfl (lv_at hl 0 rfl) ?_
    refine va_get (D := D) (ci := 0) (v := .ref (h 6)) (C := RX0) (T := TX0) (N := 15) hx hb hts hin0 hown hK hP 0 rfl rfl 6 (by decide) kw1 (fun _ h9 => h9) rfl dX0_addStep_20 ?_
    refine lv_aload_n hx hb dX0_addStep_23 rfl (lv_at hl 0 rfl) ?_
    refine va_get (D := D) (ci := 0) (v := .int (nI (m_sn M))) (C := RX0) (T := TX0) (N := 15) hx hb hts hin0 hown hK hP 0 rfl rfl 8 (by decide) kw0 (fun _ h9 => h9) rfl dX0_addStep_24 ?_
    refine lv_iload_n hx hb dX0_addStep_27 rfl (lv_at hl 1 rfl) ?_
    refine r_ast (f := m_st M) (j := (m_sn M)) (v := t9) hx hb hK hP hD hS 6 0 rfl rfl (by omega) (by omega) dX0_addStep_28 (fun H locs hP hD hS => ?_)
    have hP : va_P D vwCl (w0 h cA (s_st M (upd (m_st M) (m_sn M) t9))) H := hP
    have hD : va_D A (w0 h cA (s_st M (upd (m_st M) (m_sn M) t9))) := hD
    refine lv_aload_n hx hb dX0_addStep_29 rfl (lv_at hl 0 rfl) ?_
    refine va_get (D := D) (ci := 0) (v := .ref (h 7)) (C := RX0) (T := TX0) (N := 15) hx hb hts hin0 hown hK hP 0 rfl rfl 7 (by decide) kw2 (fun _ h9 => h9) rfl dX0_addStep_30 ?_
    refine lv_aload_n hx hb dX0_addStep_33 rfl (lv_at hl 0 rfl) ?_
    refine va_get (D := D) (ci := 0) (v := .int (nI (m_sn M))) (C := RX0) (T := TX0) (N := 15) hx hb hts hin0 hown hK hP 0 rfl rfl 8 (by decide) kw0 (fun _ h9 => h9) rfl dX0_addStep_34 ?_
    refine lv_iload_n hx hb dX0_addStep_37 rfl (lv_at hl 2 rfl) ?_
    refine r_ast (f := m_sr M) (j := (m_sn M)) (v := r9) hx hb hK hP hD hS 7 0 rfl rfl (by omega) (by omega) dX0_addStep_38 (fun H locs hP hD hS => ?_)
    have hP : va_P D vwCl (w0 h cA (s_sr (s_st M (upd (m_st M) (m_sn M) t9)) (upd (m_sr M) (m_sn M) r9))) H := hP
    have hD : va_D A (w0 h cA (s_sr (s_st M (upd (m_st M) (m_sn M) t9)) (upd (m_sr M) (m_sn M) r9))) := hD
    refine lv_aload_n hx hb dX0_addStep_39 rfl (lv_at hl 0 rfl) ?_
    refine lv_dup hx hb dX0_addStep_40 rfl ?_
    refine va_get (D := D) (ci := 0) (v := .int (nI (m_sn M))) (C := RX0) (T := TX0) (N := 15) hx hb hts hin0 hown hK hP 0 rfl rfl 8 (by decide) kw0 (fun _ h9 => h9) rfl dX0_addStep_41 ?_
    refine lv_iconst (v := 1) hx hb dX0_addStep_44 (by decide) ?_
    refine lv_iadd hx hb dX0_addStep_45 ?_
    refine lv_topi (fun y2 ey2 => ?_)
    obtain rfl : y2 = nI ((m_sn M) + 1) := ey2.trans (nI_1 _)
    refine va_put (D := D) (ci := 0) (v := .int (nI ((m_sn M) + 1))) (ty := .int) (C := RX0) (T := TX0) (N := 15) hx hb hts hin0 tyX0 tyX0_ok nmX0 hown hK hP hD hS 0 rfl rfl 8 (by decide) kw0 (fun _ h9 => h9) rfl (by decide +kernel) rfl rfl (Nat.le_of_ble_eq_true rfl) dX0_addStep_46 (fun H locs hP hD hS => ?_)
    have hP : va_P D vwCl (w0 h cA (s_sn (s_sr (s_st M (upd (m_st M) (m_sn M) t9)) (upd (m_sr M) (m_sn M) r9)) ((m_sn M) + 1))) H := hP
    have hD : va_D A (w0 h cA (s_sn (s_sr (s_st M (upd (m_st M) (m_sn M) t9)) (upd (m_sr M) (m_sn M) r9)) ((m_sn M) + 1))) := hD
    subst hQ
    refine vx_ret ?_
    refine W.widen (k := 1) (n := 6) (by decide) (by decide) ?_
    exact W.vret hx hb hr (fun t ht hW => ⟨⟨s_sn (s_sr (s_st M (upd (m_st M) (m_sn M) t9)) (upd (m_sr M) (m_sn M) r9)) ((m_sn M) + 1), rfl, ⟨by omega, rfl⟩, by rw [ht]; exact hP, hD⟩, hS.F ht⟩) hS.2.2 dX0_addStep_49
  · have c1 := k_nlt (a := (m_sn M)) (b := 6) (by omega) (by omega) c1
    subst hQ
    exact r_is (text := "there are 6 steps") hx hb hlt hown hts ht_is hE (by decide +kernel) (hl.1.trans hml.symm) dX0_addStep_9 dX0_addStep_12 dX0_addStep_13 dX0_addStep_15 dX0_addStep_18 htab ⟨Nat.le_of_ble_eq_true rfl, Nat.le_of_ble_eq_true rfl, Nat.le_of_ble_eq_true rfl, Nat.le_of_ble_eq_true rfl⟩ hlocks ⟨rfl, by omega⟩
