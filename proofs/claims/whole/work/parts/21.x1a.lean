/-! THE REFERENCE: parts that change it -/
set_option maxHeartbeats 4000000 in
set_option maxRecDepth 100000 in
theorem c1_refused (l : Launch) (D : va_G) (h : Nat → Nat) (cA : ClassId) (rf : Int32) (M : MM) (n9 : Int32) (sz : Nat) : Met l yX1_refused wsX1_refused ({ frames := 0, cells := 0, slots := 0, locals := 0 } : Room) (va_Pc [.ref (h 0), .int n9] (pW D [(cA, .int)] (w1 h cA rf M) sz)) (va_Qi (fun (r : Int32) (u : Int32) => r = (if n9 = 0 then 0 else 1) ∧ u = n9) (fun u => qW D (va_A (w1 h cA rf M) sz) (w1 h cA u M)) (va_A (w1 h cA rf M) sz)) 0 0 (va_A (w1 h cA rf M) sz) := by
  refine Met.ofW (cc := cX1_refused) (maxL := 2) (ret := (some .boolean)) (by decide) rfl ?_
  intro p e s m args below meth c s₁ B hml hv
  obtain ⟨rfl, hsz, hP, hK, hD0⟩ := hv
  have hx := B.exec
  have hb := B.bytes
  have hr := B.returns
  have hts := atoms_spec (ws := wsX1_refused) B.pre
  have hown : s.vm.findClass RX1 = some m.cls := findClass_of_methodNamed B.named
  have hlocks := B.notSynchronized
  have kw0 := hts (.fieldLink RX1 40 "ProgressBillingModel" "refusal" "I") (by decide +kernel)
  have hin0 : ∀ w ∈ u_ws RX1 TX1 14, w ∈ wsX1_refused := by decide +kernel
  subst hsz
  have hD := hD0.self (sz := s.heap.size)
  generalize hAe : va_A (w1 h cA rf M) s.heap.size = A at hD ⊢
  have hA : ∀ q : Nat, s.heap.size ≤ q → A q := fun q h => by rw [← hAe]; exact Or.inr h
  have hS : va_S A s.heap s.heap [] := va_S.rf
  have hP : va_P D vwCl (w1 h cA rf M) s.heap := hP
  have hl := lv_entry ([.ref (h 0), .int n9]) (n := 2) (Nat.le_of_ble_eq_true rfl)
  rw [lg_entry_eq]
  generalize (lg_sl ([.ref (h 0), .int n9]) ++ List.replicate (2 - (lg_sl ([.ref (h 0), .int n9])).length) Slot.unset).toArray = ls at hl ⊢
  have hl : lv_has ls 2 [(0, .ref (h 0)), (1, .int n9)] := hl
  refine w_abs (fun Q hQ => ?_)
  refine lv_aload_n hx hb dX1_refused_0 rfl (lv_at hl 0 rfl) ?_
  refine lv_iload_n hx hb dX1_refused_1 rfl (lv_at hl 1 rfl) ?_
  refine va_put (D := D) (ci := 1) (v := .int n9) (ty := .int) (C := RX1) (T := TX1) (N := 14) hx hb hts hin0 tyX1 tyX1_ok nmX1 hown hK hP hD hS 0 rfl rfl 0 (by decide) kw0 (fun _ h9 => h9) rfl (by decide +kernel) rfl rfl (Nat.le_of_ble_eq_true rfl) dX1_refused_2 (fun H locs hP hD hS => ?_)
  rw [q1_rf] at hP hD
  refine lv_iload_n hx hb dX1_refused_5 rfl (lv_at hl 1 rfl) ?_
  refine lv_if_eq (tgt := 13) hx hb dX1_refused_6 (by decide) (fun c1 => ?_) (fun c1 => ?_)
  · refine lv_iconst (v := 0) hx hb dX1_refused_13 (by decide) ?_
    subst hQ
    exact W.zret (v := 0) (ty := .boolean) hx hb hr rfl (fun t ht hW => ⟨⟨0, n9, rfl, ⟨by rw [if_pos c1], rfl⟩, by rw [ht]; exact hP, hD⟩, hS.F ht⟩) hS.2.2 dX1_refused_14
  · refine lv_iconst (v := 1) hx hb dX1_refused_9 (by decide) ?_
    refine lv_goto (tgt := 14) hx hb dX1_refused_10 (by decide) ?_
    subst hQ
    exact W.zret (v := 1) (ty := .boolean) hx hb hr rfl (fun t ht hW => ⟨⟨1, n9, rfl, ⟨by rw [if_neg c1], rfl⟩, by rw [ht]; exact hP, hD⟩, hS.F ht⟩) hS.2.2 dX1_refused_14
set_option maxHeartbeats 4000000 in
set_option maxRecDepth 100000 in
theorem c1_fine (l : Launch) (D : va_G) (h : Nat → Nat) (cA : ClassId) (rf : Int32) (M : MM) (n9 : Int32) (sz : Nat) : Met l yX1_fine wsX1_fine ({ frames := 0, cells := 0, slots := 0, locals := 0 } : Room) (va_Pc [.ref (h 0), .int n9] (pW D [(cA, .int)] (w1 h cA rf M) sz)) (va_Qi (fun (r : Int32) (u : Int32) => r = n9 ∧ u = 0) (fun u => qW D (va_A (w1 h cA rf M) sz) (w1 h cA u M)) (va_A (w1 h cA rf M) sz)) 0 0 (va_A (w1 h cA rf M) sz) := by
  refine Met.ofW (cc := cX1_fine) (maxL := 2) (ret := (some .int)) (by decide) rfl ?_
  intro p e s m args below meth c s₁ B hml hv
  obtain ⟨rfl, hsz, hP, hK, hD0⟩ := hv
  have hx := B.exec
  have hb := B.bytes
  have hr := B.returns
  have hts := atoms_spec (ws := wsX1_fine) B.pre
  have hown : s.vm.findClass RX1 = some m.cls := findClass_of_methodNamed B.named
  have hlocks := B.notSynchronized
  have kw0 := hts (.fieldLink RX1 40 "ProgressBillingModel" "refusal" "I") (by decide +kernel)
  have hin0 : ∀ w ∈ u_ws RX1 TX1 14, w ∈ wsX1_fine := by decide +kernel
  subst hsz
  have hD := hD0.self (sz := s.heap.size)
  generalize hAe : va_A (w1 h cA rf M) s.heap.size = A at hD ⊢
  have hA : ∀ q : Nat, s.heap.size ≤ q → A q := fun q h => by rw [← hAe]; exact Or.inr h
  have hS : va_S A s.heap s.heap [] := va_S.rf
  have hP : va_P D vwCl (w1 h cA rf M) s.heap := hP
  have hl := lv_entry ([.ref (h 0), .int n9]) (n := 2) (Nat.le_of_ble_eq_true rfl)
  rw [lg_entry_eq]
  generalize (lg_sl ([.ref (h 0), .int n9]) ++ List.replicate (2 - (lg_sl ([.ref (h 0), .int n9])).length) Slot.unset).toArray = ls at hl ⊢
  have hl : lv_has ls 2 [(0, .ref (h 0)), (1, .int n9)] := hl
  refine w_abs (fun Q hQ => ?_)
  refine lv_aload_n hx hb dX1_fine_0 rfl (lv_at hl 0 rfl) ?_
  refine lv_iconst (v := 0) hx hb dX1_fine_1 (by decide) ?_
  refine va_put (D := D) (ci := 1) (v := .int 0) (ty := .int) (C := RX1) (T := TX1) (N := 14) hx hb hts hin0 tyX1 tyX1_ok nmX1 hown hK hP hD hS 0 rfl rfl 0 (by decide) kw0 (fun _ h9 => h9) rfl (by decide +kernel) rfl rfl (Nat.le_of_ble_eq_true rfl) dX1_fine_2 (fun H locs hP hD hS => ?_)
  rw [q1_rf] at hP hD
  refine lv_iload_n hx hb dX1_fine_5 rfl (lv_at hl 1 rfl) ?_
  subst hQ
  exact W.iret (v := n9) hx hb hr (fun t ht hW => ⟨⟨n9, 0, rfl, ⟨rfl, rfl⟩, by rw [ht]; exact hP, hD⟩, hS.F ht⟩) hS.2.2 dX1_fine_6
set_option maxHeartbeats 4000000 in
set_option maxRecDepth 100000 in
theorem c1_noLine (l : Launch) (D : va_G) (h : Nat → Nat) (cA : ClassId) (rf : Int32) (M : MM) (hM : OK1 M) (x : Int32) (sz : Nat) : Met l yX1_noLine wsX1_noLine ({ frames := 2, cells := 0, slots := 0, locals := 43 } : Room) (va_Pc [.ref (h 0), .int x] (pW D [(cA, .int)] (w1 h cA rf M) sz)) (va_Qi (fun (r : Int32) (u : Int32) => r = (if (ixL (m_ln M) x).isSome = true then 0 else 1) ∧ u = (if (ixL (m_ln M) x).isSome = true then 0 else 1)) (fun u => qW D (va_A (w1 h cA rf M) sz) (w1 h cA u M)) (va_A (w1 h cA rf M) sz)) 0 0 (va_A (w1 h cA rf M) sz) := by
  refine Met.ofW (cc := cX1_noLine) (maxL := 2) (ret := (some .boolean)) (by decide) rfl ?_
  intro p e s m args below meth c s₁ B hml hv
  obtain ⟨rfl, hsz, hP, hK, hD0⟩ := hv
  have hx := B.exec
  have hb := B.bytes
  have hr := B.returns
  have hts := atoms_spec (ws := wsX1_noLine) B.pre
  have hown : s.vm.findClass RX1 = some m.cls := findClass_of_methodNamed B.named
  have hlocks := B.notSynchronized
  subst hsz
  have hD := hD0.self (sz := s.heap.size)
  generalize hAe : va_A (w1 h cA rf M) s.heap.size = A at hD ⊢
  have hA : ∀ q : Nat, s.heap.size ≤ q → A q := fun q h => by rw [← hAe]; exact Or.inr h
  have hS : va_S A s.heap s.heap [] := va_S.rf
  have hP : va_P D vwCl (w1 h cA rf M) s.heap := hP
  obtain ⟨hn1, hn4⟩ := id hM
  have hl := lv_entry ([.ref (h 0), .int x]) (n := 2) (Nat.le_of_ble_eq_true rfl)
  rw [lg_entry_eq]
  generalize (lg_sl ([.ref (h 0), .int x]) ++ List.replicate (2 - (lg_sl ([.ref (h 0), .int x])).length) Slot.unset).toArray = ls at hl ⊢
  have hl : lv_has ls 2 [(0, .ref (h 0)), (1, .int x)] := hl
  refine w_abs (fun Q hQ => ?_)
  refine lv_aload_n hx hb dX1_noLine_0 rfl (lv_at hl 0 rfl) ?_
  refine lv_aload_n hx hb dX1_noLine_1 rfl (lv_at hl 0 rfl) ?_
  refine lv_iload_n hx hb dX1_noLine_2 rfl (lv_at hl 1 rfl) ?_
  refine vp_callSi (W.runV (As := [.int x]) (rest := [.ref (h 0)]) ⟨hx, hb, hml, hown, hts⟩ (c1_isLine l D h cA rf M hM x) (cwV 1 hts gX1_noLine_X1_isLine rfl rfl rfl (by decide +kernel) ⟨Nat.le_of_ble_eq_true rfl, Nat.le_of_ble_eq_true rfl⟩) ⟨pR_fb, va_recv hK hP (ci := 1) (q0 := 0) rfl rfl, pR_mk hP hK⟩ rfl rfl hl.1 rfl (lv_room (Nat.le_of_ble_eq_true rfl)) dX1_noLine_3 ⟨Nat.le_of_ble_eq_true rfl, Nat.le_of_ble_eq_true rfl⟩) (fun r1 qr1 => ?_)
  rcases ixL_c (n := m_ln M) (x := x) (by omega) with hix | ⟨j, hj, ex, hix⟩
  · have qr1 : r1 = 0 := by rw [qr1, hix]; rfl
    subst qr1
    refine lv_if_eq (tgt := 13) hx hb dX1_noLine_6 (by decide) (fun c2 => ?_) (fun c2 => ?_)
    · refine lv_iconst (v := 1) hx hb dX1_noLine_13 (by decide) ?_
      refine g_calliS (wf := fun u : Int32 => w1 h cA u M) (va_runV (As := [.int 1]) (rest := []) ⟨hx, hb, hml, hown, hts⟩ (c1_refused l D h cA rf M 1 s.heap.size) (cwV 1 hts gX1_noLine_X1_refused rfl rfl rfl (by decide +kernel) ⟨Nat.le_of_ble_eq_true rfl, Nat.le_of_ble_eq_true rfl⟩) ⟨pW_fb, va_recv hK hP (ci := 1) (q0 := 0) rfl rfl, pW_mk hP hK hD⟩ rfl rfl hl.1 rfl (lv_room (Nat.le_of_ble_eq_true rfl)) dX1_noLine_14 ⟨Nat.le_of_ble_eq_true rfl, Nat.le_of_ble_eq_true rfl⟩) hP hD hS hA (fun r3 ur3 H locs qr3 hP hD hS => ?_)
      obtain ⟨qr3, eur3⟩ := qr3
      have qr3 : r3 = 1 := qr3
      subst qr3
      have eur3 : ur3 = 1 := eur3
      subst eur3
      subst hQ
      exact W.zret (v := 1) (ty := .boolean) hx hb hr rfl (fun t ht hW => ⟨⟨1, 1, rfl, ⟨by rw [hix]; rfl, by rw [hix]; rfl⟩, by rw [ht]; exact hP, hD⟩, hS.F ht⟩) hS.2.2 dX1_noLine_17
    · exact absurd c2 (by decide)
  · have qr1 : r1 = 1 := by rw [qr1, hix]; rfl
    subst qr1
    subst ex
    refine lv_if_eq (tgt := 13) hx hb dX1_noLine_6 (by decide) (fun c4 => ?_) (fun c4 => ?_)
    · exact absurd c4 (by decide)
    · refine lv_iconst (v := 0) hx hb dX1_noLine_9 (by decide) ?_
      refine lv_goto (tgt := 14) hx hb dX1_noLine_10 (by decide) ?_
      refine g_calliS (wf := fun u : Int32 => w1 h cA u M) (va_runV (As := [.int 0]) (rest := []) ⟨hx, hb, hml, hown, hts⟩ (c1_refused l D h cA rf M 0 s.heap.size) (cwV 1 hts gX1_noLine_X1_refused rfl rfl rfl (by decide +kernel) ⟨Nat.le_of_ble_eq_true rfl, Nat.le_of_ble_eq_true rfl⟩) ⟨pW_fb, va_recv hK hP (ci := 1) (q0 := 0) rfl rfl, pW_mk hP hK hD⟩ rfl rfl hl.1 rfl (lv_room (Nat.le_of_ble_eq_true rfl)) dX1_noLine_14 ⟨Nat.le_of_ble_eq_true rfl, Nat.le_of_ble_eq_true rfl⟩) hP hD hS hA (fun r5 ur5 H locs qr5 hP hD hS => ?_)
      obtain ⟨qr5, eur5⟩ := qr5
      have qr5 : r5 = 0 := qr5
      subst qr5
      have eur5 : ur5 = 0 := eur5
      subst eur5
      subst hQ
      exact W.zret (v := 0) (ty := .boolean) hx hb hr rfl (fun t ht hW => ⟨⟨0, 0, rfl, ⟨by rw [hix]; rfl, by rw [hix]; rfl⟩, by rw [ht]; exact hP, hD⟩, hS.F ht⟩) hS.2.2 dX1_noLine_17
set_option maxHeartbeats 4000000 in
set_option maxRecDepth 100000 in
theorem c1_told (l : Launch) (D : va_G) (h : Nat → Nat) (cA : ClassId) (rf : Int32) (M : MM) (hM : OK1 M) (x : Int32) (c9 : Nat) (f : FF) (hc9 : ∀ z : Int32, (w1 h cA z M)[c9]? = some (h c9, .inl (cA, 60, .inl f))) (sz : Nat) : Met l yX1_told wsX1_told ({ frames := 2, cells := 0, slots := 0, locals := 43 } : Room) (va_Pc [.ref (h 0), .int x, .ref (h c9)] (pW D [(cA, .int)] (w1 h cA rf M) sz)) (va_Qi (fun (r : Int32) (u : Int32) => (ixL (m_an M) x = none ∧ r = 0 ∧ u = 1) ∨ (∃ j : Nat, ixL (m_an M) x = some j ∧ r = f j ∧ u = 0)) (fun u => qW D (va_A (w1 h cA rf M) sz) (w1 h cA u M)) (va_A (w1 h cA rf M) sz)) 0 0 (va_A (w1 h cA rf M) sz) := by
  refine Met.ofW (cc := cX1_told) (maxL := 3) (ret := (some .int)) (by decide) rfl ?_
  intro p e s m args below meth c s₁ B hml hv
  obtain ⟨rfl, hsz, hP, hK, hD0⟩ := hv
  have hx := B.exec
  have hb := B.bytes
  have hr := B.returns
  have hts := atoms_spec (ws := wsX1_told) B.pre
  have hown : s.vm.findClass RX1 = some m.cls := findClass_of_methodNamed B.named
  have hlocks := B.notSynchronized
  subst hsz
  have hD := hD0.self (sz := s.heap.size)
  generalize hAe : va_A (w1 h cA rf M) s.heap.size = A at hD ⊢
  have hA : ∀ q : Nat, s.heap.size ≤ q → A q := fun q h => by rw [← hAe]; exact Or.inr h
  have hS : va_S A s.heap s.heap [] := va_S.rf
  have hP : va_P D vwCl (w1 h cA rf M) s.heap := hP
  obtain ⟨hn1, hn4⟩ := id hM
  have hl := lv_entry ([.ref (h 0), .int x, .ref (h c9)]) (n := 3) (Nat.le_of_ble_eq_true rfl)
  rw [lg_entry_eq]
  generalize (lg_sl ([.ref (h 0), .int x, .ref (h c9)]) ++ List.replicate (3 - (lg_sl ([.ref (h 0), .int x, .ref (h c9)])).length) Slot.unset).toArray = ls at hl ⊢
  have hl : lv_has ls 3 [(0, .ref (h 0)), (1, .int x), (2, .ref (h c9))] := hl
  refine w_abs (fun Q hQ => ?_)
  refine lv_aload_n hx hb dX1_told_0 rfl (lv_at hl 0 rfl) ?_
  refine lv_aload_n hx hb dX1_told_1 rfl (lv_at hl 0 rfl) ?_
  refine lv_iload_n hx hb dX1_told_2 rfl (lv_at hl 1 rfl) ?_
  refine vp_callSi (W.runV (As := [.int x]) (rest := [.ref (h 0)]) ⟨hx, hb, hml, hown, hts⟩ (c1_isApplication l D h cA rf M hM x) (cwV 1 hts gX1_told_X1_isApplication rfl rfl rfl (by decide +kernel) ⟨Nat.le_of_ble_eq_true rfl, Nat.le_of_ble_eq_true rfl⟩) ⟨pR_fb, va_recv hK hP (ci := 1) (q0 := 0) rfl rfl, pR_mk hP hK⟩ rfl rfl hl.1 rfl (lv_room (Nat.le_of_ble_eq_true rfl)) dX1_told_3 ⟨Nat.le_of_ble_eq_true rfl, Nat.le_of_ble_eq_true rfl⟩) (fun r1 qr1 => ?_)
  rcases ixL_c (n := m_an M) (x := x) (by omega) with hix | ⟨j, hj, ex, hix⟩
  · have qr1 : r1 = 0 := by rw [qr1, hix]; rfl
    subst qr1
    refine lv_if_eq (tgt := 13) hx hb dX1_told_6 (by decide) (fun c2 => ?_) (fun c2 => ?_)
    · refine lv_iconst (v := 1) hx hb dX1_told_13 (by decide) ?_
      refine g_calliS (wf := fun u : Int32 => w1 h cA u M) (va_runV (As := [.int 1]) (rest := []) ⟨hx, hb, hml, hown, hts⟩ (c1_refused l D h cA rf M 1 s.heap.size) (cwV 1 hts gX1_told_X1_refused rfl rfl rfl (by decide +kernel) ⟨Nat.le_of_ble_eq_true rfl, Nat.le_of_ble_eq_true rfl⟩) ⟨pW_fb, va_recv hK hP (ci := 1) (q0 := 0) rfl rfl, pW_mk hP hK hD⟩ rfl rfl hl.1 rfl (lv_room (Nat.le_of_ble_eq_true rfl)) dX1_told_14 ⟨Nat.le_of_ble_eq_true rfl, Nat.le_of_ble_eq_true rfl⟩) hP hD hS hA (fun r3 ur3 H locs qr3 hP hD hS => ?_)
      obtain ⟨qr3, eur3⟩ := qr3
      have qr3 : r3 = 1 := qr3
      subst qr3
      have eur3 : ur3 = 1 := eur3
      subst eur3
      refine lv_if_eq (tgt := 24) hx hb dX1_told_17 (by decide) (fun c4 => ?_) (fun c4 => ?_)
      · exact absurd c4 (by decide)
      · refine lv_iconst (v := 0) hx hb dX1_told_20 (by decide) ?_
        refine lv_goto (tgt := 27) hx hb dX1_told_21 (by decide) ?_
        subst hQ
        exact W.iret (v := 0) hx hb hr (fun t ht hW => ⟨⟨0, 1, rfl, (Or.inl ⟨hix, rfl, rfl⟩), by rw [ht]; exact hP, hD⟩, hS.F ht⟩) hS.2.2 dX1_told_27
    · exact absurd c2 (by decide)
  · have qr1 : r1 = 1 := by rw [qr1, hix]; rfl
    subst qr1
    subst ex
    refine lv_if_eq (tgt := 13) hx hb dX1_told_6 (by decide) (fun c5 => ?_) (fun c5 => ?_)
    · exact absurd c5 (by decide)
    · refine lv_iconst (v := 0) hx hb dX1_told_9 (by decide) ?_
      refine lv_goto (tgt := 14) hx hb dX1_told_10 (by decide) ?_
      refine g_calliS (wf := fun u : Int32 => w1 h cA u M) (va_runV (As := [.int 0]) (rest := []) ⟨hx, hb, hml, hown, hts⟩ (c1_refused l D h cA rf M 0 s.heap.size) (cwV 1 hts gX1_told_X1_refused rfl rfl rfl (by decide +kernel) ⟨Nat.le_of_ble_eq_true rfl, Nat.le_of_ble_eq_true rfl⟩) ⟨pW_fb, va_recv hK hP (ci := 1) (q0 := 0) rfl rfl, pW_mk hP hK hD⟩ rfl rfl hl.1 rfl (lv_room (Nat.le_of_ble_eq_true rfl)) dX1_told_14 ⟨Nat.le_of_ble_eq_true rfl, Nat.le_of_ble_eq_true rfl⟩) hP hD hS hA (fun r6 ur6 H locs qr6 hP hD hS => ?_)
      obtain ⟨qr6, eur6⟩ := qr6
      have qr6 : r6 = 0 := qr6
      subst qr6
      have eur6 : ur6 = 0 := eur6
      subst eur6
      refine lv_if_eq (tgt := 24) hx hb dX1_told_17 (by decide) (fun c7 => ?_) (fun c7 => ?_)
      · refine lv_aload_n hx hb dX1_told_24 rfl (lv_at hl 2 rfl) ?_
        refine lv_iload_n hx hb dX1_told_25 rfl (lv_at hl 1 rfl) ?_
        refine r_ald (f := f) (j := j) hx hb hK hP c9 0 (hc9 _) rfl (by omega) (by omega) dX1_told_26 ?_
        subst hQ
        exact W.iret (v := f j) hx hb hr (fun t ht hW => ⟨⟨f j, 0, rfl, (Or.inr ⟨j, hix, rfl, rfl⟩), by rw [ht]; exact hP, hD⟩, hS.F ht⟩) hS.2.2 dX1_told_27
      · exact absurd c7 (by decide)
set_option maxHeartbeats 4000000 in
set_option maxRecDepth 100000 in
theorem c1_put (l : Launch) (D : va_G) (h : Nat → Nat) (cA : ClassId) (rf : Int32) (M : MM) (j : Nat) (hj : j < 16) (v9 o9 w9 b9 h9 : Int32) (sz : Nat) : Met l yX1_put wsX1_put ({ frames := 0, cells := 0, slots := 0, locals := 0 } : Room) (va_Pc [.ref (h 0), .int (nI j), .int v9, .int o9, .int w9, .int b9, .int h9] (pW D [(cA, .int)] (w1 h cA rf M) sz)) (va_Qv (fun (u : MM) => u = z_put M j v9 o9 w9 b9 h9) (fun u => qW D (va_A (w1 h cA rf M) sz) (w1 h cA rf u)) (va_A (w1 h cA rf M) sz)) 0 0 (va_A (w1 h cA rf M) sz) := by
  refine Met.ofW (cc := cX1_put) (maxL := 7) (ret := none) (by decide) rfl ?_
  intro p e s m args below meth c s₁ B hml hv
  obtain ⟨rfl, hsz, hP, hK, hD0⟩ := hv
  have hx := B.exec
  have hb := B.bytes
  have hr := B.returns
  have hts := atoms_spec (ws := wsX1_put) B.pre
  have hown : s.vm.findClass RX1 = some m.cls := findClass_of_methodNamed B.named
  have hlocks := B.notSynchronized
  have kw0 := hts (.fieldLink RX1 7 "ProgressBillingModel" "values" "[I") (by decide +kernel)
  have kw1 := hts (.fieldLink RX1 13 "ProgressBillingModel" "earned" "[I") (by decide +kernel)
  have kw2 := hts (.fieldLink RX1 16 "ProgressBillingModel" "works" "[I") (by decide +kernel)
  have kw3 := hts (.fieldLink RX1 19 "ProgressBillingModel" "billed" "[I") (by decide +kernel)
  have kw4 := hts (.fieldLink RX1 22 "ProgressBillingModel" "held" "[I") (by decide +kernel)
  have hin0 : ∀ w ∈ u_ws RX1 TX1 14, w ∈ wsX1_put := by decide +kernel
  subst hsz
  have hD := hD0.self (sz := s.heap.size)
  generalize hAe : va_A (w1 h cA rf M) s.heap.size = A at hD ⊢
  have hA : ∀ q : Nat, s.heap.size ≤ q → A q := fun q h => by rw [← hAe]; exact Or.inr h
  have hS : va_S A s.heap s.heap [] := va_S.rf
  have hP : va_P D vwCl (w1 h cA rf M) s.heap := hP
  have hl := lv_entry ([.ref (h 0), .int (nI j), .int v9, .int o9, .int w9, .int b9, .int h9]) (n := 7) (Nat.le_of_ble_eq_true rfl)
  rw [lg_entry_eq]
  generalize (lg_sl ([.ref (h 0), .int (nI j), .int v9, .int o9, .int w9, .int b9, .int h9]) ++ List.replicate (7 - (lg_sl ([.ref (h 0), .int (nI j), .int v9, .int o9, .int w9, .int b9, .int h9])).length) Slot.unset).toArray = ls at hl ⊢
  have hl : lv_has ls 7 [(0, .ref (h 0)), (1, .int (nI j)), (2, .int v9), (3, .int o9), (4, .int w9), (5, .int b9), (6, .int h9)] := hl
  refine w_abs (fun Q hQ => ?_)
  refine lv_aload_n hx hb dX1_put_0 rfl (lv_at hl 0 rfl) ?_
  refine va_get (D := D) (ci := 1) (v := .ref (h 1)) (C := RX1) (T := TX1) (N := 14) hx hb hts hin0 hown hK hP 0 rfl rfl 2 (by decide) kw0 (fun _ h9 => h9) rfl dX1_put_1 ?_
  refine lv_iload_n hx hb dX1_put_4 rfl (lv_at hl 1 rfl) ?_
  refine lv_iload_n hx hb dX1_put_5 rfl (lv_at hl 2 rfl) ?_
  refine r_ast (f := m_lv M) (j := j) (v := v9) hx hb hK hP hD hS 1 0 rfl rfl (by omega) (by omega) dX1_put_6 (fun H locs hP hD hS => ?_)
  obtain ⟨N1, eN1⟩ : ∃ N9 : MM, N9 = s_lv M (upd (m_lv M) j v9) := ⟨_, rfl⟩
  rw [q1_lv, ← eN1] at hP hD
  have aN1_lv : m_lv N1 = upd (m_lv M) j v9 := by rw [eN1]; rfl
  have aN1_le : m_le N1 = m_le M := by rw [eN1]; rfl
  have aN1_lw : m_lw N1 = m_lw M := by rw [eN1]; rfl
  have aN1_lb : m_lb N1 = m_lb M := by rw [eN1]; rfl
  have aN1_lh : m_lh N1 = m_lh M := by rw [eN1]; rfl
  have aN1_ln : m_ln N1 = m_ln M := by rw [eN1]; rfl
  have aN1_st : m_st N1 = m_st M := by rw [eN1]; rfl
  have aN1_sr : m_sr N1 = m_sr M := by rw [eN1]; rfl
  have aN1_sn : m_sn N1 = m_sn M := by rw [eN1]; rfl
  have aN1_rt : m_rt N1 = m_rt M := by rw [eN1]; rfl
  have aN1_hb : m_hb N1 = m_hb M := by rw [eN1]; rfl
  have aN1_as : m_as N1 = m_as M := by rw [eN1]; rfl
  have aN1_aa : m_aa N1 = m_aa M := by rw [eN1]; rfl
  have aN1_ab : m_ab N1 = m_ab M := by rw [eN1]; rfl
  have aN1_ah : m_ah N1 = m_ah M := by rw [eN1]; rfl
  have aN1_an : m_an N1 = m_an M := by rw [eN1]; rfl
  refine lv_aload_n hx hb dX1_put_7 rfl (lv_at hl 0 rfl) ?_
  refine va_get (D := D) (ci := 1) (v := .ref (h 2)) (C := RX1) (T := TX1) (N := 14) hx hb hts hin0 hown hK hP 0 rfl rfl 3 (by decide) kw1 (fun _ h9 => h9) rfl dX1_put_8 ?_
  refine lv_iload_n hx hb dX1_put_11 rfl (lv_at hl 1 rfl) ?_
  refine lv_iload_n hx hb dX1_put_12 rfl (lv_at hl 3 rfl) ?_
  refine r_ast (f := m_le N1) (j := j) (v := o9) hx hb hK hP hD hS 2 0 rfl rfl (by omega) (by omega) dX1_put_13 (fun H locs hP hD hS => ?_)
  rw [aN1_le] at hP hD
  obtain ⟨N3, eN3⟩ : ∃ N9 : MM, N9 = s_le N1 (upd (m_le M) j o9) := ⟨_, rfl⟩
  rw [q1_le, ← eN3] at hP hD
  have aN3_lv : m_lv N3 = upd (m_lv M) j v9 := by rw [eN3]; exact aN1_lv
  have aN3_le : m_le N3 = upd (m_le M) j o9 := by rw [eN3]; rfl
  have aN3_lw : m_lw N3 = m_lw M := by rw [eN3]; exact aN1_lw
  have aN3_lb : m_lb N3 = m_lb M := by rw [eN3]; exact aN1_lb
  have aN3_lh : m_lh N3 = m_lh M := by rw [eN3]; exact aN1_lh
  have aN3_ln : m_ln N3 = m_ln M := by rw [eN3]; exact aN1_ln
  have aN3_st : m_st N3 = m_st M := by rw [eN3]; exact aN1_st
  have aN3_sr : m_sr N3 = m_sr M := by rw [eN3]; exact aN1_sr
  have aN3_sn : m_sn N3 = m_sn M := by rw [eN3]; exact aN1_sn
  have aN3_rt : m_rt N3 = m_rt M := by rw [eN3]; exact aN1_rt
  have aN3_hb : m_hb N3 = m_hb M := by rw [eN3]; exact aN1_hb
  have aN3_as : m_as N3 = m_as M := by rw [eN3]; exact aN1_as
  have aN3_aa : m_aa N3 = m_aa M := by rw [eN3]; exact aN1_aa
  have aN3_ab : m_ab N3 = m_ab M := by rw [eN3]; exact aN1_ab
  have aN3_ah : m_ah N3 = m_ah M := by rw [eN3]; exact aN1_ah
  have aN3_an : m_an N3 = m_an M := by rw [eN3]; exact aN1_an
  refine lv_aload_n hx hb dX1_put_14 rfl (lv_at hl 0 rfl) ?_
  refine va_get (D := D) (ci := 1) (v := .ref (h 3)) (C := RX1) (T := TX1) (N := 14) hx hb hts hin0 hown hK hP 0 rfl rfl 4 (by decide) kw2 (fun _ h9 => h9) rfl dX1_put_15 ?_
  refine lv_iload_n hx hb dX1_put_18 rfl (lv_at hl 1 rfl) ?_
  refine lv_iload hx hb dX1_put_19 (lv_at hl 4 rfl) ?_
  refine r_ast (f := m_lw N3) (j := j) (v := w9) hx hb hK hP hD hS 3 0 rfl rfl (by omega) (by omega) dX1_put_21 (fun H locs hP hD hS => ?_)
  rw [aN3_lw] at hP hD
  obtain ⟨N5, eN5⟩ : ∃ N9 : MM, N9 = s_lw N3 (upd (m_lw M) j w9) := ⟨_, rfl⟩
  rw [q1_lw, ← eN5] at hP hD
  have aN5_lv : m_lv N5 = upd (m_lv M) j v9 := by rw [eN5]; exact aN3_lv
  have aN5_le : m_le N5 = upd (m_le M) j o9 := by rw [eN5]; exact aN3_le
  have aN5_lw : m_lw N5 = upd (m_lw M) j w9 := by rw [eN5]; rfl
  have aN5_lb : m_lb N5 = m_lb M := by rw [eN5]; exact aN3_lb
  have aN5_lh : m_lh N5 = m_lh M := by rw [eN5]; exact aN3_lh
  have aN5_ln : m_ln N5 = m_ln M := by rw [eN5]; exact aN3_ln
  have aN5_st : m_st N5 = m_st M := by rw [eN5]; exact aN3_st
  have aN5_sr : m_sr N5 = m_sr M := by rw [eN5]; exact aN3_sr
  have aN5_sn : m_sn N5 = m_sn M := by rw [eN5]; exact aN3_sn
  have aN5_rt : m_rt N5 = m_rt M := by rw [eN5]; exact aN3_rt
  have aN5_hb : m_hb N5 = m_hb M := by rw [eN5]; exact aN3_hb
  have aN5_as : m_as N5 = m_as M := by rw [eN5]; exact aN3_as
  have aN5_aa : m_aa N5 = m_aa M := by rw [eN5]; exact aN3_aa
  have aN5_ab : m_ab N5 = m_ab M := by rw [eN5]; exact aN3_ab
  have aN5_ah : m_ah N5 = m_ah M := by rw [eN5]; exact aN3_ah
  have aN5_an : m_an N5 = m_an M := by rw [eN5]; exact aN3_an
  refine lv_aload_n hx hb dX1_put_22 rfl (lv_at hl 0 rfl) ?_
  refine va_get (D := D) (ci := 1) (v := .ref (h 4)) (C := RX1) (T := TX1) (N := 14) hx hb hts hin0 hown hK hP 0 rfl rfl 5 (by decide) kw3 (fun _ h9 => h9) rfl dX1_put_23 ?_
  refine lv_iload_n hx hb dX1_put_26 rfl (lv_at hl 1 rfl) ?_
  refine lv_iload hx hb dX1_put_27 (lv_at hl 5 rfl) ?_
  refine r_ast (f := m_lb N5) (j := j) (v := b9) hx hb hK hP hD hS 4 0 rfl rfl (by omega) (by omega) dX1_put_29 (fun H locs hP hD hS => ?_)
  rw [aN5_lb] at hP hD
  obtain ⟨N7, eN7⟩ : ∃ N9 : MM, N9 = s_lb N5 (upd (m_lb M) j b9) := ⟨_, rfl⟩
  rw [q1_lb, ← eN7] at hP hD
  have aN7_lv : m_lv N7 = upd (m_lv M) j v9 := by rw [eN7]; exact aN5_lv
  have aN7_le : m_le N7 = upd (m_le M) j o9 := by rw [eN7]; exact aN5_le
  have aN7_lw : m_lw N7 = upd (m_lw M) j w9 := by rw [eN7]; exact aN5_lw
  have aN7_lb : m_lb N7 = upd (m_lb M) j b9 := by rw [eN7]; rfl
  have aN7_lh : m_lh N7 = m_lh M := by rw [eN7]; exact aN5_lh
  have aN7_ln : m_ln N7 = m_ln M := by rw [eN7]; exact aN5_ln
  have aN7_st : m_st N7 = m_st M := by rw [eN7]; exact aN5_st
  have aN7_sr : m_sr N7 = m_sr M := by rw [eN7]; exact aN5_sr
  have aN7_sn : m_sn N7 = m_sn M := by rw [eN7]; exact aN5_sn
  have aN7_rt : m_rt N7 = m_rt M := by rw [eN7]; exact aN5_rt
  have aN7_hb : m_hb N7 = m_hb M := by rw [eN7]; exact aN5_hb
  have aN7_as : m_as N7 = m_as M := by rw [eN7]; exact aN5_as
  have aN7_aa : m_aa N7 = m_aa M := by rw [eN7]; exact aN5_aa
  have aN7_ab : m_ab N7 = m_ab M := by rw [eN7]; exact aN5_ab
  have aN7_ah : m_ah N7 = m_ah M := by rw [eN7]; exact aN5_ah
  have aN7_an : m_an N7 = m_an M := by rw [eN7]; exact aN5_an
  refine lv_aload_n hx hb dX1_put_30 rfl (lv_at hl 0 rfl) ?_
  refine va_get (D := D) (ci := 1) (v := .ref (h 5)) (C := RX1) (T := TX1) (N := 14) hx hb hts hin0 hown hK hP 0 rfl rfl 6 (by decide) kw4 (fun _ h9 => h9) rfl dX1_put_31 ?_
  refine lv_iload_n hx hb dX1_put_34 rfl (lv_at hl 1 rfl) ?_
  refine lv_iload hx hb dX1_put_35 (lv_at hl 6 rfl) ?_
  refine r_ast (f := m_lh N7) (j := j) (v := h9) hx hb hK hP hD hS 5 0 rfl rfl (by omega) (by omega) dX1_put_37 (fun H locs hP hD hS => ?_)
  rw [aN7_lh] at hP hD
  obtain ⟨N9, eN9⟩ : ∃ N9 : MM, N9 = s_lh N7 (upd (m_lh M) j h9) := ⟨_, rfl⟩
  rw [q1_lh, ← eN9] at hP hD
  have aN9_lv : m_lv N9 = upd (m_lv M) j v9 := by rw [eN9]; exact aN7_lv
  have aN9_le : m_le N9 = upd (m_le M) j o9 := by rw [eN9]; exact aN7_le
  have aN9_lw : m_lw N9 = upd (m_lw M) j w9 := by rw [eN9]; exact aN7_lw
  have aN9_lb : m_lb N9 = upd (m_lb M) j b9 := by rw [eN9]; exact aN7_lb
  have aN9_lh : m_lh N9 = upd (m_lh M) j h9 := by rw [eN9]; rfl
  have aN9_ln : m_ln N9 = m_ln M := by rw [eN9]; exact aN7_ln
  have aN9_st : m_st N9 = m_st M := by rw [eN9]; exact aN7_st
  have aN9_sr : m_sr N9 = m_sr M := by rw [eN9]; exact aN7_sr
  have aN9_sn : m_sn N9 = m_sn M := by rw [eN9]; exact aN7_sn
  have aN9_rt : m_rt N9 = m_rt M := by rw [eN9]; exact aN7_rt
  have aN9_hb : m_hb N9 = m_hb M := by rw [eN9]; exact aN7_hb
  have aN9_as : m_as N9 = m_as M := by rw [eN9]; exact aN7_as
  have aN9_aa : m_aa N9 = m_aa M := by rw [eN9]; exact aN7_aa
  have aN9_ab : m_ab N9 = m_ab M := by rw [eN9]; exact aN7_ab
  have aN9_ah : m_ah N9 = m_ah M := by rw [eN9]; exact aN7_ah
  have aN9_an : m_an N9 = m_an M := by rw [eN9]; exact aN7_an
  subst hQ
  exact W.vret hx hb hr (fun t ht hW => ⟨⟨N9, rfl, (by rw [mk_eta N9, aN9_lv, aN9_le, aN9_lw, aN9_lb, aN9_lh, aN9_ln, aN9_st, aN9_sr, aN9_sn, aN9_rt, aN9_hb, aN9_as, aN9_aa, aN9_ab, aN9_ah, aN9_an]; rfl), by rw [ht]; exact hP, hD⟩, hS.F ht⟩) hS.2.2 dX1_put_38
