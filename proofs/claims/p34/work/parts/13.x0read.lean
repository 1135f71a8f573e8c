/-! THE CLASS: what only reads -/
set_option maxHeartbeats 4000000 in
set_option maxRecDepth 100000 in
/-- Math.floorDiv of longs -/
theorem c9_floorDiv (l : Launch) (x y : Int64) (hy : ¬ y = 0) : Met l yJ9_floorDiv_f86c9 wsJ9_floorDiv_f86c9 ({ frames := 0, cells := 0, slots := 0, locals := 0 } : Room) (va_Pc [.long x, .long y] (fun _ => True)) (vp_Sl (fun r : Int64 => r = fd64 x y)) 0 0 (fun _ => False) := by
  refine met_ofWF (cc := cJ9_floorDiv_f86c9) (maxL := 6) (ret := (some .long)) (by decide +kernel) rfl ?_
  intro p e s m args below meth c s₁ B hml hv
  obtain ⟨rfl, -⟩ := hv
  have hx := B.exec
  have hb := B.bytes
  have hr := B.returns
  have hts := atoms_spec (ws := wsJ9_floorDiv_f86c9) B.pre
  have hown : s.vm.findClass RJ9 = some m.cls := findClass_of_methodNamed B.named
  have hlocks := B.notSynchronized
  have hl := lv_entry ([.long x, .long y]) (n := 6) (Nat.le_of_ble_eq_true rfl)
  rw [lg_entry_eq]
  generalize (lg_sl ([.long x, .long y]) ++ List.replicate (6 - (lg_sl ([.long x, .long y])).length) Slot.unset).toArray = ls at hl ⊢
  have hl : lv_has ls 6 [(0, .long x), (2, .long y)] := hl
  refine w_abs (fun Q hQ => ?_)
  refine lv_lload_n hx hb dJ9_floorDiv_f86c9_0 rfl (lv_at hl 0 rfl) ?_
  refine lv_lload_n hx hb dJ9_floorDiv_f86c9_1 rfl (lv_at hl 1 rfl) ?_
  refine lv_ldiv hx hb dJ9_floorDiv_f86c9_2 hy ?_
  refine lv_lstore (lv' := [(4, .long (x / y)), (0, .long x), (2, .long y)]) hx hb dJ9_floorDiv_f86c9_3 hl (by decide) rfl (fun ls hl => ?_)
  refine lv_lload_n hx hb dJ9_floorDiv_f86c9_5 rfl (lv_at hl 1 rfl) ?_
  refine lv_lload_n hx hb dJ9_floorDiv_f86c9_6 rfl (lv_at hl 2 rfl) ?_
  refine lv_lxor hx hb dJ9_floorDiv_f86c9_7 ?_
  refine lv_lconst (v := 0) hx hb dJ9_floorDiv_f86c9_8 (by decide) ?_
  refine W.lcmp hx hb dJ9_floorDiv_f86c9_9 ?_
  refine lv_if_ge (tgt := 27) hx hb dJ9_floorDiv_f86c9_10 (by decide) (fun c1 => ?_) (fun c1 => ?_)
  · have c1 := k_cge c1
    refine lv_lload hx hb dJ9_floorDiv_f86c9_27 (lv_at hl 0 rfl) ?_
    subst hQ
    exact W.lret (v := x / y) hx hb hr (fun t ht hW => ⟨_, rfl, (by unfold fd64; rw [if_neg (fun z => c1 z.1)]), ht⟩) (fun q hq => by cases hq) dJ9_floorDiv_f86c9_29
  · have c1 := k_cnge c1
    refine lv_lload hx hb dJ9_floorDiv_f86c9_13 (lv_at hl 0 rfl) ?_
    refine lv_lload_n hx hb dJ9_floorDiv_f86c9_15 rfl (lv_at hl 2 rfl) ?_
    refine lv_lmul hx hb dJ9_floorDiv_f86c9_16 ?_
    refine lv_lload_n hx hb dJ9_floorDiv_f86c9_17 rfl (lv_at hl 1 rfl) ?_
    refine W.lcmp hx hb dJ9_floorDiv_f86c9_18 ?_
    refine lv_if_eq (tgt := 27) hx hb dJ9_floorDiv_f86c9_19 (by decide) (fun c2 => ?_) (fun c2 => ?_)
    · have c2 := k_ceq c2
      refine lv_lload hx hb dJ9_floorDiv_f86c9_27 (lv_at hl 0 rfl) ?_
      subst hQ
      exact W.lret (v := x / y) hx hb hr (fun t ht hW => ⟨_, rfl, (by unfold fd64; rw [if_neg (fun z => z.2 c2)]), ht⟩) (fun q hq => by cases hq) dJ9_floorDiv_f86c9_29
    · have c2 := k_cne c2
      refine lv_lload hx hb dJ9_floorDiv_f86c9_22 (lv_at hl 0 rfl) ?_
      refine lv_lconst (v := 1) hx hb dJ9_floorDiv_f86c9_24 (by decide) ?_
      refine lv_lsub hx hb dJ9_floorDiv_f86c9_25 ?_
      subst hQ
      exact W.lret (v := (x / y) - 1) hx hb hr (fun t ht hW => ⟨_, rfl, (by unfold fd64; rw [if_pos ⟨c1, c2⟩]), ht⟩) (fun q hq => by cases hq) dJ9_floorDiv_f86c9_26
set_option maxHeartbeats 4000000 in
set_option maxRecDepth 100000 in
/-- a thousandth part, halves up -/
theorem c0_thousandths (l : Launch) (a s9 : Int32) : Met l yX0_thousandths wsX0_thousandths ({ frames := 1, cells := 0, slots := 0, locals := 25 } : Room) (va_Pc [.int a, .int s9] (fun _ => True)) (vp_Si (fun r : Int32 => r = x_th a s9)) 0 0 (fun _ => False) := by
  refine Met.ofW (cc := cX0_thousandths) (maxL := 2) (ret := (some .int)) (by decide) rfl ?_
  intro p e s m args below meth c s₁ B hml hv
  obtain ⟨rfl, -⟩ := hv
  have hx := B.exec
  have hb := B.bytes
  have hr := B.returns
  have hts := atoms_spec (ws := wsX0_thousandths) B.pre
  have hown : s.vm.findClass RX0 = some m.cls := findClass_of_methodNamed B.named
  have hlocks := B.notSynchronized
  have kw0 := hts (.constantLong RX0 180 (500)) (by decide +kernel)
  have kw1 := hts (.constantLong RX0 182 (1000)) (by decide +kernel)
  have hl := lv_entry ([.int a, .int s9]) (n := 2) (Nat.le_of_ble_eq_true rfl)
  rw [lg_entry_eq]
  generalize (lg_sl ([.int a, .int s9]) ++ List.replicate (2 - (lg_sl ([.int a, .int s9])).length) Slot.unset).toArray = ls at hl ⊢
  have hl : lv_has ls 2 [(0, .int a), (1, .int s9)] := hl
  refine w_abs (fun Q hQ => ?_)
  refine lv_iload_n hx hb dX0_thousandths_0 rfl (lv_at hl 0 rfl) ?_
  refine lv_i2l (v := a.toInt64) hx hb dX0_thousandths_1 rfl ?_
  refine lv_iload_n hx hb dX0_thousandths_2 rfl (lv_at hl 1 rfl) ?_
  refine lv_i2l (v := s9.toInt64) hx hb dX0_thousandths_3 rfl ?_
  refine lv_lmul hx hb dX0_thousandths_4 ?_
  refine lv_ldc2 hx hb hown kw0 dX0_thousandths_5 ?_
  refine lv_ladd hx hb dX0_thousandths_8 ?_
  refine lv_ldc2 hx hb hown kw1 dX0_thousandths_9 ?_
  refine vp_callSl (W.runS (As := [.long ((a.toInt64 * s9.toInt64) + 500), .long 1000]) (rest := []) ⟨hx, hb, hml, hown, hts⟩ (c9_floorDiv l ((a.toInt64 * s9.toInt64) + 500) 1000 (by decide)) (va_cwS 2 hts gX0_thousandths_J9_floorDiv_f86c9 rfl rfl rfl (by decide +kernel) ⟨Nat.le_of_ble_eq_true rfl, Nat.le_of_ble_eq_true rfl⟩) ⟨nil_fb, nil_mk⟩ rfl rfl hl.1 rfl (lv_room (Nat.le_of_ble_eq_true rfl)) dX0_thousandths_12 ⟨Nat.le_of_ble_eq_true rfl, Nat.le_of_ble_eq_true rfl⟩) (fun r1 qr1 => ?_)
  have qr1 : r1 = fd64 ((a.toInt64 * s9.toInt64) + 500) 1000 := qr1
  subst qr1
  refine lv_l2i (v := (fd64 ((a.toInt64 * s9.toInt64) + 500) 1000).toInt32) hx hb dX0_thousandths_15 rfl ?_
  subst hQ
  exact W.iret (v := (fd64 ((a.toInt64 * s9.toInt64) + 500) 1000).toInt32) hx hb hr (fun t ht hW => ⟨_, rfl, rfl, ht⟩) (fun q hq => by cases hq) dX0_thousandths_16
set_option maxHeartbeats 4000000 in
set_option maxRecDepth 100000 in
/-- a part, rounded down -/
theorem c0_scaledDown (l : Launch) (a f9 d9 : Int32) : Met l yX0_scaledDown wsX0_scaledDown ({ frames := 1, cells := 0, slots := 0, locals := 25 } : Room) (va_Pc [.int a, .int f9, .int d9] (fun _ => True)) (vp_Si (fun r : Int32 => r = x_sd a f9 d9)) 0 0 (fun _ => False) := by
  refine Met.ofW (cc := cX0_scaledDown) (maxL := 3) (ret := (some .int)) (by decide) rfl ?_
  intro p e s m args below meth c s₁ B hml hv
  obtain ⟨rfl, -⟩ := hv
  have hx := B.exec
  have hb := B.bytes
  have hr := B.returns
  have hts := atoms_spec (ws := wsX0_scaledDown) B.pre
  have hown : s.vm.findClass RX0 = some m.cls := findClass_of_methodNamed B.named
  have hlocks := B.notSynchronized
  have hl := lv_entry ([.int a, .int f9, .int d9]) (n := 3) (Nat.le_of_ble_eq_true rfl)
  rw [lg_entry_eq]
  generalize (lg_sl ([.int a, .int f9, .int d9]) ++ List.replicate (3 - (lg_sl ([.int a, .int f9, .int d9])).length) Slot.unset).toArray = ls at hl ⊢
  have hl : lv_has ls 3 [(0, .int a), (1, .int f9), (2, .int d9)] := hl
  refine w_abs (fun Q hQ => ?_)
  refine lv_iload_n hx hb dX0_scaledDown_0 rfl (lv_at hl 2 rfl) ?_
  refine lv_if_ne (tgt := 6) hx hb dX0_scaledDown_1 (by decide) (fun c1 => ?_) (fun c1 => ?_)
  · refine lv_iload_n hx hb dX0_scaledDown_6 rfl (lv_at hl 0 rfl) ?_
    refine lv_i2l (v := a.toInt64) hx hb dX0_scaledDown_7 rfl ?_
    refine lv_iload_n hx hb dX0_scaledDown_8 rfl (lv_at hl 1 rfl) ?_
    refine lv_i2l (v := f9.toInt64) hx hb dX0_scaledDown_9 rfl ?_
    refine lv_lmul hx hb dX0_scaledDown_10 ?_
    refine lv_iload_n hx hb dX0_scaledDown_11 rfl (lv_at hl 2 rfl) ?_
    refine lv_i2l (v := d9.toInt64) hx hb dX0_scaledDown_12 rfl ?_
    refine vp_callSl (W.runS (As := [.long (a.toInt64 * f9.toInt64), .long d9.toInt64]) (rest := []) ⟨hx, hb, hml, hown, hts⟩ (c9_floorDiv l (a.toInt64 * f9.toInt64) d9.toInt64 (k_ne0 c1)) (va_cwS 2 hts gX0_scaledDown_J9_floorDiv_f86c9 rfl rfl rfl (by decide +kernel) ⟨Nat.le_of_ble_eq_true rfl, Nat.le_of_ble_eq_true rfl⟩) ⟨nil_fb, nil_mk⟩ rfl rfl hl.1 rfl (lv_room (Nat.le_of_ble_eq_true rfl)) dX0_scaledDown_13 ⟨Nat.le_of_ble_eq_true rfl, Nat.le_of_ble_eq_true rfl⟩) (fun r2 qr2 => ?_)
    have qr2 : r2 = fd64 (a.toInt64 * f9.toInt64) d9.toInt64 := qr2
    subst qr2
    refine lv_l2i (v := (fd64 (a.toInt64 * f9.toInt64) d9.toInt64).toInt32) hx hb dX0_scaledDown_16 rfl ?_
    subst hQ
    exact W.iret (v := (fd64 (a.toInt64 * f9.toInt64) d9.toInt64).toInt32) hx hb hr (fun t ht hW => ⟨_, rfl, (by unfold x_sd; rw [if_neg c1]), ht⟩) (fun q hq => by cases hq) dX0_scaledDown_17
  · refine lv_iconst (v := 0) hx hb dX0_scaledDown_4 (by decide) ?_
    subst hQ
    exact W.iret (v := 0) hx hb hr (fun t ht hW => ⟨_, rfl, (by unfold x_sd; rw [if_pos c1]), ht⟩) (fun q hq => by cases hq) dX0_scaledDown_5
set_option maxHeartbeats 4000000 in
set_option maxRecDepth 100000 in
/-- the sum of a row's first n -/
theorem c0_sum (l : Launch) (D : va_G) (cA : ClassId) (a N : Nat) (f : FF) (n : Nat) (hn : n ≤ N) (hN : N ≤ 60) : Met l yX0_sum wsX0_sum ({ frames := 0, cells := 0, slots := 0, locals := 0 } : Room) (va_Pc [.ref a, .int (nI n)] (pR D [(cA, .int)] ([(a, .inl (cA, N, .inl f))]))) (vp_Si (fun r : Int32 => r = psum f n)) 0 0 (fun _ => False) := by
  refine Met.ofW (cc := cX0_sum) (maxL := 4) (ret := (some .int)) (by decide) rfl ?_
  intro p e s m args below meth c s₁ B hml hv
  obtain ⟨rfl, hP, hK⟩ := hv
  have hx := B.exec
  have hb := B.bytes
  have hr := B.returns
  have hts := atoms_spec (ws := wsX0_sum) B.pre
  have hown : s.vm.findClass RX0 = some m.cls := findClass_of_methodNamed B.named
  have hlocks := B.notSynchronized
  have hl := lv_entry ([.ref a, .int (nI n)]) (n := 4) (Nat.le_of_ble_eq_true rfl)
  rw [lg_entry_eq]
  generalize (lg_sl ([.ref a, .int (nI n)]) ++ List.replicate (4 - (lg_sl ([.ref a, .int (nI n)])).length) Slot.unset).toArray = ls at hl ⊢
  have hl : lv_has ls 4 [(0, .ref a), (1, .int (nI n))] := hl
  refine w_abs (fun Q hQ => ?_)
  refine lv_iconst (v := 0) hx hb dX0_sum_0 (by decide) ?_
  refine lv_istore_n (lv' := [(2, .int 0), (0, .ref a), (1, .int (nI n))]) hx hb dX0_sum_1 rfl hl (by decide) rfl (fun ls hl => ?_)
  refine lv_iconst (v := 0) hx hb dX0_sum_2 (by decide) ?_
  refine lv_istore_n (lv' := [(3, .int 0), (2, .int 0), (0, .ref a), (1, .int (nI n))]) hx hb dX0_sum_3 rfl hl (by decide) rfl (fun ls hl => ?_)
  have loop : ∀ (fu : Nat) (k : Nat) (x2 : Int32), k ≤ n → x2 = psum f k → n - k < fu → ∀ (ls : Array Slot), lv_has ls 4 [(0, .ref a), (1, .int (nI n)), (2, .int x2), (3, .int (nI k))] → W p l e (headSpec wsX0_sum ({ frames := 0, cells := 0, slots := 0, locals := 0 } : Room)).room s m ([.ref a, .int (nI n)] : List Value).toArray below meth c s.heap [] 0 0 Q (F0 m 4 ls []) := by
    intro fu
    induction fu with
    | zero => intro k x2 hk e2 hfu; exact absurd hfu (by omega)
    | succ fu ih =>
      intro k x2 hk e2 hfu ls hl
      refine lv_iload_n hx hb dX0_sum_4 rfl (lv_at hl 3 rfl) ?_
      refine lv_iload_n hx hb dX0_sum_5 rfl (lv_at hl 1 rfl) ?_
      refine lv_icmp_ge (tgt := 21) hx hb dX0_sum_6 (by decide) (fun c1 => ?_) (fun c1 => ?_)
      · have c1 := k_le (a := n) (b := k) (by omega) (by omega) c1
        refine lv_iload_n hx hb dX0_sum_21 rfl (lv_at hl 2 rfl) ?_
        subst hQ
        exact W.iret (v := x2) hx hb hr (fun t ht hW => ⟨_, rfl, (by rw [e2, show k = n by omega]), ht⟩) (fun q hq => by cases hq) dX0_sum_22
      · have c1 := k_nle (a := n) (b := k) (by omega) (by omega) c1
        refine lv_iload_n hx hb dX0_sum_9 rfl (lv_at hl 2 rfl) ?_
        refine lv_aload_n hx hb dX0_sum_10 rfl (lv_at hl 0 rfl) ?_
        refine lv_iload_n hx hb dX0_sum_11 rfl (lv_at hl 3 rfl) ?_
        refine r_ald (f := f) (j := k) hx hb hK hP 0 0 rfl rfl (by omega) (by omega) dX0_sum_12 ?_
        refine lv_iadd hx hb dX0_sum_13 ?_
        refine lv_istore_n (lv' := [(2, .int (x2 + (f k))), (0, .ref a), (1, .int (nI n)), (3, .int (nI k))]) hx hb dX0_sum_14 rfl hl (by decide) rfl (fun ls hl => ?_)
        refine lv_iinc (v := nI (k + 1)) (lv' := [(3, .int (nI (k + 1))), (2, .int (x2 + (f k))), (0, .ref a), (1, .int (nI n))]) hx hb dX0_sum_15 hl (k := 3) rfl (nI_1 _) (by decide) rfl (fun ls hl => ?_)
        refine lv_goto (tgt := 4) hx hb dX0_sum_18 (by decide) ?_
        exact ih (k + 1) (x2 + f k) (by omega) (by rw [e2]; rfl) (by omega) ls (lv_sub hl [2, 3, 1, 0] rfl)
  exact loop (n + 1) 0 0 (Nat.zero_le _) rfl (by omega) ls (lv_sub hl [2, 3, 1, 0] rfl)
set_option maxHeartbeats 4000000 in
set_option maxRecDepth 100000 in
theorem c0_steps (l : Launch) (D : va_G) (h : Nat → Nat) (cA : ClassId) (M : MM) (hM : OKM M) : Met l yX0_steps wsX0_steps ({ frames := 0, cells := 0, slots := 0, locals := 0 } : Room) (va_Pc [.ref (h 0)] (pR D [(cA, .int)] (w0 h cA M))) (vp_Si (fun r : Int32 => r = nI (m_sn M))) 0 0 (fun _ => False) := by
  refine Met.ofW (cc := cX0_steps) (maxL := 1) (ret := (some .int)) (by decide) rfl ?_
  intro p e s m args below meth c s₁ B hml hv
  obtain ⟨rfl, hP, hK⟩ := hv
  have hx := B.exec
  have hb := B.bytes
  have hr := B.returns
  have hts := atoms_spec (ws := wsX0_steps) B.pre
  have hown : s.vm.findClass RX0 = some m.cls := findClass_of_methodNamed B.named
  have hlocks := B.notSynchronized
  have kw0 := hts (.fieldLink RX0 43 "ProgressBilling" "stepCount" "I") (by decide +kernel)
  have hin0 : ∀ w ∈ u_ws RX0 TX0 15, w ∈ wsX0_steps := by decide +kernel
  obtain ⟨hn1, hn2, hn3, hn4⟩ := id hM
  have hl := lv_entry ([.ref (h 0)]) (n := 1) (Nat.le_of_ble_eq_true rfl)
  rw [lg_entry_eq]
  generalize (lg_sl ([.ref (h 0)]) ++ List.replicate (1 - (lg_sl ([.ref (h 0)])).length) Slot.unset).toArray = ls at hl ⊢
  have hl : lv_has ls 1 [(0, .ref (h 0))] := hl
  refine w_abs (fun Q hQ => ?_)
  refine lv_aload_n hx hb dX0_steps_0 rfl (lv_at hl 0 rfl) ?_
  refine va_get (D := D) (ci := 0) (v := .int (nI (m_sn M))) (C := RX0) (T := TX0) (N := 15) hx hb hts hin0 hown hK hP 0 rfl rfl 8 (by decide) kw0 (fun _ h9 => h9) rfl dX0_steps_1 ?_
  subst hQ
  exact W.iret (v := nI (m_sn M)) hx hb hr (fun t ht hW => ⟨_, rfl, rfl, ht⟩) (fun q hq => by cases hq) dX0_steps_4
set_option maxHeartbeats 4000000 in
set_option maxRecDepth 100000 in
theorem c0_applications (l : Launch) (D : va_G) (h : Nat → Nat) (cA : ClassId) (M : MM) (hM : OKM M) : Met l yX0_applications wsX0_applications ({ frames := 0, cells := 0, slots := 0, locals := 0 } : Room) (va_Pc [.ref (h 0)] (pR D [(cA, .int)] (w0 h cA M))) (vp_Si (fun r : Int32 => r = nI (m_an M))) 0 0 (fun _ => False) := by
  refine Met.ofW (cc := cX0_applications) (maxL := 1) (ret := (some .int)) (by decide) rfl ?_
  intro p e s m args below meth c s₁ B hml hv
  obtain ⟨rfl, hP, hK⟩ := hv
  have hx := B.exec
  have hb := B.bytes
  have hr := B.returns
  have hts := atoms_spec (ws := wsX0_applications) B.pre
  have hown : s.vm.findClass RX0 = some m.cls := findClass_of_methodNamed B.named
  have hlocks := B.notSynchronized
  have kw0 := hts (.fieldLink RX0 115 "ProgressBilling" "applicationCount" "I") (by decide +kernel)
  have hin0 : ∀ w ∈ u_ws RX0 TX0 15, w ∈ wsX0_applications := by decide +kernel
  obtain ⟨hn1, hn2, hn3, hn4⟩ := id hM
  have hl := lv_entry ([.ref (h 0)]) (n := 1) (Nat.le_of_ble_eq_true rfl)
  rw [lg_entry_eq]
  generalize (lg_sl ([.ref (h 0)]) ++ List.replicate (1 - (lg_sl ([.ref (h 0)])).length) Slot.unset).toArray = ls at hl ⊢
  have hl : lv_has ls 1 [(0, .ref (h 0))] := hl
  refine w_abs (fun Q hQ => ?_)
  refine lv_aload_n hx hb dX0_applications_0 rfl (lv_at hl 0 rfl) ?_
  refine va_get (D := D) (ci := 0) (v := .int (nI (m_an M))) (C := RX0) (T := TX0) (N := 15) hx hb hts hin0 hown hK hP 0 rfl rfl 14 (by decide) kw0 (fun _ h9 => h9) rfl dX0_applications_1 ?_
  subst hQ
  exact W.iret (v := nI (m_an M)) hx hb hr (fun t ht hW => ⟨_, rfl, rfl, ht⟩) (fun q hq => by cases hq) dX0_applications_4
set_option maxHeartbeats 4000000 in
set_option maxRecDepth 100000 in
theorem c0_lines (l : Launch) (D : va_G) (h : Nat → Nat) (cA : ClassId) (M : MM) (hM : OKM M) : Met l yX0_lines wsX0_lines ({ frames := 0, cells := 0, slots := 0, locals := 0 } : Room) (va_Pc [.ref (h 0)] (pR D [(cA, .int)] (w0 h cA M))) (vp_Si (fun r : Int32 => r = nI (m_ln M))) 0 0 (fun _ => False) := by
  refine Met.ofW (cc := cX0_lines) (maxL := 1) (ret := (some .int)) (by decide) rfl ?_
  intro p e s m args below meth c s₁ B hml hv
  obtain ⟨rfl, hP, hK⟩ := hv
  have hx := B.exec
  have hb := B.bytes
  have hr := B.returns
  have hts := atoms_spec (ws := wsX0_lines) B.pre
  have hown : s.vm.findClass RX0 = some m.cls := findClass_of_methodNamed B.named
  have hlocks := B.notSynchronized
  have kw0 := hts (.fieldLink RX0 55 "ProgressBilling" "lineCount" "I") (by decide +kernel)
  have hin0 : ∀ w ∈ u_ws RX0 TX0 15, w ∈ wsX0_lines := by decide +kernel
  obtain ⟨hn1, hn2, hn3, hn4⟩ := id hM
  have hl := lv_entry ([.ref (h 0)]) (n := 1) (Nat.le_of_ble_eq_true rfl)
  rw [lg_entry_eq]
  generalize (lg_sl ([.ref (h 0)]) ++ List.replicate (1 - (lg_sl ([.ref (h 0)])).length) Slot.unset).toArray = ls at hl ⊢
  have hl : lv_has ls 1 [(0, .ref (h 0))] := hl
  refine w_abs (fun Q hQ => ?_)
  refine lv_aload_n hx hb dX0_lines_0 rfl (lv_at hl 0 rfl) ?_
  refine va_get (D := D) (ci := 0) (v := .int (nI (m_ln M))) (C := RX0) (T := TX0) (N := 15) hx hb hts hin0 hown hK hP 0 rfl rfl 5 (by decide) kw0 (fun _ h9 => h9) rfl dX0_lines_1 ?_
  subst hQ
  exact W.iret (v := nI (m_ln M)) hx hb hr (fun t ht hW => ⟨_, rfl, rfl, ht⟩) (fun q hq => by cases hq) dX0_lines_4
set_option maxHeartbeats 4000000 in
set_option maxRecDepth 100000 in
theorem c0_contractSum (l : Launch) (D : va_G) (h : Nat → Nat) (cA : ClassId) (M : MM) (hM : OKM M) : Met l yX0_contractSum wsX0_contractSum ({ frames := 1, cells := 0, slots := 0, locals := 23 } : Room) (va_Pc [.ref (h 0)] (pR D [(cA, .int)] (w0 h cA M))) (vp_Si (fun r : Int32 => r = x_csum M)) 0 0 (fun _ => False) := by
  refine Met.ofW (cc := cX0_contractSum) (maxL := 1) (ret := (some .int)) (by decide) rfl ?_
  intro p e s m args below meth c s₁ B hml hv
  obtain ⟨rfl, hP, hK⟩ := hv
  have hx := B.exec
  have hb := B.bytes
  have hr := B.returns
  have hts := atoms_spec (ws := wsX0_contractSum) B.pre
  have hown : s.vm.findClass RX0 = some m.cls := findClass_of_methodNamed B.named
  have hlocks := B.notSynchronized
  have kw0 := hts (.fieldLink RX0 9 "ProgressBilling" "lineValue" "[I") (by decide +kernel)
  have kw1 := hts (.fieldLink RX0 55 "ProgressBilling" "lineCount" "I") (by decide +kernel)
  have hin0 : ∀ w ∈ u_ws RX0 TX0 15, w ∈ wsX0_contractSum := by decide +kernel
  obtain ⟨hn1, hn2, hn3, hn4⟩ := id hM
  have hl := lv_entry ([.ref (h 0)]) (n := 1) (Nat.le_of_ble_eq_true rfl)
  rw [lg_entry_eq]
  generalize (lg_sl ([.ref (h 0)]) ++ List.replicate (1 - (lg_sl ([.ref (h 0)])).length) Slot.unset).toArray = ls at hl ⊢
  have hl : lv_has ls 1 [(0, .ref (h 0))] := hl
  refine w_abs (fun Q hQ => ?_)
  refine lv_aload_n hx hb dX0_contractSum_0 rfl (lv_at hl 0 rfl) ?_
  refine va_get (D := D) (ci := 0) (v := .ref (h 1)) (C := RX0) (T := TX0) (N := 15) hx hb hts hin0 hown hK hP 0 rfl rfl 0 (by decide) kw0 (fun _ h9 => h9) rfl dX0_contractSum_1 ?_
  refine lv_aload_n hx hb dX0_contractSum_4 rfl (lv_at hl 0 rfl) ?_
  refine va_get (D := D) (ci := 0) (v := .int (nI (m_ln M))) (C := RX0) (T := TX0) (N := 15) hx hb hts hin0 hown hK hP 0 rfl rfl 5 (by decide) kw1 (fun _ h9 => h9) rfl dX0_contractSum_5 ?_
  refine vp_callSi (W.runS (As := [.ref (h 1), .int (nI (m_ln M))]) (rest := []) ⟨hx, hb, hml, hown, hts⟩ (c0_sum l D cA (h 1) 16 (m_lv M) (m_ln M) (by omega) (by omega)) (va_cwS 2 hts gX0_contractSum_X0_sum rfl rfl rfl (by decide +kernel) ⟨Nat.le_of_ble_eq_true rfl, Nat.le_of_ble_eq_true rfl⟩) ⟨pR_fb, pR_mk (hP.sub (ws' := [(h 1, .inl (cA, 16, .inl (m_lv M)))]) [1] rfl) hK⟩ rfl rfl hl.1 rfl (lv_room (Nat.le_of_ble_eq_true rfl)) dX0_contractSum_8 ⟨Nat.le_of_ble_eq_true rfl, Nat.le_of_ble_eq_true rfl⟩) (fun r1 qr1 => ?_)
  have qr1 : r1 = psum (m_lv M) (m_ln M) := qr1
  subst qr1
  subst hQ
  exact W.iret (v := psum (m_lv M) (m_ln M)) hx hb hr (fun t ht hW => ⟨_, rfl, rfl, ht⟩) (fun q hq => by cases hq) dX0_contractSum_11
set_option maxHeartbeats 4000000 in
set_option maxRecDepth 100000 in
theorem c0_progress (l : Launch) (D : va_G) (h : Nat → Nat) (cA : ClassId) (M : MM) (hM : OKM M) : Met l yX0_progress wsX0_progress ({ frames := 2, cells := 0, slots := 0, locals := 47 } : Room) (va_Pc [.ref (h 0)] (pR D [(cA, .int)] (w0 h cA M))) (vp_Si (fun r : Int32 => r = x_progress M)) 0 0 (fun _ => False) := by
  refine Met.ofW (cc := cX0_progress) (maxL := 1) (ret := (some .int)) (by decide) rfl ?_
  intro p e s m args below meth c s₁ B hml hv
  obtain ⟨rfl, hP, hK⟩ := hv
  have hx := B.exec
  have hb := B.bytes
  have hr := B.returns
  have hts := atoms_spec (ws := wsX0_progress) B.pre
  have hown : s.vm.findClass RX0 = some m.cls := findClass_of_methodNamed B.named
  have hlocks := B.notSynchronized
  have kw0 := hts (.fieldLink RX0 16 "ProgressBilling" "lineWork" "[I") (by decide +kernel)
  have kw1 := hts (.fieldLink RX0 55 "ProgressBilling" "lineCount" "I") (by decide +kernel)
  have hin0 : ∀ w ∈ u_ws RX0 TX0 15, w ∈ wsX0_progress := by decide +kernel
  obtain ⟨hn1, hn2, hn3, hn4⟩ := id hM
  have hl := lv_entry ([.ref (h 0)]) (n := 1) (Nat.le_of_ble_eq_true rfl)
  rw [lg_entry_eq]
  generalize (lg_sl ([.ref (h 0)]) ++ List.replicate (1 - (lg_sl ([.ref (h 0)])).length) Slot.unset).toArray = ls at hl ⊢
  have hl : lv_has ls 1 [(0, .ref (h 0))] := hl
  refine w_abs (fun Q hQ => ?_)
  refine lv_aload_n hx hb dX0_progress_0 rfl (lv_at hl 0 rfl) ?_
  refine va_get (D := D) (ci := 0) (v := .ref (h 3)) (C := RX0) (T := TX0) (N := 15) hx hb hts hin0 hown hK hP 0 rfl rfl 2 (by decide) kw0 (fun _ h9 => h9) rfl dX0_progress_1 ?_
  refine lv_aload_n hx hb dX0_progress_4 rfl (lv_at hl 0 rfl) ?_
  refine va_get (D := D) (ci := 0) (v := .int (nI (m_ln M))) (C := RX0) (T := TX0) (N := 15) hx hb hts hin0 hown hK hP 0 rfl rfl 5 (by decide) kw1 (fun _ h9 => h9) rfl dX0_progress_5 ?_
  refine vp_callSi (W.runS (As := [.ref (h 3), .int (nI (m_ln M))]) (rest := []) ⟨hx, hb, hml, hown, hts⟩ (c0_sum l D cA (h 3) 16 (m_lw M) (m_ln M) (by omega) (by omega)) (va_cwS 2 hts gX0_progress_X0_sum rfl rfl rfl (by decide +kernel) ⟨Nat.le_of_ble_eq_true rfl, Nat.le_of_ble_eq_true rfl⟩) ⟨pR_fb, pR_mk (hP.sub (ws' := [(h 3, .inl (cA, 16, .inl (m_lw M)))]) [3] rfl) hK⟩ rfl rfl hl.1 rfl (lv_room (Nat.le_of_ble_eq_true rfl)) dX0_progress_8 ⟨Nat.le_of_ble_eq_true rfl, Nat.le_of_ble_eq_true rfl⟩) (fun r1 qr1 => ?_)
  have qr1 : r1 = psum (m_lw M) (m_ln M) := qr1
  subst qr1
  refine lv_sipush (v := 1000) hx hb dX0_progress_11 (by decide) ?_
  refine lv_aload_n hx hb dX0_progress_14 rfl (lv_at hl 0 rfl) ?_
  refine vp_callSi (W.runV (As := []) (rest := [.int 1000, .int (psum (m_lw M) (m_ln M))]) ⟨hx, hb, hml, hown, hts⟩ (c0_contractSum l D h cA M hM) (cwV 0 hts gX0_progress_X0_contractSum rfl rfl rfl (by decide +kernel) ⟨Nat.le_of_ble_eq_true rfl, Nat.le_of_ble_eq_true rfl⟩) ⟨pR_fb, va_recv hK hP (ci := 0) (q0 := 0) rfl rfl, pR_mk hP hK⟩ rfl rfl hl.1 rfl (lv_room (Nat.le_of_ble_eq_true rfl)) dX0_progress_15 ⟨Nat.le_of_ble_eq_true rfl, Nat.le_of_ble_eq_true rfl⟩) (fun r2 qr2 => ?_)
  have qr2 : r2 = x_csum M := qr2
  subst qr2
  refine vp_callSi (W.runS (As := [.int (psum (m_lw M) (m_ln M)), .int 1000, .int (x_csum M)]) (rest := []) ⟨hx, hb, hml, hown, hts⟩ (c0_scaledDown l (psum (m_lw M) (m_ln M)) 1000 (x_csum M)) (va_cwS 3 hts gX0_progress_X0_scaledDown rfl rfl rfl (by decide +kernel) ⟨Nat.le_of_ble_eq_true rfl, Nat.le_of_ble_eq_true rfl⟩) ⟨nil_fb, nil_mk⟩ rfl rfl hl.1 rfl (lv_room (Nat.le_of_ble_eq_true rfl)) dX0_progress_18 ⟨Nat.le_of_ble_eq_true rfl, Nat.le_of_ble_eq_true rfl⟩) (fun r3 qr3 => ?_)
  have qr3 : r3 = x_sd (psum (m_lw M) (m_ln M)) 1000 (x_csum M) := qr3
  subst qr3
  subst hQ
  exact W.iret (v := x_sd (psum (m_lw M) (m_ln M)) 1000 (x_csum M)) hx hb hr (fun t ht hW => ⟨_, rfl, rfl, ht⟩) (fun q hq => by cases hq) dX0_progress_21
set_option maxHeartbeats 4000000 in
set_option maxRecDepth 100000 in
theorem c0_rate (l : Launch) (D : va_G) (h : Nat → Nat) (cA : ClassId) (M : MM) (hM : OKM M) : Met l yX0_rate wsX0_rate ({ frames := 3, cells := 0, slots := 0, locals := 67 } : Room) (va_Pc [.ref (h 0)] (pR D [(cA, .int)] (w0 h cA M))) (vp_Si (fun r : Int32 => r = x_rate M)) 0 0 (fun _ => False) := by
  refine Met.ofW (cc := cX0_rate) (maxL := 4) (ret := (some .int)) (by decide) rfl ?_
  intro p e s m args below meth c s₁ B hml hv
  obtain ⟨rfl, hP, hK⟩ := hv
  have hx := B.exec
  have hb := B.bytes
  have hr := B.returns
  have hts := atoms_spec (ws := wsX0_rate) B.pre
  have hown : s.vm.findClass RX0 = some m.cls := findClass_of_methodNamed B.named
  have hlocks := B.notSynchronized
  have kw0 := hts (.fieldLink RX0 43 "ProgressBilling" "stepCount" "I") (by decide +kernel)
  have kw1 := hts (.fieldLink RX0 28 "ProgressBilling" "stepRate" "[I") (by decide +kernel)
  have kw2 := hts (.fieldLink RX0 25 "ProgressBilling" "stepThreshold" "[I") (by decide +kernel)
  have hin0 : ∀ w ∈ u_ws RX0 TX0 15, w ∈ wsX0_rate := by decide +kernel
  obtain ⟨hn1, hn2, hn3, hn4⟩ := id hM
  have hl := lv_entry ([.ref (h 0)]) (n := 4) (Nat.le_of_ble_eq_true rfl)
  rw [lg_entry_eq]
  generalize (lg_sl ([.ref (h 0)]) ++ List.replicate (4 - (lg_sl ([.ref (h 0)])).length) Slot.unset).toArray = ls at hl ⊢
  have hl : lv_has ls 4 [(0, .ref (h 0))] := hl
  refine w_abs (fun Q hQ => ?_)
  refine lv_aload_n hx hb dX0_rate_0 rfl (lv_at hl 0 rfl) ?_
  refine vp_callSi (W.runV (As := []) (rest := []) ⟨hx, hb, hml, hown, hts⟩ (c0_progress l D h cA M hM) (cwV 0 hts gX0_rate_X0_progress rfl rfl rfl (by decide +kernel) ⟨Nat.le_of_ble_eq_true rfl, Nat.le_of_ble_eq_true rfl⟩) ⟨pR_fb, va_recv hK hP (ci := 0) (q0 := 0) rfl rfl, pR_mk hP hK⟩ rfl rfl hl.1 rfl (lv_room (Nat.le_of_ble_eq_true rfl)) dX0_rate_1 ⟨Nat.le_of_ble_eq_true rfl, Nat.le_of_ble_eq_true rfl⟩) (fun r1 qr1 => ?_)
  have qr1 : r1 = x_progress M := qr1
  subst qr1
  refine lv_istore_n (lv' := [(1, .int (x_progress M)), (0, .ref (h 0))]) hx hb dX0_rate_4 rfl hl (by decide) rfl (fun ls hl => ?_)
  refine lv_iconst (v := 0) hx hb dX0_rate_5 (by decide) ?_
  refine lv_istore_n (lv' := [(2, .int 0), (1, .int (x_progress M)), (0, .ref (h 0))]) hx hb dX0_rate_6 rfl hl (by decide) rfl (fun ls hl => ?_)
  refine lv_iconst (v := 1) hx hb dX0_rate_7 (by decide) ?_
  refine lv_istore_n (lv' := [(3, .int 1), (2, .int 0), (1, .int (x_progress M)), (0, .ref (h 0))]) hx hb dX0_rate_8 rfl hl (by decide) rfl (fun ls hl => ?_)
  have loop : ∀ (fu : Nat) (k : Nat) (b : Nat), k + 1 ≤ m_sn M → b = x_best (m_st M) (x_progress M) k → m_sn M - k < fu → ∀ (ls : Array Slot), lv_has ls 4 [(0, .ref (h 0)), (1, .int (x_progress M)), (2, .int (nI b)), (3, .int (nI (k + 1)))] → W p l e (headSpec wsX0_rate ({ frames := 3, cells := 0, slots := 0, locals := 67 } : Room)).room s m ([.ref (h 0)] : List Value).toArray below meth c s.heap [] 0 0 Q (F0 m 9 ls []) := by
    intro fu
    induction fu with
    | zero => intro k b hk eb hfu; exact absurd hfu (by omega)
    | succ fu ih =>
      intro k b hk eb hfu ls hl
      have hbk : b ≤ k := by rw [eb]; exact x_best_le _ _ k
      refine lv_iload_n hx hb dX0_rate_9 rfl (lv_at hl 3 rfl) ?_
      refine lv_aload_n hx hb dX0_rate_10 rfl (lv_at hl 0 rfl) ?_
      refine va_get (D := D) (ci := 0) (v := .int (nI (m_sn M))) (C := RX0) (T := TX0) (N := 15) hx hb hts hin0 hown hK hP 0 rfl rfl 8 (by decide) kw0 (fun _ h9 => h9) rfl dX0_rate_11 ?_
      refine lv_icmp_ge (tgt := 50) hx hb dX0_rate_14 (by decide) (fun c2 => ?_) (fun c2 => ?_)
      · have c2 := k_le (a := (m_sn M)) (b := (k + 1)) (by omega) (by omega) c2
        refine lv_aload_n hx hb dX0_rate_50 rfl (lv_at hl 0 rfl) ?_
        refine va_get (D := D) (ci := 0) (v := .ref (h 7)) (C := RX0) (T := TX0) (N := 15) hx hb hts hin0 hown hK hP 0 rfl rfl 7 (by decide) kw1 (fun _ h9 => h9) rfl dX0_rate_51 ?_
        refine lv_iload_n hx hb dX0_rate_54 rfl (lv_at hl 2 rfl) ?_
        refine r_ald (f := m_sr M) (j := b) hx hb hK hP 7 0 rfl rfl (by omega) (by omega) dX0_rate_55 ?_
        subst hQ
        exact W.iret (v := (m_sr M) b) hx hb hr (fun t ht hW => ⟨_, rfl, (by unfold x_rate; rw [eb, show m_sn M - 1 = k by omega]), ht⟩) (fun q hq => by cases hq) dX0_rate_56
      · have c2 := k_nle (a := (m_sn M)) (b := (k + 1)) (by omega) (by omega) c2
        refine lv_aload_n hx hb dX0_rate_17 rfl (lv_at hl 0 rfl) ?_
        refine va_get (D := D) (ci := 0) (v := .ref (h 6)) (C := RX0) (T := TX0) (N := 15) hx hb hts hin0 hown hK hP 0 rfl rfl 6 (by decide) kw2 (fun _ h9 => h9) rfl dX0_rate_18 ?_
        refine lv_iload_n hx hb dX0_rate_21 rfl (lv_at hl 3 rfl) ?_
        refine r_ald (f := m_st M) (j := (k + 1)) hx hb hK hP 6 0 rfl rfl (by omega) (by omega) dX0_rate_22 ?_
        refine lv_iload_n hx hb dX0_rate_23 rfl (lv_at hl 1 rfl) ?_
        refine lv_icmp_gt (tgt := 44) hx hb dX0_rate_24 (by decide) (fun c3 => ?_) (fun c3 => ?_)
        · refine lv_iinc (v := nI ((k + 1) + 1)) (lv' := [(3, .int (nI ((k + 1) + 1))), (0, .ref (h 0)), (1, .int (x_progress M)), (2, .int (nI b))]) hx hb dX0_rate_44 hl (k := 3) rfl (nI_1 _) (by decide) rfl (fun ls hl => ?_)
          refine lv_goto (tgt := 9) hx hb dX0_rate_47 (by decide) ?_
          exact ih (k + 1) (b) (by omega) (by unfold x_best; rw [← eb, if_neg (fun z => z.1 c3)]) (by omega) ls (lv_sub hl [1, 2, 3, 0] rfl)
        · refine lv_aload_n hx hb dX0_rate_27 rfl (lv_at hl 0 rfl) ?_
          refine va_get (D := D) (ci := 0) (v := .ref (h 6)) (C := RX0) (T := TX0) (N := 15) hx hb hts hin0 hown hK hP 0 rfl rfl 6 (by decide) kw2 (fun _ h9 => h9) rfl dX0_rate_28 ?_
          refine lv_iload_n hx hb dX0_rate_31 rfl (lv_at hl 3 rfl) ?_
          refine r_ald (f := m_st M) (j := (k + 1)) hx hb hK hP 6 0 rfl rfl (by omega) (by omega) dX0_rate_32 ?_
          refine lv_aload_n hx hb dX0_rate_33 rfl (lv_at hl 0 rfl) ?_
          refine va_get (D := D) (ci := 0) (v := .ref (h 6)) (C := RX0) (T := TX0) (N := 15) hx hb hts hin0 hown hK hP 0 rfl rfl 6 (by decide) kw2 (fun _ h9 => h9) rfl dX0_rate_34 ?_
          refine lv_iload_n hx hb dX0_rate_37 rfl (lv_at hl 2 rfl) ?_
          refine r_ald (f := m_st M) (j := b) hx hb hK hP 6 0 rfl rfl (by omega) (by omega) dX0_rate_38 ?_
          refine lv_icmp_le (tgt := 44) hx hb dX0_rate_39 (by decide) (fun c4 => ?_) (fun c4 => ?_)
          · have c4 := Int32.not_lt.mpr c4
            refine lv_iinc (v := nI ((k + 1) + 1)) (lv' := [(3, .int (nI ((k + 1) + 1))), (0, .ref (h 0)), (1, .int (x_progress M)), (2, .int (nI b))]) hx hb dX0_rate_44 hl (k := 3) rfl (nI_1 _) (by decide) rfl (fun ls hl => ?_)
            refine lv_goto (tgt := 9) hx hb dX0_rate_47 (by decide) ?_
            exact ih (k + 1) (b) (by omega) (by unfold x_best; rw [← eb, if_neg (fun z => c4 z.2)]) (by omega) ls (lv_sub hl [1, 2, 3, 0] rfl)
          · have c4 := Int32.not_le.mp c4
            refine lv_iload_n hx hb dX0_rate_42 rfl (lv_at hl 3 rfl) ?_
            refine lv_istore_n (lv' := [(2, .int (nI (k + 1))), (0, .ref (h 0)), (1, .int (x_progress M)), (3, .int (nI (k + 1)))]) hx hb dX0_rate_43 rfl hl (by decide) rfl (fun ls hl => ?_)
            refine lv_iinc (v := nI ((k + 1) + 1)) (lv' := [(3, .int (nI ((k + 1) + 1))), (2, .int (nI (k + 1))), (0, .ref (h 0)), (1, .int (x_progress M))]) hx hb dX0_rate_44 hl (k := 3) rfl (nI_1 _) (by decide) rfl (fun ls hl => ?_)
            refine lv_goto (tgt := 9) hx hb dX0_rate_47 (by decide) ?_
            exact ih (k + 1) ((k + 1)) (by omega) (by unfold x_best; rw [← eb, if_pos ⟨c3, c4⟩]) (by omega) ls (lv_sub hl [2, 3, 1, 0] rfl)
  exact loop (m_sn M + 1) 0 0 (by omega) rfl (by omega) ls (lv_sub hl [3, 2, 1, 0] rfl)
set_option maxHeartbeats 4000000 in
set_option maxRecDepth 100000 in
theorem c0_heldIfClosed (l : Launch) (D : va_G) (h : Nat → Nat) (cA : ClassId) (M : MM) (hM : OKM M) (j : Nat) (hj : j < m_ln M) (rr : Int32) : Met l yX0_heldIfClosed wsX0_heldIfClosed ({ frames := 2, cells := 0, slots := 0, locals := 46 } : Room) (va_Pc [.ref (h 0), .int (nI j), .int rr] (pR D [(cA, .int)] (w0 h cA M))) (vp_Si (fun r : Int32 => r = x_hIf M j rr)) 0 0 (fun _ => False) := by
  refine Met.ofW (cc := cX0_heldIfClosed) (maxL := 3) (ret := (some .int)) (by decide) rfl ?_
  intro p e s m args below meth c s₁ B hml hv
  obtain ⟨rfl, hP, hK⟩ := hv
  have hx := B.exec
  have hb := B.bytes
  have hr := B.returns
  have hts := atoms_spec (ws := wsX0_heldIfClosed) B.pre
  have hown : s.vm.findClass RX0 = some m.cls := findClass_of_methodNamed B.named
  have hlocks := B.notSynchronized
  have kw0 := hts (.fieldLink RX0 94 "ProgressBilling" "holdsByIncrease" "Z") (by decide +kernel)
  have kw1 := hts (.fieldLink RX0 13 "ProgressBilling" "lineEarned" "[I") (by decide +kernel)
  have kw2 := hts (.fieldLink RX0 22 "ProgressBilling" "lineHeld" "[I") (by decide +kernel)
  have kw3 := hts (.fieldLink RX0 19 "ProgressBilling" "lineBilled" "[I") (by decide +kernel)
  have hin0 : ∀ w ∈ u_ws RX0 TX0 15, w ∈ wsX0_heldIfClosed := by decide +kernel
  obtain ⟨hn1, hn2, hn3, hn4⟩ := id hM
  have hl := lv_entry ([.ref (h 0), .int (nI j), .int rr]) (n := 3) (Nat.le_of_ble_eq_true rfl)
  rw [lg_entry_eq]
  generalize (lg_sl ([.ref (h 0), .int (nI j), .int rr]) ++ List.replicate (3 - (lg_sl ([.ref (h 0), .int (nI j), .int rr])).length) Slot.unset).toArray = ls at hl ⊢
  have hl : lv_has ls 3 [(0, .ref (h 0)), (1, .int (nI j)), (2, .int rr)] := hl
  refine w_abs (fun Q hQ => ?_)
  refine lv_aload_n hx hb dX0_heldIfClosed_0 rfl (lv_at hl 0 rfl) ?_
  refine va_get (D := D) (ci := 0) (v := .int (m_hb M)) (C := RX0) (T := TX0) (N := 15) hx hb hts hin0 hown hK hP 0 rfl rfl 9 (by decide) kw0 (fun _ h9 => h9) rfl dX0_heldIfClosed_1 ?_
  refine lv_if_eq (tgt := 32) hx hb dX0_heldIfClosed_4 (by decide) (fun c1 => ?_) (fun c1 => ?_)
  · refine lv_aload_n hx hb dX0_heldIfClosed_32 rfl (lv_at hl 0 rfl) ?_
    refine va_get (D := D) (ci := 0) (v := .ref (h 2)) (C := RX0) (T := TX0) (N := 15) hx hb hts hin0 hown hK hP 0 rfl rfl 1 (by decide) kw1 (fun _ h9 => h9) rfl dX0_heldIfClosed_33 ?_
    refine lv_iload_n hx hb dX0_heldIfClosed_36 rfl (lv_at hl 1 rfl) ?_
    refine r_ald (f := m_le M) (j := j) hx hb hK hP 2 0 rfl rfl (by omega) (by omega) dX0_heldIfClosed_37 ?_
    refine lv_iload_n hx hb dX0_heldIfClosed_38 rfl (lv_at hl 2 rfl) ?_
    refine vp_callSi (W.runS (As := [.int ((m_le M) j), .int rr]) (rest := []) ⟨hx, hb, hml, hown, hts⟩ (c0_thousandths l ((m_le M) j) rr) (va_cwS 2 hts gX0_heldIfClosed_X0_thousandths rfl rfl rfl (by decide +kernel) ⟨Nat.le_of_ble_eq_true rfl, Nat.le_of_ble_eq_true rfl⟩) ⟨nil_fb, nil_mk⟩ rfl rfl hl.1 rfl (lv_room (Nat.le_of_ble_eq_true rfl)) dX0_heldIfClosed_39 ⟨Nat.le_of_ble_eq_true rfl, Nat.le_of_ble_eq_true rfl⟩) (fun r2 qr2 => ?_)
    have qr2 : r2 = x_th ((m_le M) j) rr := qr2
    subst qr2
    subst hQ
    exact W.iret (v := x_th ((m_le M) j) rr) hx hb hr (fun t ht hW => ⟨_, rfl, (by unfold x_hIf; rw [if_pos c1]), ht⟩) (fun q hq => by cases hq) dX0_heldIfClosed_42
  · refine lv_aload_n hx hb dX0_heldIfClosed_7 rfl (lv_at hl 0 rfl) ?_
    refine va_get (D := D) (ci := 0) (v := .ref (h 5)) (C := RX0) (T := TX0) (N := 15) hx hb hts hin0 hown hK hP 0 rfl rfl 4 (by decide) kw2 (fun _ h9 => h9) rfl dX0_heldIfClosed_8 ?_
    refine lv_iload_n hx hb dX0_heldIfClosed_11 rfl (lv_at hl 1 rfl) ?_
    refine r_ald (f := m_lh M) (j := j) hx hb hK hP 5 0 rfl rfl (by omega) (by omega) dX0_heldIfClosed_12 ?_
    refine lv_aload_n hx hb dX0_heldIfClosed_13 rfl (lv_at hl 0 rfl) ?_
    refine va_get (D := D) (ci := 0) (v := .ref (h 2)) (C := RX0) (T := TX0) (N := 15) hx hb hts hin0 hown hK hP 0 rfl rfl 1 (by decide) kw1 (fun _ h9 => h9) rfl dX0_heldIfClosed_14 ?_
    refine lv_iload_n hx hb dX0_heldIfClosed_17 rfl (lv_at hl 1 rfl) ?_
    refine r_ald (f := m_le M) (j := j) hx hb hK hP 2 0 rfl rfl (by omega) (by omega) dX0_heldIfClosed_18 ?_
    refine lv_aload_n hx hb dX0_heldIfClosed_19 rfl (lv_at hl 0 rfl) ?_
    refine va_get (D := D) (ci := 0) (v := .ref (h 4)) (C := RX0) (T := TX0) (N := 15) hx hb hts hin0 hown hK hP 0 rfl rfl 3 (by decide) kw3 (fun _ h9 => h9) rfl dX0_heldIfClosed_20 ?_
    refine lv_iload_n hx hb dX0_heldIfClosed_23 rfl (lv_at hl 1 rfl) ?_
    refine r_ald (f := m_lb M) (j := j) hx hb hK hP 4 0 rfl rfl (by omega) (by omega) dX0_heldIfClosed_24 ?_
    refine lv_isub hx hb dX0_heldIfClosed_25 ?_
    refine lv_iload_n hx hb dX0_heldIfClosed_26 rfl (lv_at hl 2 rfl) ?_
    refine vp_callSi (W.runS (As := [.int (((m_le M) j) - ((m_lb M) j)), .int rr]) (rest := [.int ((m_lh M) j)]) ⟨hx, hb, hml, hown, hts⟩ (c0_thousandths l (((m_le M) j) - ((m_lb M) j)) rr) (va_cwS 2 hts gX0_heldIfClosed_X0_thousandths rfl rfl rfl (by decide +kernel) ⟨Nat.le_of_ble_eq_true rfl, Nat.le_of_ble_eq_true rfl⟩) ⟨nil_fb, nil_mk⟩ rfl rfl hl.1 rfl (lv_room (Nat.le_of_ble_eq_true rfl)) dX0_heldIfClosed_27 ⟨Nat.le_of_ble_eq_true rfl, Nat.le_of_ble_eq_true rfl⟩) (fun r3 qr3 => ?_)
    have qr3 : r3 = x_th (((m_le M) j) - ((m_lb M) j)) rr := qr3
    subst qr3
    refine lv_iadd hx hb dX0_heldIfClosed_30 ?_
    subst hQ
    exact W.iret (v := ((m_lh M) j) + (x_th (((m_le M) j) - ((m_lb M) j)) rr)) hx hb hr (fun t ht hW => ⟨_, rfl, (by unfold x_hIf; rw [if_neg c1]), ht⟩) (fun q hq => by cases hq) dX0_heldIfClosed_31
set_option maxHeartbeats 4000000 in
set_option maxRecDepth 100000 in
theorem c0_nextAmount (l : Launch) (D : va_G) (h : Nat → Nat) (cA : ClassId) (M : MM) (hM : OKM M) : Met l yX0_nextAmount wsX0_nextAmount ({ frames := 4, cells := 0, slots := 0, locals := 90 } : Room) (va_Pc [.ref (h 0)] (pR D [(cA, .int)] (w0 h cA M))) (vp_Si (fun r : Int32 => r = x_next M)) 0 0 (fun _ => False) := by
  refine Met.ofW (cc := cX0_nextAmount) (maxL := 4) (ret := (some .int)) (by decide) rfl ?_
  intro p e s m args below meth c s₁ B hml hv
  obtain ⟨rfl, hP, hK⟩ := hv
  have hx := B.exec
  have hb := B.bytes
  have hr := B.returns
  have hts := atoms_spec (ws := wsX0_nextAmount) B.pre
  have hown : s.vm.findClass RX0 = some m.cls := findClass_of_methodNamed B.named
  have hlocks := B.notSynchronized
  have kw0 := hts (.fieldLink RX0 13 "ProgressBilling" "lineEarned" "[I") (by decide +kernel)
  have kw1 := hts (.fieldLink RX0 55 "ProgressBilling" "lineCount" "I") (by decide +kernel)
  have kw2 := hts (.fieldLink RX0 34 "ProgressBilling" "applicationAmount" "[I") (by decide +kernel)
  have kw3 := hts (.fieldLink RX0 115 "ProgressBilling" "applicationCount" "I") (by decide +kernel)
  have hin0 : ∀ w ∈ u_ws RX0 TX0 15, w ∈ wsX0_nextAmount := by decide +kernel
  obtain ⟨hn1, hn2, hn3, hn4⟩ := id hM
  have hl := lv_entry ([.ref (h 0)]) (n := 4) (Nat.le_of_ble_eq_true rfl)
  rw [lg_entry_eq]
  generalize (lg_sl ([.ref (h 0)]) ++ List.replicate (4 - (lg_sl ([.ref (h 0)])).length) Slot.unset).toArray = ls at hl ⊢
  have hl : lv_has ls 4 [(0, .ref (h 0))] := hl
  refine w_abs (fun Q hQ => ?_)
  refine lv_aload_n hx hb dX0_nextAmount_0 rfl (lv_at hl 0 rfl) ?_
  refine vp_callSi (W.runV (As := []) (rest := []) ⟨hx, hb, hml, hown, hts⟩ (c0_rate l D h cA M hM) (cwV 0 hts gX0_nextAmount_X0_rate rfl rfl rfl (by decide +kernel) ⟨Nat.le_of_ble_eq_true rfl, Nat.le_of_ble_eq_true rfl⟩) ⟨pR_fb, va_recv hK hP (ci := 0) (q0 := 0) rfl rfl, pR_mk hP hK⟩ rfl rfl hl.1 rfl (lv_room (Nat.le_of_ble_eq_true rfl)) dX0_nextAmount_1 ⟨Nat.le_of_ble_eq_true rfl, Nat.le_of_ble_eq_true rfl⟩) (fun r1 qr1 => ?_)
  have qr1 : r1 = x_rate M := qr1
  subst qr1
  refine lv_istore_n (lv' := [(1, .int (x_rate M)), (0, .ref (h 0))]) hx hb dX0_nextAmount_4 rfl hl (by decide) rfl (fun ls hl => ?_)
  refine lv_aload_n hx hb dX0_nextAmount_5 rfl (lv_at hl 1 rfl) ?_
  refine va_get (D := D) (ci := 0) (v := .ref (h 2)) (C := RX0) (T := TX0) (N := 15) hx hb hts hin0 hown hK hP 0 rfl rfl 1 (by decide) kw0 (fun _ h9 => h9) rfl dX0_nextAmount_6 ?_
  refine lv_aload_n hx hb dX0_nextAmount_9 rfl (lv_at hl 1 rfl) ?_
  refine va_get (D := D) (ci := 0) (v := .int (nI (m_ln M))) (C := RX0) (T := TX0) (N := 15) hx hb hts hin0 hown hK hP 0 rfl rfl 5 (by decide) kw1 (fun _ h9 => h9) rfl dX0_nextAmount_10 ?_
  refine vp_callSi (W.runS (As := [.ref (h 2), .int (nI (m_ln M))]) (rest := []) ⟨hx, hb, hml, hown, hts⟩ (c0_sum l D cA (h 2) 16 (m_le M) (m_ln M) (by omega) (by omega)) (va_cwS 2 hts gX0_nextAmount_X0_sum rfl rfl rfl (by decide +kernel) ⟨Nat.le_of_ble_eq_true rfl, Nat.le_of_ble_eq_true rfl⟩) ⟨pR_fb, pR_mk (hP.sub (ws' := [(h 2, .inl (cA, 16, .inl (m_le M)))]) [2] rfl) hK⟩ rfl rfl hl.1 rfl (lv_room (Nat.le_of_ble_eq_true rfl)) dX0_nextAmount_13 ⟨Nat.le_of_ble_eq_true rfl, Nat.le_of_ble_eq_true rfl⟩) (fun r2 qr2 => ?_)
  have qr2 : r2 = psum (m_le M) (m_ln M) := qr2
  subst qr2
  refine lv_aload_n hx hb dX0_nextAmount_16 rfl (lv_at hl 1 rfl) ?_
  refine va_get (D := D) (ci := 0) (v := .ref (h 9)) (C := RX0) (T := TX0) (N := 15) hx hb hts hin0 hown hK hP 0 rfl rfl 11 (by decide) kw2 (fun _ h9 => h9) rfl dX0_nextAmount_17 ?_
  refine lv_aload_n hx hb dX0_nextAmount_20 rfl (lv_at hl 1 rfl) ?_
  refine va_get (D := D) (ci := 0) (v := .int (nI (m_an M))) (C := RX0) (T := TX0) (N := 15) hx hb hts hin0 hown hK hP 0 rfl rfl 14 (by decide) kw3 (fun _ h9 => h9) rfl dX0_nextAmount_21 ?_
  refine vp_callSi (W.runS (As := [.ref (h 9), .int (nI (m_an M))]) (rest := [.int (psum (m_le M) (m_ln M))]) ⟨hx, hb, hml, hown, hts⟩ (c0_sum l D cA (h 9) 60 (m_aa M) (m_an M) (by omega) (by omega)) (va_cwS 2 hts gX0_nextAmount_X0_sum rfl rfl rfl (by decide +kernel) ⟨Nat.le_of_ble_eq_true rfl, Nat.le_of_ble_eq_true rfl⟩) ⟨pR_fb, pR_mk (hP.sub (ws' := [(h 9, .inl (cA, 60, .inl (m_aa M)))]) [9] rfl) hK⟩ rfl rfl hl.1 rfl (lv_room (Nat.le_of_ble_eq_true rfl)) dX0_nextAmount_24 ⟨Nat.le_of_ble_eq_true rfl, Nat.le_of_ble_eq_true rfl⟩) (fun r3 qr3 => ?_)
  have qr3 : r3 = psum (m_aa M) (m_an M) := qr3
  subst qr3
  refine lv_isub hx hb dX0_nextAmount_27 ?_
  refine lv_istore_n (lv' := [(2, .int ((psum (m_le M) (m_ln M)) - (psum (m_aa M) (m_an M)))), (1, .int (x_rate M)), (0, .ref (h 0))]) hx hb dX0_nextAmount_28 rfl hl (by decide) rfl (fun ls hl => ?_)
  refine lv_iconst (v := 0) hx hb dX0_nextAmount_29 (by decide) ?_
  refine lv_istore_n (lv' := [(3, .int 0), (2, .int ((psum (m_le M) (m_ln M)) - (psum (m_aa M) (m_an M)))), (1, .int (x_rate M)), (0, .ref (h 0))]) hx hb dX0_nextAmount_30 rfl hl (by decide) rfl (fun ls hl => ?_)
  have loop : ∀ (fu : Nat) (k : Nat) (x2 : Int32), k ≤ m_ln M → x2 = x_nsub M (x_rate M) (psum (m_le M) (m_ln M) - psum (m_aa M) (m_an M)) k → m_ln M - k < fu → ∀ (ls : Array Slot), lv_has ls 4 [(0, .ref (h 0)), (1, .int (x_rate M)), (2, .int x2), (3, .int (nI k))] → W p l e (headSpec wsX0_nextAmount ({ frames := 4, cells := 0, slots := 0, locals := 90 } : Room)).room s m ([.ref (h 0)] : List Value).toArray below meth c s.heap [] 0 0 Q (F0 m 31 ls []) := by
    intro fu
    induction fu with
    | zero => intro k x2 hk e2 hfu; exact absurd hfu (by omega)
    | succ fu ih =>
      intro k x2 hk e2 hfu ls hl
      refine lv_iload_n hx hb dX0_nextAmount_31 rfl (lv_at hl 3 rfl) ?_
      refine lv_aload_n hx hb dX0_nextAmount_32 rfl (lv_at hl 0 rfl) ?_
      refine va_get (D := D) (ci := 0) (v := .int (nI (m_ln M))) (C := RX0) (T := TX0) (N := 15) hx hb hts hin0 hown hK hP 0 rfl rfl 5 (by decide) kw1 (fun _ h9 => h9) rfl dX0_nextAmount_33 ?_
      refine lv_icmp_ge (tgt := 54) hx hb dX0_nextAmount_36 (by decide) (fun c4 => ?_) (fun c4 => ?_)
      · have c4 := k_le (a := (m_ln M)) (b := k) (by omega) (by omega) c4
        refine lv_iload_n hx hb dX0_nextAmount_54 rfl (lv_at hl 2 rfl) ?_
        subst hQ
        exact W.iret (v := x2) hx hb hr (fun t ht hW => ⟨_, rfl, (by unfold x_next; rw [e2, show k = m_ln M by omega]), ht⟩) (fun q hq => by cases hq) dX0_nextAmount_55
      · have c4 := k_nle (a := (m_ln M)) (b := k) (by omega) (by omega) c4
        refine lv_iload_n hx hb dX0_nextAmount_39 rfl (lv_at hl 2 rfl) ?_
        refine lv_aload_n hx hb dX0_nextAmount_40 rfl (lv_at hl 0 rfl) ?_
        refine lv_iload_n hx hb dX0_nextAmount_41 rfl (lv_at hl 3 rfl) ?_
        refine lv_iload_n hx hb dX0_nextAmount_42 rfl (lv_at hl 1 rfl) ?_
        refine vp_callSi (W.runV (As := [.int (nI k), .int (x_rate M)]) (rest := [.int x2]) ⟨hx, hb, hml, hown, hts⟩ (c0_heldIfClosed l D h cA M hM k (by first | omega | assumption) (x_rate M)) (cwV 2 hts gX0_nextAmount_X0_heldIfClosed rfl rfl rfl (by decide +kernel) ⟨Nat.le_of_ble_eq_true rfl, Nat.le_of_ble_eq_true rfl⟩) ⟨pR_fb, va_recv hK hP (ci := 0) (q0 := 0) rfl rfl, pR_mk hP hK⟩ rfl rfl hl.1 rfl (lv_room (Nat.le_of_ble_eq_true rfl)) dX0_nextAmount_43 ⟨Nat.le_of_ble_eq_true rfl, Nat.le_of_ble_eq_true rfl⟩) (fun r5 qr5 => ?_)
        have qr5 : r5 = x_hIf M k (x_rate M) := qr5
        subst qr5
        refine lv_isub hx hb dX0_nextAmount_46 ?_
        refine lv_istore_n (lv' := [(2, .int (x2 - (x_hIf M k (x_rate M)))), (0, .ref (h 0)), (1, .int (x_rate M)), (3, .int (nI k))]) hx hb dX0_nextAmount_47 rfl hl (by decide) rfl (fun ls hl => ?_)
        refine lv_iinc (v := nI (k + 1)) (lv' := [(3, .int (nI (k + 1))), (2, .int (x2 - (x_hIf M k (x_rate M)))), (0, .ref (h 0)), (1, .int (x_rate M))]) hx hb dX0_nextAmount_48 hl (k := 3) rfl (nI_1 _) (by decide) rfl (fun ls hl => ?_)
        refine lv_goto (tgt := 31) hx hb dX0_nextAmount_51 (by decide) ?_
        exact ih (k + 1) _ (by omega) (by rw [e2]; rfl) (by omega) ls (lv_sub hl [2, 3, 1, 0] rfl)
  exact loop (m_ln M + 1) 0 _ (Nat.zero_le _) rfl (by omega) ls (lv_sub hl [3, 2, 1, 0] rfl)
set_option maxHeartbeats 4000000 in
set_option maxRecDepth 100000 in
theorem c0_waiversGiven (l : Launch) (D : va_G) (h : Nat → Nat) (cA : ClassId) (M : MM) (hM : OKM M) : Met l yX0_waiversGiven wsX0_waiversGiven ({ frames := 0, cells := 0, slots := 0, locals := 0 } : Room) (va_Pc [.ref (h 0)] (pR D [(cA, .int)] (w0 h cA M))) (vp_Si (fun r : Int32 => r = nI (cnt2 (m_as M) (m_an M)))) 0 0 (fun _ => False) := by
  refine Met.ofW (cc := cX0_waiversGiven) (maxL := 3) (ret := (some .int)) (by decide) rfl ?_
  intro p e s m args below meth c s₁ B hml hv
  obtain ⟨rfl, hP, hK⟩ := hv
  have hx := B.exec
  have hb := B.bytes
  have hr := B.returns
  have hts := atoms_spec (ws := wsX0_waiversGiven) B.pre
  have hown : s.vm.findClass RX0 = some m.cls := findClass_of_methodNamed B.named
  have hlocks := B.notSynchronized
  have kw0 := hts (.fieldLink RX0 115 "ProgressBilling" "applicationCount" "I") (by decide +kernel)
  have kw1 := hts (.fieldLink RX0 31 "ProgressBilling" "applicationState" "[I") (by decide +kernel)
  have hin0 : ∀ w ∈ u_ws RX0 TX0 15, w ∈ wsX0_waiversGiven := by decide +kernel
  obtain ⟨hn1, hn2, hn3, hn4⟩ := id hM
  have hl := lv_entry ([.ref (h 0)]) (n := 3) (Nat.le_of_ble_eq_true rfl)
  rw [lg_entry_eq]
  generalize (lg_sl ([.ref (h 0)]) ++ List.replicate (3 - (lg_sl ([.ref (h 0)])).length) Slot.unset).toArray = ls at hl ⊢
  have hl : lv_has ls 3 [(0, .ref (h 0))] := hl
  refine w_abs (fun Q hQ => ?_)
  refine lv_iconst (v := 0) hx hb dX0_waiversGiven_0 (by decide) ?_
  refine lv_istore_n (lv' := [(1, .int 0), (0, .ref (h 0))]) hx hb dX0_waiversGiven_1 rfl hl (by decide) rfl (fun ls hl => ?_)
  refine lv_iconst (v := 0) hx hb dX0_waiversGiven_2 (by decide) ?_
  refine lv_istore_n (lv' := [(2, .int 0), (1, .int 0), (0, .ref (h 0))]) hx hb dX0_waiversGiven_3 rfl hl (by decide) rfl (fun ls hl => ?_)
  have loop : ∀ (fu : Nat) (k : Nat) (b : Nat), k ≤ m_an M → b ≤ k → b = cnt2 (m_as M) k → m_an M - k < fu → ∀ (ls : Array Slot), lv_has ls 3 [(0, .ref (h 0)), (1, .int (nI b)), (2, .int (nI k))] → W p l e (headSpec wsX0_waiversGiven ({ frames := 0, cells := 0, slots := 0, locals := 0 } : Room)).room s m ([.ref (h 0)] : List Value).toArray below meth c s.heap [] 0 0 Q (F0 m 4 ls []) := by
    intro fu
    induction fu with
    | zero => intro k b hk hb2 eb hfu; exact absurd hfu (by omega)
    | succ fu ih =>
      intro k b hk hb2 eb hfu ls hl
      refine lv_iload_n hx hb dX0_waiversGiven_4 rfl (lv_at hl 2 rfl) ?_
      refine lv_aload_n hx hb dX0_waiversGiven_5 rfl (lv_at hl 0 rfl) ?_
      refine va_get (D := D) (ci := 0) (v := .int (nI (m_an M))) (C := RX0) (T := TX0) (N := 15) hx hb hts hin0 hown hK hP 0 rfl rfl 14 (by decide) kw0 (fun _ h9 => h9) rfl dX0_waiversGiven_6 ?_
      refine lv_icmp_ge (tgt := 31) hx hb dX0_waiversGiven_9 (by decide) (fun c1 => ?_) (fun c1 => ?_)
      · have c1 := k_le (a := (m_an M)) (b := k) (by omega) (by omega) c1
        refine lv_iload_n hx hb dX0_waiversGiven_31 rfl (lv_at hl 1 rfl) ?_
        subst hQ
        exact W.iret (v := nI b) hx hb hr (fun t ht hW => ⟨_, rfl, (by rw [eb, show k = m_an M by omega]), ht⟩) (fun q hq => by cases hq) dX0_waiversGiven_32
      · have c1 := k_nle (a := (m_an M)) (b := k) (by omega) (by omega) c1
        refine lv_aload_n hx hb dX0_waiversGiven_12 rfl (lv_at hl 0 rfl) ?_
        refine va_get (D := D) (ci := 0) (v := .ref (h 8)) (C := RX0) (T := TX0) (N := 15) hx hb hts hin0 hown hK hP 0 rfl rfl 10 (by decide) kw1 (fun _ h9 => h9) rfl dX0_waiversGiven_13 ?_
        refine lv_iload_n hx hb dX0_waiversGiven_16 rfl (lv_at hl 2 rfl) ?_
        refine r_ald (f := m_as M) (j := k) hx hb hK hP 8 0 rfl rfl (by omega) (by omega) dX0_waiversGiven_17 ?_
        refine lv_iconst (v := 2) hx hb dX0_waiversGiven_18 (by decide) ?_
        refine lv_icmp_ne (tgt := 25) hx hb dX0_waiversGiven_19 (by decide) (fun c2 => ?_) (fun c2 => ?_)
        · refine lv_iinc (v := nI (k + 1)) (lv' := [(2, .int (nI (k + 1))), (0, .ref (h 0)), (1, .int (nI b))]) hx hb dX0_waiversGiven_25 hl (k := 2) rfl (nI_1 _) (by decide) rfl (fun ls hl => ?_)
          refine lv_goto (tgt := 4) hx hb dX0_waiversGiven_28 (by decide) ?_
          exact ih (k + 1) (b) (by omega) (by omega) (by unfold cnt2; rw [← eb, if_neg c2]) (by omega) ls (lv_sub hl [1, 2, 0] rfl)
        · refine lv_iinc (v := nI (b + 1)) (lv' := [(1, .int (nI (b + 1))), (0, .ref (h 0)), (2, .int (nI k))]) hx hb dX0_waiversGiven_22 hl (k := 1) rfl (nI_1 _) (by decide) rfl (fun ls hl => ?_)
          refine lv_iinc (v := nI (k + 1)) (lv' := [(2, .int (nI (k + 1))), (1, .int (nI (b + 1))), (0, .ref (h 0))]) hx hb dX0_waiversGiven_25 hl (k := 2) rfl (nI_1 _) (by decide) rfl (fun ls hl => ?_)
          refine lv_goto (tgt := 4) hx hb dX0_waiversGiven_28 (by decide) ?_
          exact ih (k + 1) ((b + 1)) (by omega) (by omega) (by unfold cnt2; rw [← eb, if_pos c2]) (by omega) ls (lv_sub hl [2, 1, 0] rfl)
  exact loop (m_an M + 1) 0 0 (Nat.zero_le _) (Nat.zero_le _) rfl (by omega) ls (lv_sub hl [2, 1, 0] rfl)
set_option maxHeartbeats 4000000 in
set_option maxRecDepth 100000 in
theorem c0_paid (l : Launch) (D : va_G) (h : Nat → Nat) (cA : ClassId) (M : MM) (hM : OKM M) : Met l yX0_paid wsX0_paid ({ frames := 0, cells := 0, slots := 0, locals := 0 } : Room) (va_Pc [.ref (h 0)] (pR D [(cA, .int)] (w0 h cA M))) (vp_Si (fun r : Int32 => r = x_psum (m_as M) (m_aa M) (m_an M))) 0 0 (fun _ => False) := by
  refine Met.ofW (cc := cX0_paid) (maxL := 3) (ret := (some .int)) (by decide) rfl ?_
  intro p e s m args below meth c s₁ B hml hv
  obtain ⟨rfl, hP, hK⟩ := hv
  have hx := B.exec
  have hb := B.bytes
  have hr := B.returns
  have hts := atoms_spec (ws := wsX0_paid) B.pre
  have hown : s.vm.findClass RX0 = some m.cls := findClass_of_methodNamed B.named
  have hlocks := B.notSynchronized
  have kw0 := hts (.fieldLink RX0 115 "ProgressBilling" "applicationCount" "I") (by decide +kernel)
  have kw1 := hts (.fieldLink RX0 31 "ProgressBilling" "applicationState" "[I") (by decide +kernel)
  have kw2 := hts (.fieldLink RX0 34 "ProgressBilling" "applicationAmount" "[I") (by decide +kernel)
  have hin0 : ∀ w ∈ u_ws RX0 TX0 15, w ∈ wsX0_paid := by decide +kernel
  obtain ⟨hn1, hn2, hn3, hn4⟩ := id hM
  have hl := lv_entry ([.ref (h 0)]) (n := 3) (Nat.le_of_ble_eq_true rfl)
  rw [lg_entry_eq]
  generalize (lg_sl ([.ref (h 0)]) ++ List.replicate (3 - (lg_sl ([.ref (h 0)])).length) Slot.unset).toArray = ls at hl ⊢
  have hl : lv_has ls 3 [(0, .ref (h 0))] := hl
  refine w_abs (fun Q hQ => ?_)
  refine lv_iconst (v := 0) hx hb dX0_paid_0 (by decide) ?_
  refine lv_istore_n (lv' := [(1, .int 0), (0, .ref (h 0))]) hx hb dX0_paid_1 rfl hl (by decide) rfl (fun ls hl => ?_)
  refine lv_iconst (v := 0) hx hb dX0_paid_2 (by decide) ?_
  refine lv_istore_n (lv' := [(2, .int 0), (1, .int 0), (0, .ref (h 0))]) hx hb dX0_paid_3 rfl hl (by decide) rfl (fun ls hl => ?_)
  have loop : ∀ (fu : Nat) (k : Nat) (x2 : Int32), k ≤ m_an M → x2 = x_psum (m_as M) (m_aa M) k → m_an M - k < fu → ∀ (ls : Array Slot), lv_has ls 3 [(0, .ref (h 0)), (1, .int x2), (2, .int (nI k))] → W p l e (headSpec wsX0_paid ({ frames := 0, cells := 0, slots := 0, locals := 0 } : Room)).room s m ([.ref (h 0)] : List Value).toArray below meth c s.heap [] 0 0 Q (F0 m 4 ls []) := by
    intro fu
    induction fu with
    | zero => intro k x2 hk e2 hfu; exact absurd hfu (by omega)
    | succ fu ih =>
      intro k x2 hk e2 hfu ls hl
      refine lv_iload_n hx hb dX0_paid_4 rfl (lv_at hl 2 rfl) ?_
      refine lv_aload_n hx hb dX0_paid_5 rfl (lv_at hl 0 rfl) ?_
      refine va_get (D := D) (ci := 0) (v := .int (nI (m_an M))) (C := RX0) (T := TX0) (N := 15) hx hb hts hin0 hown hK hP 0 rfl rfl 14 (by decide) kw0 (fun _ h9 => h9) rfl dX0_paid_6 ?_
      refine lv_icmp_ge (tgt := 36) hx hb dX0_paid_9 (by decide) (fun c1 => ?_) (fun c1 => ?_)
      · have c1 := k_le (a := (m_an M)) (b := k) (by omega) (by omega) c1
        refine lv_iload_n hx hb dX0_paid_36 rfl (lv_at hl 1 rfl) ?_
        subst hQ
        exact W.iret (v := x2) hx hb hr (fun t ht hW => ⟨_, rfl, (by rw [e2, show k = m_an M by omega]), ht⟩) (fun q hq => by cases hq) dX0_paid_37
      · have c1 := k_nle (a := (m_an M)) (b := k) (by omega) (by omega) c1
        refine lv_aload_n hx hb dX0_paid_12 rfl (lv_at hl 0 rfl) ?_
        refine va_get (D := D) (ci := 0) (v := .ref (h 8)) (C := RX0) (T := TX0) (N := 15) hx hb hts hin0 hown hK hP 0 rfl rfl 10 (by decide) kw1 (fun _ h9 => h9) rfl dX0_paid_13 ?_
        refine lv_iload_n hx hb dX0_paid_16 rfl (lv_at hl 2 rfl) ?_
        refine r_ald (f := m_as M) (j := k) hx hb hK hP 8 0 rfl rfl (by omega) (by omega) dX0_paid_17 ?_
        refine lv_if_eq (tgt := 30) hx hb dX0_paid_18 (by decide) (fun c2 => ?_) (fun c2 => ?_)
        · refine lv_iinc (v := nI (k + 1)) (lv' := [(2, .int (nI (k + 1))), (0, .ref (h 0)), (1, .int x2)]) hx hb dX0_paid_30 hl (k := 2) rfl (nI_1 _) (by decide) rfl (fun ls hl => ?_)
          refine lv_goto (tgt := 4) hx hb dX0_paid_33 (by decide) ?_
          exact ih (k + 1) x2 (by omega) (by unfold x_psum; rw [← e2, if_pos c2]) (by omega) ls (lv_sub hl [1, 2, 0] rfl)
        · refine lv_iload_n hx hb dX0_paid_21 rfl (lv_at hl 1 rfl) ?_
          refine lv_aload_n hx hb dX0_paid_22 rfl (lv_at hl 0 rfl) ?_
          refine va_get (D := D) (ci := 0) (v := .ref (h 9)) (C := RX0) (T := TX0) (N := 15) hx hb hts hin0 hown hK hP 0 rfl rfl 11 (by decide) kw2 (fun _ h9 => h9) rfl dX0_paid_23 ?_
          refine lv_iload_n hx hb dX0_paid_26 rfl (lv_at hl 2 rfl) ?_
          refine r_ald (f := m_aa M) (j := k) hx hb hK hP 9 0 rfl rfl (by omega) (by omega) dX0_paid_27 ?_
          refine lv_iadd hx hb dX0_paid_28 ?_
          refine lv_istore_n (lv' := [(1, .int (x2 + ((m_aa M) k))), (0, .ref (h 0)), (2, .int (nI k))]) hx hb dX0_paid_29 rfl hl (by decide) rfl (fun ls hl => ?_)
          refine lv_iinc (v := nI (k + 1)) (lv' := [(2, .int (nI (k + 1))), (1, .int (x2 + ((m_aa M) k))), (0, .ref (h 0))]) hx hb dX0_paid_30 hl (k := 2) rfl (nI_1 _) (by decide) rfl (fun ls hl => ?_)
          refine lv_goto (tgt := 4) hx hb dX0_paid_33 (by decide) ?_
          exact ih (k + 1) (x2 + ((m_aa M) k)) (by omega) (by unfold x_psum; rw [← e2, if_neg c2]) (by omega) ls (lv_sub hl [2, 1, 0] rfl)
  exact loop (m_an M + 1) 0 0 (Nat.zero_le _) rfl (by omega) ls (lv_sub hl [2, 1, 0] rfl)
set_option maxHeartbeats 4000000 in
set_option maxRecDepth 100000 in
theorem c0_toCome (l : Launch) (D : va_G) (h : Nat → Nat) (cA : ClassId) (M : MM) (hM : OKM M) : Met l yX0_toCome wsX0_toCome ({ frames := 2, cells := 0, slots := 0, locals := 43 } : Room) (va_Pc [.ref (h 0)] (pR D [(cA, .int)] (w0 h cA M))) (vp_Si (fun r : Int32 => r = x_csum M - x_psum (m_as M) (m_aa M) (m_an M))) 0 0 (fun _ => False) := by
  refine Met.ofW (cc := cX0_toCome) (maxL := 1) (ret := (some .int)) (by decide) rfl ?_
  intro p e s m args below meth c s₁ B hml hv
  obtain ⟨rfl, hP, hK⟩ := hv
  have hx := B.exec
  have hb := B.bytes
  have hr := B.returns
  have hts := atoms_spec (ws := wsX0_toCome) B.pre
  have hown : s.vm.findClass RX0 = some m.cls := findClass_of_methodNamed B.named
  have hlocks := B.notSynchronized
  obtain ⟨hn1, hn2, hn3, hn4⟩ := id hM
  have hl := lv_entry ([.ref (h 0)]) (n := 1) (Nat.le_of_ble_eq_true rfl)
  rw [lg_entry_eq]
  generalize (lg_sl ([.ref (h 0)]) ++ List.replicate (1 - (lg_sl ([.ref (h 0)])).length) Slot.unset).toArray = ls at hl ⊢
  have hl : lv_has ls 1 [(0, .ref (h 0))] := hl
  refine w_abs (fun Q hQ => ?_)
  refine lv_aload_n hx hb dX0_toCome_0 rfl (lv_at hl 0 rfl) ?_
  refine vp_callSi (W.runV (As := []) (rest := []) ⟨hx, hb, hml, hown, hts⟩ (c0_contractSum l D h cA M hM) (cwV 0 hts gX0_toCome_X0_contractSum rfl rfl rfl (by decide +kernel) ⟨Nat.le_of_ble_eq_true rfl, Nat.le_of_ble_eq_true rfl⟩) ⟨pR_fb, va_recv hK hP (ci := 0) (q0 := 0) rfl rfl, pR_mk hP hK⟩ rfl rfl hl.1 rfl (lv_room (Nat.le_of_ble_eq_true rfl)) dX0_toCome_1 ⟨Nat.le_of_ble_eq_true rfl, Nat.le_of_ble_eq_true rfl⟩) (fun r1 qr1 => ?_)
  have qr1 : r1 = x_csum M := qr1
  subst qr1
  refine lv_aload_n hx hb dX0_toCome_4 rfl (lv_at hl 0 rfl) ?_
  refine vp_callSi (W.runV (As := []) (rest := [.int (x_csum M)]) ⟨hx, hb, hml, hown, hts⟩ (c0_paid l D h cA M hM) (cwV 0 hts gX0_toCome_X0_paid rfl rfl rfl (by decide +kernel) ⟨Nat.le_of_ble_eq_true rfl, Nat.le_of_ble_eq_true rfl⟩) ⟨pR_fb, va_recv hK hP (ci := 0) (q0 := 0) rfl rfl, pR_mk hP hK⟩ rfl rfl hl.1 rfl (lv_room (Nat.le_of_ble_eq_true rfl)) dX0_toCome_5 ⟨Nat.le_of_ble_eq_true rfl, Nat.le_of_ble_eq_true rfl⟩) (fun r2 qr2 => ?_)
  have qr2 : r2 = x_psum (m_as M) (m_aa M) (m_an M) := qr2
  subst qr2
  refine lv_isub hx hb dX0_toCome_8 ?_
  subst hQ
  exact W.iret (v := (x_csum M) - (x_psum (m_as M) (m_aa M) (m_an M))) hx hb hr (fun t ht hW => ⟨_, rfl, rfl, ht⟩) (fun q hq => by cases hq) dX0_toCome_9
set_option maxHeartbeats 4000000 in
set_option maxRecDepth 100000 in
theorem c0_shareDivisor (l : Launch) (D : va_G) (h : Nat → Nat) (cA : ClassId) (M : MM) (hM : OKM M) (j : Nat) (hj : j < m_ln M) : Met l yX0_shareDivisor wsX0_shareDivisor ({ frames := 1, cells := 0, slots := 0, locals := 21 } : Room) (va_Pc [.ref (h 0), .int (nI j)] (pR D [(cA, .int)] (w0 h cA M))) (vp_Si (fun r : Int32 => r = x_dv M j)) 0 0 (fun _ => False) := by
  refine Met.ofW (cc := cX0_shareDivisor) (maxL := 2) (ret := (some .int)) (by decide) rfl ?_
  intro p e s m args below meth c s₁ B hml hv
  obtain ⟨rfl, hP, hK⟩ := hv
  have hx := B.exec
  have hb := B.bytes
  have hr := B.returns
  have hts := atoms_spec (ws := wsX0_shareDivisor) B.pre
  have hown : s.vm.findClass RX0 = some m.cls := findClass_of_methodNamed B.named
  have hlocks := B.notSynchronized
  have kw0 := hts (.fieldLink RX0 9 "ProgressBilling" "lineValue" "[I") (by decide +kernel)
  have kw1 := hts (.methodLink RX0 175 Lib.Math.max.name) (by decide +kernel)
  have kw2 := hts (.static Lib.Math.max.name) (by decide +kernel)
  have kw3 := hts (.initialized "java/lang/Math") (by decide +kernel)
  have kw4 := hts (.code Lib.Math.max.name Lib.Math.max.code 2 (some .int)) (by decide +kernel)
  have hin0 : ∀ w ∈ u_ws RX0 TX0 15, w ∈ wsX0_shareDivisor := by decide +kernel
  obtain ⟨hn1, hn2, hn3, hn4⟩ := id hM
  have hl := lv_entry ([.ref (h 0), .int (nI j)]) (n := 2) (Nat.le_of_ble_eq_true rfl)
  rw [lg_entry_eq]
  generalize (lg_sl ([.ref (h 0), .int (nI j)]) ++ List.replicate (2 - (lg_sl ([.ref (h 0), .int (nI j)])).length) Slot.unset).toArray = ls at hl ⊢
  have hl : lv_has ls 2 [(0, .ref (h 0)), (1, .int (nI j))] := hl
  refine w_abs (fun Q hQ => ?_)
  refine lv_aload_n hx hb dX0_shareDivisor_0 rfl (lv_at hl 0 rfl) ?_
  refine va_get (D := D) (ci := 0) (v := .ref (h 1)) (C := RX0) (T := TX0) (N := 15) hx hb hts hin0 hown hK hP 0 rfl rfl 0 (by decide) kw0 (fun _ h9 => h9) rfl dX0_shareDivisor_1 ?_
  refine lv_iload_n hx hb dX0_shareDivisor_4 rfl (lv_at hl 1 rfl) ?_
  refine r_ald (f := m_lv M) (j := j) hx hb hK hP 1 0 rfl rfl (by omega) (by omega) dX0_shareDivisor_5 ?_
  refine lv_iconst (v := 1) hx hb dX0_shareDivisor_6 (by decide) ?_
  refine va_mmax hx hb (hml.trans hl.1.symm) hown kw1 kw2 kw3 kw4 (Nat.le_of_ble_eq_true rfl) (Nat.le_of_ble_eq_true rfl) (Nat.le_of_ble_eq_true rfl) (Nat.le_of_ble_eq_true rfl) dX0_shareDivisor_7 ?_
  subst hQ
  exact W.iret (v := if (m_lv M) j < 1 then 1 else (m_lv M) j) hx hb hr (fun t ht hW => ⟨_, rfl, rfl, ht⟩) (fun q hq => by cases hq) dX0_shareDivisor_10
set_option maxHeartbeats 4000000 in
set_option maxRecDepth 100000 in
theorem c0_isAhead (l : Launch) (D : va_G) (h : Nat → Nat) (cA : ClassId) (M : MM) (hM : OKM M) (a b : Nat) (ha : a < m_ln M) (hb9 : b < m_ln M) : Met l yX0_isAhead wsX0_isAhead ({ frames := 2, cells := 0, slots := 0, locals := 42 } : Room) (va_Pc [.ref (h 0), .int (nI a), .int (nI b)] (pR D [(cA, .int)] (w0 h cA M))) (vp_Si (fun r : Int32 => r = if z_ah (m_lw M) (x_dv M) a b = true then 1 else 0)) 0 0 (fun _ => False) := by
  refine Met.ofW (cc := cX0_isAhead) (maxL := 7) (ret := (some .boolean)) (by decide) rfl ?_
  intro p e s m args below meth c s₁ B hml hv
  obtain ⟨rfl, hP, hK⟩ := hv
  have hx := B.exec
  have hb := B.bytes
  have hr := B.returns
  have hts := atoms_spec (ws := wsX0_isAhead) B.pre
  have hown : s.vm.findClass RX0 = some m.cls := findClass_of_methodNamed B.named
  have hlocks := B.notSynchronized
  have kw0 := hts (.fieldLink RX0 16 "ProgressBilling" "lineWork" "[I") (by decide +kernel)
  have hin0 : ∀ w ∈ u_ws RX0 TX0 15, w ∈ wsX0_isAhead := by decide +kernel
  obtain ⟨hn1, hn2, hn3, hn4⟩ := id hM
  have hl := lv_entry ([.ref (h 0), .int (nI a), .int (nI b)]) (n := 7) (Nat.le_of_ble_eq_true rfl)
  rw [lg_entry_eq]
  generalize (lg_sl ([.ref (h 0), .int (nI a), .int (nI b)]) ++ List.replicate (7 - (lg_sl ([.ref (h 0), .int (nI a), .int (nI b)])).length) Slot.unset).toArray = ls at hl ⊢
  have hl : lv_has ls 7 [(0, .ref (h 0)), (1, .int (nI a)), (2, .int (nI b))] := hl
  refine w_abs (fun Q hQ => ?_)
  refine lv_aload_n hx hb dX0_isAhead_0 rfl (lv_at hl 0 rfl) ?_
  refine va_get (D := D) (ci := 0) (v := .ref (h 3)) (C := RX0) (T := TX0) (N := 15) hx hb hts hin0 hown hK hP 0 rfl rfl 2 (by decide) kw0 (fun _ h9 => h9) rfl dX0_isAhead_1 ?_
  refine lv_iload_n hx hb dX0_isAhead_4 rfl (lv_at hl 1 rfl) ?_
  refine r_ald (f := m_lw M) (j := a) hx hb hK hP 3 0 rfl rfl (by omega) (by omega) dX0_isAhead_5 ?_
  refine lv_i2l (v := ((m_lw M) a).toInt64) hx hb dX0_isAhead_6 rfl ?_
  refine lv_aload_n hx hb dX0_isAhead_7 rfl (lv_at hl 0 rfl) ?_
  refine lv_iload_n hx hb dX0_isAhead_8 rfl (lv_at hl 2 rfl) ?_
  refine vp_callSi (W.runV (As := [.int (nI b)]) (rest := [.long (((m_lw M) a).toInt64)]) ⟨hx, hb, hml, hown, hts⟩ (c0_shareDivisor l D h cA M hM b (by assumption)) (cwV 1 hts gX0_isAhead_X0_shareDivisor rfl rfl rfl (by decide +kernel) ⟨Nat.le_of_ble_eq_true rfl, Nat.le_of_ble_eq_true rfl⟩) ⟨pR_fb, va_recv hK hP (ci := 0) (q0 := 0) rfl rfl, pR_mk hP hK⟩ rfl rfl hl.1 rfl (lv_room (Nat.le_of_ble_eq_true rfl)) dX0_isAhead_9 ⟨Nat.le_of_ble_eq_true rfl, Nat.le_of_ble_eq_true rfl⟩) (fun r1 qr1 => ?_)
  have qr1 : r1 = x_dv M b := qr1
  subst qr1
  refine lv_i2l (v := (x_dv M b).toInt64) hx hb dX0_isAhead_12 rfl ?_
  refine lv_lmul hx hb dX0_isAhead_13 ?_
  refine lv_lstore_n (lv' := [(3, .long ((((m_lw M) a).toInt64) * ((x_dv M b).toInt64))), (0, .ref (h 0)), (1, .int (nI a)), (2, .int (nI b))]) hx hb dX0_isAhead_14 rfl hl (by decide) rfl (fun ls hl => ?_)
  refine lv_aload_n hx hb dX0_isAhead_15 rfl (lv_at hl 1 rfl) ?_
  refine va_get (D := D) (ci := 0) (v := .ref (h 3)) (C := RX0) (T := TX0) (N := 15) hx hb hts hin0 hown hK hP 0 rfl rfl 2 (by decide) kw0 (fun _ h9 => h9) rfl dX0_isAhead_16 ?_
  refine lv_iload_n hx hb dX0_isAhead_19 rfl (lv_at hl 3 rfl) ?_
  refine r_ald (f := m_lw M) (j := b) hx hb hK hP 3 0 rfl rfl (by omega) (by omega) dX0_isAhead_20 ?_
  refine lv_i2l (v := ((m_lw M) b).toInt64) hx hb dX0_isAhead_21 rfl ?_
  refine lv_aload_n hx hb dX0_isAhead_22 rfl (lv_at hl 1 rfl) ?_
  refine lv_iload_n hx hb dX0_isAhead_23 rfl (lv_at hl 2 rfl) ?_
  refine vp_callSi (W.runV (As := [.int (nI a)]) (rest := [.long (((m_lw M) b).toInt64)]) ⟨hx, hb, hml, hown, hts⟩ (c0_shareDivisor l D h cA M hM a (by assumption)) (cwV 1 hts gX0_isAhead_X0_shareDivisor rfl rfl rfl (by decide +kernel) ⟨Nat.le_of_ble_eq_true rfl, Nat.le_of_ble_eq_true rfl⟩) ⟨pR_fb, va_recv hK hP (ci := 0) (q0 := 0) rfl rfl, pR_mk hP hK⟩ rfl rfl hl.1 rfl (lv_room (Nat.le_of_ble_eq_true rfl)) dX0_isAhead_24 ⟨Nat.le_of_ble_eq_true rfl, Nat.le_of_ble_eq_true rfl⟩) (fun r2 qr2 => ?_)
  have qr2 : r2 = x_dv M a := qr2
  subst qr2
  refine lv_i2l (v := (x_dv M a).toInt64) hx hb dX0_isAhead_27 rfl ?_
  refine lv_lmul hx hb dX0_isAhead_28 ?_
  refine lv_lstore (lv' := [(5, .long ((((m_lw M) b).toInt64) * ((x_dv M a).toInt64))), (3, .long ((((m_lw M) a).toInt64) * ((x_dv M b).toInt64))), (0, .ref (h 0)), (1, .int (nI a)), (2, .int (nI b))]) hx hb dX0_isAhead_29 hl (by decide) rfl (fun ls hl => ?_)
  refine lv_lload_n hx hb dX0_isAhead_31 rfl (lv_at hl 1 rfl) ?_
  refine lv_lload hx hb dX0_isAhead_32 (lv_at hl 0 rfl) ?_
  refine W.lcmp hx hb dX0_isAhead_34 ?_
  refine lv_if_gt (tgt := 50) hx hb dX0_isAhead_35 (by decide) (fun c3 => ?_) (fun c3 => ?_)
  · have c3 := k_cgt c3
    refine lv_iconst (v := 1) hx hb dX0_isAhead_50 (by decide) ?_
    refine lv_goto (tgt := 55) hx hb dX0_isAhead_51 (by decide) ?_
    subst hQ
    exact W.zret (v := 1) (ty := .boolean) hx hb hr rfl (fun t ht hW => ⟨_, rfl, (by unfold z_ah; rw [decide_eq_true c3, Bool.true_or, if_pos rfl]), ht⟩) (fun q hq => by cases hq) dX0_isAhead_55
  · have c3 := k_cngt c3
    refine lv_lload_n hx hb dX0_isAhead_38 rfl (lv_at hl 1 rfl) ?_
    refine lv_lload hx hb dX0_isAhead_39 (lv_at hl 0 rfl) ?_
    refine W.lcmp hx hb dX0_isAhead_41 ?_
    refine lv_if_ne (tgt := 54) hx hb dX0_isAhead_42 (by decide) (fun c4 => ?_) (fun c4 => ?_)
    · have c4 := k_cne c4
      refine lv_iconst (v := 0) hx hb dX0_isAhead_54 (by decide) ?_
      subst hQ
      exact W.zret (v := 0) (ty := .boolean) hx hb hr rfl (fun t ht hW => ⟨_, rfl, (by unfold z_ah; rw [decide_eq_false c3, decide_eq_false c4]; rfl), ht⟩) (fun q hq => by cases hq) dX0_isAhead_55
    · have c4 := k_ceq c4
      refine lv_iload_n hx hb dX0_isAhead_45 rfl (lv_at hl 3 rfl) ?_
      refine lv_iload_n hx hb dX0_isAhead_46 rfl (lv_at hl 4 rfl) ?_
      refine lv_icmp_ge (tgt := 54) hx hb dX0_isAhead_47 (by decide) (fun c5 => ?_) (fun c5 => ?_)
      · have c5 := k_le (a := b) (b := a) (by omega) (by omega) c5
        refine lv_iconst (v := 0) hx hb dX0_isAhead_54 (by decide) ?_
        subst hQ
        exact W.zret (v := 0) (ty := .boolean) hx hb hr rfl (fun t ht hW => ⟨_, rfl, (by unfold z_ah; rw [decide_eq_false c3, decide_eq_false (p := a < b) (by omega), Bool.and_false]; rfl), ht⟩) (fun q hq => by cases hq) dX0_isAhead_55
      · have c5 := k_nle (a := b) (b := a) (by omega) (by omega) c5
        refine lv_iconst (v := 1) hx hb dX0_isAhead_50 (by decide) ?_
        refine lv_goto (tgt := 55) hx hb dX0_isAhead_51 (by decide) ?_
        subst hQ
        exact W.zret (v := 1) (ty := .boolean) hx hb hr rfl (fun t ht hW => ⟨_, rfl, (by unfold z_ah; rw [decide_eq_false c3, decide_eq_true c4, decide_eq_true c5]; rfl), ht⟩) (fun q hq => by cases hq) dX0_isAhead_55
set_option maxHeartbeats 4000000 in
set_option maxRecDepth 100000 in
theorem c0_placeByShare (l : Launch) (D : va_G) (h : Nat → Nat) (cA : ClassId) (M : MM) (hM : OKM M) (j : Nat) (hj : j < m_ln M) : Met l yX0_placeByShare wsX0_placeByShare ({ frames := 3, cells := 0, slots := 0, locals := 68 } : Room) (va_Pc [.ref (h 0), .int (nI j)] (pR D [(cA, .int)] (w0 h cA M))) (vp_Si (fun r : Int32 => ∃ n : Nat, n ≤ m_ln M ∧ r = nI n ∧ n = x_rank M j)) 0 0 (fun _ => False) := by
  refine Met.ofW (cc := cX0_placeByShare) (maxL := 4) (ret := (some .int)) (by decide) rfl ?_
  intro p e s m args below meth c s₁ B hml hv
  obtain ⟨rfl, hP, hK⟩ := hv
  have hx := B.exec
  have hb := B.bytes
  have hr := B.returns
  have hts := atoms_spec (ws := wsX0_placeByShare) B.pre
  have hown : s.vm.findClass RX0 = some m.cls := findClass_of_methodNamed B.named
  have hlocks := B.notSynchronized
  have kw0 := hts (.fieldLink RX0 55 "ProgressBilling" "lineCount" "I") (by decide +kernel)
  have hin0 : ∀ w ∈ u_ws RX0 TX0 15, w ∈ wsX0_placeByShare := by decide +kernel
  obtain ⟨hn1, hn2, hn3, hn4⟩ := id hM
  have hl := lv_entry ([.ref (h 0), .int (nI j)]) (n := 4) (Nat.le_of_ble_eq_true rfl)
  rw [lg_entry_eq]
  generalize (lg_sl ([.ref (h 0), .int (nI j)]) ++ List.replicate (4 - (lg_sl ([.ref (h 0), .int (nI j)])).length) Slot.unset).toArray = ls at hl ⊢
  have hl : lv_has ls 4 [(0, .ref (h 0)), (1, .int (nI j))] := hl
  refine w_abs (fun Q hQ => ?_)
  refine lv_iconst (v := 0) hx hb dX0_placeByShare_0 (by decide) ?_
  refine lv_istore_n (lv' := [(2, .int 0), (0, .ref (h 0)), (1, .int (nI j))]) hx hb dX0_placeByShare_1 rfl hl (by decide) rfl (fun ls hl => ?_)
  refine lv_iconst (v := 0) hx hb dX0_placeByShare_2 (by decide) ?_
  refine lv_istore_n (lv' := [(3, .int 0), (2, .int 0), (0, .ref (h 0)), (1, .int (nI j))]) hx hb dX0_placeByShare_3 rfl hl (by decide) rfl (fun ls hl => ?_)
  have loop : ∀ (fu : Nat) (k : Nat) (b : Nat), k ≤ m_ln M → b ≤ k → b = z_rk (m_lw M) (x_dv M) j k → m_ln M - k < fu → ∀ (ls : Array Slot), lv_has ls 4 [(0, .ref (h 0)), (1, .int (nI j)), (2, .int (nI b)), (3, .int (nI k))] → W p l e (headSpec wsX0_placeByShare ({ frames := 3, cells := 0, slots := 0, locals := 68 } : Room)).room s m ([.ref (h 0), .int (nI j)] : List Value).toArray below meth c s.heap [] 0 0 Q (F0 m 4 ls []) := by
    intro fu
    induction fu with
    | zero => intro k b hk hb2 eb hfu; exact absurd hfu (by omega)
    | succ fu ih =>
      intro k b hk hb2 eb hfu ls hl
      refine lv_iload_n hx hb dX0_placeByShare_4 rfl (lv_at hl 3 rfl) ?_
      refine lv_aload_n hx hb dX0_placeByShare_5 rfl (lv_at hl 0 rfl) ?_
      refine va_get (D := D) (ci := 0) (v := .int (nI (m_ln M))) (C := RX0) (T := TX0) (N := 15) hx hb hts hin0 hown hK hP 0 rfl rfl 5 (by decide) kw0 (fun _ h9 => h9) rfl dX0_placeByShare_6 ?_
      refine lv_icmp_ge (tgt := 30) hx hb dX0_placeByShare_9 (by decide) (fun c1 => ?_) (fun c1 => ?_)
      · have c1 := k_le (a := (m_ln M)) (b := k) (by omega) (by omega) c1
        refine lv_iload_n hx hb dX0_placeByShare_30 rfl (lv_at hl 2 rfl) ?_
        subst hQ
        exact W.iret (v := nI b) hx hb hr (fun t ht hW => ⟨_, rfl, ⟨b, by omega, rfl, by unfold x_rank; rw [eb, show k = m_ln M by omega]⟩, ht⟩) (fun q hq => by cases hq) dX0_placeByShare_31
      · have c1 := k_nle (a := (m_ln M)) (b := k) (by omega) (by omega) c1
        refine lv_aload_n hx hb dX0_placeByShare_12 rfl (lv_at hl 0 rfl) ?_
        refine lv_iload_n hx hb dX0_placeByShare_13 rfl (lv_at hl 3 rfl) ?_
        refine lv_iload_n hx hb dX0_placeByShare_14 rfl (lv_at hl 1 rfl) ?_
        refine vp_callSi (W.runV (As := [.int (nI k), .int (nI j)]) (rest := []) ⟨hx, hb, hml, hown, hts⟩ (c0_isAhead l D h cA M hM k j (by omega) (by omega)) (cwV 2 hts gX0_placeByShare_X0_isAhead rfl rfl rfl (by decide +kernel) ⟨Nat.le_of_ble_eq_true rfl, Nat.le_of_ble_eq_true rfl⟩) ⟨pR_fb, va_recv hK hP (ci := 0) (q0 := 0) rfl rfl, pR_mk hP hK⟩ rfl rfl hl.1 rfl (lv_room (Nat.le_of_ble_eq_true rfl)) dX0_placeByShare_15 ⟨Nat.le_of_ble_eq_true rfl, Nat.le_of_ble_eq_true rfl⟩) (fun r2 qr2 => ?_)
        rcases bl_c (z_ah (m_lw M) (x_dv M) k j) with z3 | z3
        · have qr2 : r2 = 1 := by rw [qr2, z3]; rfl
          subst qr2
          refine lv_if_eq (tgt := 24) hx hb dX0_placeByShare_18 (by decide) (fun c4 => ?_) (fun c4 => ?_)
          · exact absurd c4 (by decide)
          · refine lv_iinc (v := nI (b + 1)) (lv' := [(2, .int (nI (b + 1))), (0, .ref (h 0)), (1, .int (nI j)), (3, .int (nI k))]) hx hb dX0_placeByShare_21 hl (k := 2) rfl (nI_1 _) (by decide) rfl (fun ls hl => ?_)
            refine lv_iinc (v := nI (k + 1)) (lv' := [(3, .int (nI (k + 1))), (2, .int (nI (b + 1))), (0, .ref (h 0)), (1, .int (nI j))]) hx hb dX0_placeByShare_24 hl (k := 3) rfl (nI_1 _) (by decide) rfl (fun ls hl => ?_)
            refine lv_goto (tgt := 4) hx hb dX0_placeByShare_27 (by decide) ?_
            exact ih (k + 1) ((b + 1)) (by omega) (by omega) (by unfold z_rk; rw [← eb, z3]; rfl) (by omega) ls (lv_sub hl [2, 3, 1, 0] rfl)
        · have qr2 : r2 = 0 := by rw [qr2, z3]; rfl
          subst qr2
          refine lv_if_eq (tgt := 24) hx hb dX0_placeByShare_18 (by decide) (fun c5 => ?_) (fun c5 => ?_)
          · refine lv_iinc (v := nI (k + 1)) (lv' := [(3, .int (nI (k + 1))), (0, .ref (h 0)), (1, .int (nI j)), (2, .int (nI b))]) hx hb dX0_placeByShare_24 hl (k := 3) rfl (nI_1 _) (by decide) rfl (fun ls hl => ?_)
            refine lv_goto (tgt := 4) hx hb dX0_placeByShare_27 (by decide) ?_
            exact ih (k + 1) (b) (by omega) (by omega) (by unfold z_rk; rw [← eb, z3]; rfl) (by omega) ls (lv_sub hl [1, 2, 3, 0] rfl)
          · exact absurd c5 (by decide)
  exact loop (m_ln M + 1) 0 0 (Nat.zero_le _) (Nat.zero_le _) rfl (by omega) ls (lv_sub hl [2, 3, 1, 0] rfl)
set_option maxHeartbeats 4000000 in
set_option maxRecDepth 100000 in
theorem c0_stepWith (l : Launch) (D : va_G) (h : Nat → Nat) (cA : ClassId) (M : MM) (hM : OKM M) (t9 : Int32) : Met l yX0_stepWith wsX0_stepWith ({ frames := 0, cells := 0, slots := 0, locals := 0 } : Room) (va_Pc [.ref (h 0), .int t9] (pR D [(cA, .int)] (w0 h cA M))) (vp_Si (fun r : Int32 => (∃ i : Nat, i < m_sn M ∧ r = nI i ∧ x_fs (m_st M) t9 (m_sn M) 0 = some i ∧ m_st M i = t9) ∨ (r = -1 ∧ x_fs (m_st M) t9 (m_sn M) 0 = none))) 0 0 (fun _ => False) := by
  refine Met.ofW (cc := cX0_stepWith) (maxL := 3) (ret := (some .int)) (by decide) rfl ?_
  intro p e s m args below meth c s₁ B hml hv
  obtain ⟨rfl, hP, hK⟩ := hv
  have hx := B.exec
  have hb := B.bytes
  have hr := B.returns
  have hts := atoms_spec (ws := wsX0_stepWith) B.pre
  have hown : s.vm.findClass RX0 = some m.cls := findClass_of_methodNamed B.named
  have hlocks := B.notSynchronized
  have kw0 := hts (.fieldLink RX0 43 "ProgressBilling" "stepCount" "I") (by decide +kernel)
  have kw1 := hts (.fieldLink RX0 25 "ProgressBilling" "stepThreshold" "[I") (by decide +kernel)
  have hin0 : ∀ w ∈ u_ws RX0 TX0 15, w ∈ wsX0_stepWith := by decide +kernel
  obtain ⟨hn1, hn2, hn3, hn4⟩ := id hM
  have hl := lv_entry ([.ref (h 0), .int t9]) (n := 3) (Nat.le_of_ble_eq_true rfl)
  rw [lg_entry_eq]
  generalize (lg_sl ([.ref (h 0), .int t9]) ++ List.replicate (3 - (lg_sl ([.ref (h 0), .int t9])).length) Slot.unset).toArray = ls at hl ⊢
  have hl : lv_has ls 3 [(0, .ref (h 0)), (1, .int t9)] := hl
  refine w_abs (fun Q hQ => ?_)
  refine lv_iconst (v := 0) hx hb dX0_stepWith_0 (by decide) ?_
  refine lv_istore_n (lv' := [(2, .int 0), (0, .ref (h 0)), (1, .int t9)]) hx hb dX0_stepWith_1 rfl hl (by decide) rfl (fun ls hl => ?_)
  have loop : ∀ (fu : Nat) (k : Nat), k ≤ m_sn M → x_fs (m_st M) t9 (m_sn M) 0 = x_fs (m_st M) t9 (m_sn M - k) k → m_sn M - k < fu → ∀ (ls : Array Slot), lv_has ls 3 [(0, .ref (h 0)), (1, .int t9), (2, .int (nI k))] → W p l e (headSpec wsX0_stepWith ({ frames := 0, cells := 0, slots := 0, locals := 0 } : Room)).room s m ([.ref (h 0), .int t9] : List Value).toArray below meth c s.heap [] 0 0 Q (F0 m 2 ls []) := by
    intro fu
    induction fu with
    | zero => intro k hk eb hfu; exact absurd hfu (by omega)
    | succ fu ih =>
      intro k hk eb hfu ls hl
      refine lv_iload_n hx hb dX0_stepWith_2 rfl (lv_at hl 2 rfl) ?_
      refine lv_aload_n hx hb dX0_stepWith_3 rfl (lv_at hl 0 rfl) ?_
      refine va_get (D := D) (ci := 0) (v := .int (nI (m_sn M))) (C := RX0) (T := TX0) (N := 15) hx hb hts hin0 hown hK hP 0 rfl rfl 8 (by decide) kw0 (fun _ h9 => h9) rfl dX0_stepWith_4 ?_
      refine lv_icmp_ge (tgt := 28) hx hb dX0_stepWith_7 (by decide) (fun c1 => ?_) (fun c1 => ?_)
      · have c1 := k_le (a := (m_sn M)) (b := k) (by omega) (by omega) c1
        refine lv_iconst (v := -1) hx hb dX0_stepWith_28 (by decide) ?_
        subst hQ
        exact W.iret (v := (-1)) hx hb hr (fun t ht hW => ⟨_, rfl, (Or.inr ⟨rfl, by rw [eb, show m_sn M - k = 0 by omega]; rfl⟩), ht⟩) (fun q hq => by cases hq) dX0_stepWith_29
      · have c1 := k_nle (a := (m_sn M)) (b := k) (by omega) (by omega) c1
        refine lv_aload_n hx hb dX0_stepWith_10 rfl (lv_at hl 0 rfl) ?_
        refine va_get (D := D) (ci := 0) (v := .ref (h 6)) (C := RX0) (T := TX0) (N := 15) hx hb hts hin0 hown hK hP 0 rfl rfl 6 (by decide) kw1 (fun _ h9 => h9) rfl dX0_stepWith_11 ?_
        refine lv_iload_n hx hb dX0_stepWith_14 rfl (lv_at hl 2 rfl) ?_
        refine r_ald (f := m_st M) (j := k) hx hb hK hP 6 0 rfl rfl (by omega) (by omega) dX0_stepWith_15 ?_
        refine lv_iload_n hx hb dX0_stepWith_16 rfl (lv_at hl 1 rfl) ?_
        refine lv_icmp_ne (tgt := 22) hx hb dX0_stepWith_17 (by decide) (fun c2 => ?_) (fun c2 => ?_)
        · refine lv_iinc (v := nI (k + 1)) (lv' := [(2, .int (nI (k + 1))), (0, .ref (h 0)), (1, .int t9)]) hx hb dX0_stepWith_22 hl (k := 2) rfl (nI_1 _) (by decide) rfl (fun ls hl => ?_)
          refine lv_goto (tgt := 2) hx hb dX0_stepWith_25 (by decide) ?_
          exact ih (k + 1) (by omega) (by rw [eb]; exact x_fs_n (by omega) c2) (by omega) ls (lv_sub hl [1, 2, 0] rfl)
        · refine lv_iload_n hx hb dX0_stepWith_20 rfl (lv_at hl 2 rfl) ?_
          subst hQ
          exact W.iret (v := nI k) hx hb hr (fun t ht hW => ⟨_, rfl, (Or.inl ⟨k, by omega, rfl, by rw [eb]; exact x_fs_y (by omega) c2, c2⟩), ht⟩) (fun q hq => by cases hq) dX0_stepWith_21
  exact loop (m_sn M + 1) 0 (Nat.zero_le _) rfl (by omega) ls (lv_sub hl [1, 2, 0] rfl)
