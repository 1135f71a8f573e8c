/-! THE REFERENCE: what only reads -/
set_option maxHeartbeats 4000000 in
set_option maxRecDepth 100000 in
theorem c1_in (l : Launch) (n9 lo hi : Int32) : Met l yX1_in wsX1_in ({ frames := 0, cells := 0, slots := 0, locals := 0 } : Room) (va_Pc [.int n9, .int lo, .int hi] (fun _ => True)) (vp_Si (fun r : Int32 => r = if inR n9 lo hi = true then 1 else 0)) 0 0 (fun _ => False) := by
  refine Met.ofW (cc := cX1_in) (maxL := 3) (ret := (some .boolean)) (by decide) rfl ?_
  intro p e s m args below meth c s₁ B hml hv
  obtain ⟨rfl, -⟩ := hv
  have hx := B.exec
  have hb := B.bytes
  have hr := B.returns
  have hts := atoms_spec (ws := wsX1_in) B.pre
  have hown : s.vm.findClass RX1 = some m.cls := findClass_of_methodNamed B.named
  have hlocks := B.notSynchronized
  have hl := lv_entry ([.int n9, .int lo, .int hi]) (n := 3) (Nat.le_of_ble_eq_true rfl)
  rw [lg_entry_eq]
  generalize (lg_sl ([.int n9, .int lo, .int hi]) ++ List.replicate (3 - (lg_sl ([.int n9, .int lo, .int hi])).length) Slot.unset).toArray = ls at hl ⊢
  have hl : lv_has ls 3 [(0, .int n9), (1, .int lo), (2, .int hi)] := hl
  refine w_abs (fun Q hQ => ?_)
  refine lv_iload_n hx hb dX1_in_0 rfl (lv_at hl 0 rfl) ?_
  refine lv_iload_n hx hb dX1_in_1 rfl (lv_at hl 1 rfl) ?_
  refine lv_icmp_lt (tgt := 14) hx hb dX1_in_2 (by decide) (fun c1 => ?_) (fun c1 => ?_)
  · refine lv_iconst (v := 0) hx hb dX1_in_14 (by decide) ?_
    subst hQ
    exact W.zret (v := 0) (ty := .boolean) hx hb hr rfl (fun t ht hW => ⟨_, rfl, (by rw [inR_lo c1]; rfl), ht⟩) (fun q hq => by cases hq) dX1_in_15
  · refine lv_iload_n hx hb dX1_in_5 rfl (lv_at hl 0 rfl) ?_
    refine lv_iload_n hx hb dX1_in_6 rfl (lv_at hl 2 rfl) ?_
    refine lv_icmp_gt (tgt := 14) hx hb dX1_in_7 (by decide) (fun c2 => ?_) (fun c2 => ?_)
    · refine lv_iconst (v := 0) hx hb dX1_in_14 (by decide) ?_
      subst hQ
      exact W.zret (v := 0) (ty := .boolean) hx hb hr rfl (fun t ht hW => ⟨_, rfl, (by rw [inR_hi c2]; rfl), ht⟩) (fun q hq => by cases hq) dX1_in_15
    · refine lv_iconst (v := 1) hx hb dX1_in_10 (by decide) ?_
      refine lv_goto (tgt := 15) hx hb dX1_in_11 (by decide) ?_
      subst hQ
      exact W.zret (v := 1) (ty := .boolean) hx hb hr rfl (fun t ht hW => ⟨_, rfl, (by rw [inR_ok c1 c2]; rfl), ht⟩) (fun q hq => by cases hq) dX1_in_15
set_option maxHeartbeats 4000000 in
set_option maxRecDepth 100000 in
theorem c1_isLine (l : Launch) (D : va_G) (h : Nat → Nat) (cA : ClassId) (rf : Int32) (M : MM) (hM : OK1 M) (x9 : Int32) : Met l yX1_isLine wsX1_isLine ({ frames := 1, cells := 0, slots := 0, locals := 22 } : Room) (va_Pc [.ref (h 0), .int x9] (pR D [(cA, .int)] (w1 h cA rf M))) (vp_Si (fun r : Int32 => r = if (ixL (m_ln M) x9).isSome = true then 1 else 0)) 0 0 (fun _ => False) := by
  refine Met.ofW (cc := cX1_isLine) (maxL := 2) (ret := (some .boolean)) (by decide) rfl ?_
  intro p e s m args below meth c s₁ B hml hv
  obtain ⟨rfl, hP, hK⟩ := hv
  have hx := B.exec
  have hb := B.bytes
  have hr := B.returns
  have hts := atoms_spec (ws := wsX1_isLine) B.pre
  have hown : s.vm.findClass RX1 = some m.cls := findClass_of_methodNamed B.named
  have hlocks := B.notSynchronized
  have kw0 := hts (.fieldLink RX1 44 "ProgressBillingModel" "lines" "I") (by decide +kernel)
  have hin0 : ∀ w ∈ u_ws RX1 TX1 14, w ∈ wsX1_isLine := by decide +kernel
  obtain ⟨hn1, hn4⟩ := id hM
  have hl := lv_entry ([.ref (h 0), .int x9]) (n := 2) (Nat.le_of_ble_eq_true rfl)
  rw [lg_entry_eq]
  generalize (lg_sl ([.ref (h 0), .int x9]) ++ List.replicate (2 - (lg_sl ([.ref (h 0), .int x9])).length) Slot.unset).toArray = ls at hl ⊢
  have hl : lv_has ls 2 [(0, .ref (h 0)), (1, .int x9)] := hl
  refine w_abs (fun Q hQ => ?_)
  refine lv_iload_n hx hb dX1_isLine_0 rfl (lv_at hl 1 rfl) ?_
  refine lv_iconst (v := 0) hx hb dX1_isLine_1 (by decide) ?_
  refine lv_aload_n hx hb dX1_isLine_2 rfl (lv_at hl 0 rfl) ?_
  refine va_get (D := D) (ci := 1) (v := .int (nI (m_ln M))) (C := RX1) (T := TX1) (N := 14) hx hb hts hin0 hown hK hP 0 rfl rfl 1 (by decide) kw0 (fun _ h9 => h9) rfl dX1_isLine_3 ?_
  refine lv_iconst (v := 1) hx hb dX1_isLine_6 (by decide) ?_
  refine lv_isub hx hb dX1_isLine_7 ?_
  refine vp_callSi (W.runS (As := [.int x9, .int 0, .int ((nI (m_ln M)) - 1)]) (rest := []) ⟨hx, hb, hml, hown, hts⟩ (c1_in l x9 0 ((nI (m_ln M)) - 1)) (va_cwS 3 hts gX1_isLine_X1_in rfl rfl rfl (by decide +kernel) ⟨Nat.le_of_ble_eq_true rfl, Nat.le_of_ble_eq_true rfl⟩) ⟨nil_fb, nil_mk⟩ rfl rfl hl.1 rfl (lv_room (Nat.le_of_ble_eq_true rfl)) dX1_isLine_8 ⟨Nat.le_of_ble_eq_true rfl, Nat.le_of_ble_eq_true rfl⟩) (fun r1 qr1 => ?_)
  have qr1 : r1 = if (ixL (m_ln M) x9).isSome = true then 1 else 0 := by rw [qr1, inR_ix (by omega)]
  subst qr1
  subst hQ
  exact W.zret (v := if (ixL (m_ln M) x9).isSome = true then 1 else 0) (ty := .boolean) hx hb hr (by cases (ixL (m_ln M) x9).isSome <;> rfl) (fun t ht hW => ⟨_, rfl, rfl, ht⟩) (fun q hq => by cases hq) dX1_isLine_11
set_option maxHeartbeats 4000000 in
set_option maxRecDepth 100000 in
theorem c1_isApplication (l : Launch) (D : va_G) (h : Nat → Nat) (cA : ClassId) (rf : Int32) (M : MM) (hM : OK1 M) (x9 : Int32) : Met l yX1_isApplication wsX1_isApplication ({ frames := 1, cells := 0, slots := 0, locals := 22 } : Room) (va_Pc [.ref (h 0), .int x9] (pR D [(cA, .int)] (w1 h cA rf M))) (vp_Si (fun r : Int32 => r = if (ixL (m_an M) x9).isSome = true then 1 else 0)) 0 0 (fun _ => False) := by
  refine Met.ofW (cc := cX1_isApplication) (maxL := 2) (ret := (some .boolean)) (by decide) rfl ?_
  intro p e s m args below meth c s₁ B hml hv
  obtain ⟨rfl, hP, hK⟩ := hv
  have hx := B.exec
  have hb := B.bytes
  have hr := B.returns
  have hts := atoms_spec (ws := wsX1_isApplication) B.pre
  have hown : s.vm.findClass RX1 = some m.cls := findClass_of_methodNamed B.named
  have hlocks := B.notSynchronized
  have kw0 := hts (.fieldLink RX1 100 "ProgressBillingModel" "applications" "I") (by decide +kernel)
  have hin0 : ∀ w ∈ u_ws RX1 TX1 14, w ∈ wsX1_isApplication := by decide +kernel
  obtain ⟨hn1, hn4⟩ := id hM
  have hl := lv_entry ([.ref (h 0), .int x9]) (n := 2) (Nat.le_of_ble_eq_true rfl)
  rw [lg_entry_eq]
  generalize (lg_sl ([.ref (h 0), .int x9]) ++ List.replicate (2 - (lg_sl ([.ref (h 0), .int x9])).length) Slot.unset).toArray = ls at hl ⊢
  have hl : lv_has ls 2 [(0, .ref (h 0)), (1, .int x9)] := hl
  refine w_abs (fun Q hQ => ?_)
  refine lv_iload_n hx hb dX1_isApplication_0 rfl (lv_at hl 1 rfl) ?_
  refine lv_iconst (v := 0) hx hb dX1_isApplication_1 (by decide) ?_
  refine lv_aload_n hx hb dX1_isApplication_2 rfl (lv_at hl 0 rfl) ?_
  refine va_get (D := D) (ci := 1) (v := .int (nI (m_an M))) (C := RX1) (T := TX1) (N := 14) hx hb hts hin0 hown hK hP 0 rfl rfl 9 (by decide) kw0 (fun _ h9 => h9) rfl dX1_isApplication_3 ?_
  refine lv_iconst (v := 1) hx hb dX1_isApplication_6 (by decide) ?_
  refine lv_isub hx hb dX1_isApplication_7 ?_
  refine vp_callSi (W.runS (As := [.int x9, .int 0, .int ((nI (m_an M)) - 1)]) (rest := []) ⟨hx, hb, hml, hown, hts⟩ (c1_in l x9 0 ((nI (m_an M)) - 1)) (va_cwS 3 hts gX1_isApplication_X1_in rfl rfl rfl (by decide +kernel) ⟨Nat.le_of_ble_eq_true rfl, Nat.le_of_ble_eq_true rfl⟩) ⟨nil_fb, nil_mk⟩ rfl rfl hl.1 rfl (lv_room (Nat.le_of_ble_eq_true rfl)) dX1_isApplication_8 ⟨Nat.le_of_ble_eq_true rfl, Nat.le_of_ble_eq_true rfl⟩) (fun r1 qr1 => ?_)
  have qr1 : r1 = if (ixL (m_an M) x9).isSome = true then 1 else 0 := by rw [qr1, inR_ix (by omega)]
  subst qr1
  subst hQ
  exact W.zret (v := if (ixL (m_an M) x9).isSome = true then 1 else 0) (ty := .boolean) hx hb hr (by cases (ixL (m_an M) x9).isSome <;> rfl) (fun t ht hW => ⟨_, rfl, rfl, ht⟩) (fun q hq => by cases hq) dX1_isApplication_11
set_option maxHeartbeats 4000000 in
set_option maxRecDepth 100000 in
theorem c1_thousandths (l : Launch) (a s9 : Int32) : Met l yX1_thousandths wsX1_thousandths ({ frames := 0, cells := 0, slots := 0, locals := 0 } : Room) (va_Pc [.int a, .int s9] (fun _ => True)) (vp_Si (fun r : Int32 => r = y_th a s9)) 0 0 (fun _ => False) := by
  refine Met.ofW (cc := cX1_thousandths) (maxL := 2) (ret := (some .int)) (by decide) rfl ?_
  intro p e s m args below meth c s₁ B hml hv
  obtain ⟨rfl, -⟩ := hv
  have hx := B.exec
  have hb := B.bytes
  have hr := B.returns
  have hts := atoms_spec (ws := wsX1_thousandths) B.pre
  have hown : s.vm.findClass RX1 = some m.cls := findClass_of_methodNamed B.named
  have hlocks := B.notSynchronized
  have kw0 := hts (.constantLong RX1 51 (500)) (by decide +kernel)
  have kw1 := hts (.constantLong RX1 53 (1000)) (by decide +kernel)
  have hl := lv_entry ([.int a, .int s9]) (n := 2) (Nat.le_of_ble_eq_true rfl)
  rw [lg_entry_eq]
  generalize (lg_sl ([.int a, .int s9]) ++ List.replicate (2 - (lg_sl ([.int a, .int s9])).length) Slot.unset).toArray = ls at hl ⊢
  have hl : lv_has ls 2 [(0, .int a), (1, .int s9)] := hl
  refine w_abs (fun Q hQ => ?_)
  refine lv_iload_n hx hb dX1_thousandths_0 rfl (lv_at hl 0 rfl) ?_
  refine lv_i2l (v := a.toInt64) hx hb dX1_thousandths_1 rfl ?_
  refine lv_iload_n hx hb dX1_thousandths_2 rfl (lv_at hl 1 rfl) ?_
  refine lv_i2l (v := s9.toInt64) hx hb dX1_thousandths_3 rfl ?_
  refine lv_lmul hx hb dX1_thousandths_4 ?_
  refine lv_ldc2 hx hb hown kw0 dX1_thousandths_5 ?_
  refine lv_ladd hx hb dX1_thousandths_8 ?_
  refine lv_ldc2 hx hb hown kw1 dX1_thousandths_9 ?_
  refine lv_ldiv hx hb dX1_thousandths_12 (by decide) ?_
  refine lv_l2i (v := (((a.toInt64 * s9.toInt64) + 500) / 1000).toInt32) hx hb dX1_thousandths_13 rfl ?_
  subst hQ
  exact W.iret (v := (((a.toInt64 * s9.toInt64) + 500) / 1000).toInt32) hx hb hr (fun t ht hW => ⟨_, rfl, rfl, ht⟩) (fun q hq => by cases hq) dX1_thousandths_14
set_option maxHeartbeats 4000000 in
set_option maxRecDepth 100000 in
theorem c1_share (l : Launch) (a p9 v9 : Int32) (hv : ¬ v9 = 0) : Met l yX1_share wsX1_share ({ frames := 0, cells := 0, slots := 0, locals := 0 } : Room) (va_Pc [.int a, .int p9, .int v9] (fun _ => True)) (vp_Si (fun r : Int32 => r = y_sh a p9 v9)) 0 0 (fun _ => False) := by
  refine Met.ofW (cc := cX1_share) (maxL := 3) (ret := (some .int)) (by decide) rfl ?_
  intro p e s m args below meth c s₁ B hml hv
  obtain ⟨rfl, -⟩ := hv
  have hx := B.exec
  have hb := B.bytes
  have hr := B.returns
  have hts := atoms_spec (ws := wsX1_share) B.pre
  have hown : s.vm.findClass RX1 = some m.cls := findClass_of_methodNamed B.named
  have hlocks := B.notSynchronized
  have hl := lv_entry ([.int a, .int p9, .int v9]) (n := 3) (Nat.le_of_ble_eq_true rfl)
  rw [lg_entry_eq]
  generalize (lg_sl ([.int a, .int p9, .int v9]) ++ List.replicate (3 - (lg_sl ([.int a, .int p9, .int v9])).length) Slot.unset).toArray = ls at hl ⊢
  have hl : lv_has ls 3 [(0, .int a), (1, .int p9), (2, .int v9)] := hl
  refine w_abs (fun Q hQ => ?_)
  refine lv_iload_n hx hb dX1_share_0 rfl (lv_at hl 0 rfl) ?_
  refine lv_i2l (v := a.toInt64) hx hb dX1_share_1 rfl ?_
  refine lv_iload_n hx hb dX1_share_2 rfl (lv_at hl 1 rfl) ?_
  refine lv_i2l (v := p9.toInt64) hx hb dX1_share_3 rfl ?_
  refine lv_lmul hx hb dX1_share_4 ?_
  refine lv_iload_n hx hb dX1_share_5 rfl (lv_at hl 2 rfl) ?_
  refine lv_i2l (v := v9.toInt64) hx hb dX1_share_6 rfl ?_
  refine lv_ldiv hx hb dX1_share_7 (k_ne0 hv) ?_
  refine lv_l2i (v := ((a.toInt64 * p9.toInt64) / v9.toInt64).toInt32) hx hb dX1_share_8 rfl ?_
  subst hQ
  exact W.iret (v := ((a.toInt64 * p9.toInt64) / v9.toInt64).toInt32) hx hb hr (fun t ht hW => ⟨_, rfl, rfl, ht⟩) (fun q hq => by cases hq) dX1_share_9
set_option maxHeartbeats 4000000 in
set_option maxRecDepth 100000 in
theorem c1_thrown (l : Launch) (D : va_G) (h : Nat → Nat) (cA : ClassId) (rf : Int32) (M : MM) (hM : OK1 M) : Met l yX1_thrown wsX1_thrown ({ frames := 0, cells := 0, slots := 0, locals := 0 } : Room) (va_Pc [.ref (h 0)] (pR D [(cA, .int)] (w1 h cA rf M))) (vp_Si (fun r : Int32 => r = rf)) 0 0 (fun _ => False) := by
  refine Met.ofW (cc := cX1_thrown) (maxL := 1) (ret := (some .int)) (by decide) rfl ?_
  intro p e s m args below meth c s₁ B hml hv
  obtain ⟨rfl, hP, hK⟩ := hv
  have hx := B.exec
  have hb := B.bytes
  have hr := B.returns
  have hts := atoms_spec (ws := wsX1_thrown) B.pre
  have hown : s.vm.findClass RX1 = some m.cls := findClass_of_methodNamed B.named
  have hlocks := B.notSynchronized
  have kw0 := hts (.fieldLink RX1 40 "ProgressBillingModel" "refusal" "I") (by decide +kernel)
  have hin0 : ∀ w ∈ u_ws RX1 TX1 14, w ∈ wsX1_thrown := by decide +kernel
  obtain ⟨hn1, hn4⟩ := id hM
  have hl := lv_entry ([.ref (h 0)]) (n := 1) (Nat.le_of_ble_eq_true rfl)
  rw [lg_entry_eq]
  generalize (lg_sl ([.ref (h 0)]) ++ List.replicate (1 - (lg_sl ([.ref (h 0)])).length) Slot.unset).toArray = ls at hl ⊢
  have hl : lv_has ls 1 [(0, .ref (h 0))] := hl
  refine w_abs (fun Q hQ => ?_)
  refine lv_aload_n hx hb dX1_thrown_0 rfl (lv_at hl 0 rfl) ?_
  refine va_get (D := D) (ci := 1) (v := .int rf) (C := RX1) (T := TX1) (N := 14) hx hb hts hin0 hown hK hP 0 rfl rfl 0 (by decide) kw0 (fun _ h9 => h9) rfl dX1_thrown_1 ?_
  subst hQ
  exact W.iret (v := rf) hx hb hr (fun t ht hW => ⟨_, rfl, rfl, ht⟩) (fun q hq => by cases hq) dX1_thrown_4
set_option maxHeartbeats 4000000 in
set_option maxRecDepth 100000 in
theorem c1_sum (l : Launch) (D : va_G) (h : Nat → Nat) (cA : ClassId) (rf : Int32) (M : MM) (hM : OK1 M) (c9 : Nat) (f : FF) (hc9 : (w1 h cA rf M)[c9]? = some (h c9, .inl (cA, 16, .inl f))) : Met l yX1_sum wsX1_sum ({ frames := 0, cells := 0, slots := 0, locals := 0 } : Room) (va_Pc [.ref (h 0), .ref (h c9)] (pR D [(cA, .int)] (w1 h cA rf M))) (vp_Si (fun r : Int32 => r = psum f (m_ln M))) 0 0 (fun _ => False) := by
  refine Met.ofW (cc := cX1_sum) (maxL := 4) (ret := (some .int)) (by decide) rfl ?_
  intro p e s m args below meth c s₁ B hml hv
  obtain ⟨rfl, hP, hK⟩ := hv
  have hx := B.exec
  have hb := B.bytes
  have hr := B.returns
  have hts := atoms_spec (ws := wsX1_sum) B.pre
  have hown : s.vm.findClass RX1 = some m.cls := findClass_of_methodNamed B.named
  have hlocks := B.notSynchronized
  have kw0 := hts (.fieldLink RX1 44 "ProgressBillingModel" "lines" "I") (by decide +kernel)
  have hin0 : ∀ w ∈ u_ws RX1 TX1 14, w ∈ wsX1_sum := by decide +kernel
  obtain ⟨hn1, hn4⟩ := id hM
  have hl := lv_entry ([.ref (h 0), .ref (h c9)]) (n := 4) (Nat.le_of_ble_eq_true rfl)
  rw [lg_entry_eq]
  generalize (lg_sl ([.ref (h 0), .ref (h c9)]) ++ List.replicate (4 - (lg_sl ([.ref (h 0), .ref (h c9)])).length) Slot.unset).toArray = ls at hl ⊢
  have hl : lv_has ls 4 [(0, .ref (h 0)), (1, .ref (h c9))] := hl
  refine w_abs (fun Q hQ => ?_)
  refine lv_iconst (v := 0) hx hb dX1_sum_0 (by decide) ?_
  refine lv_istore_n (lv' := [(2, .int 0), (0, .ref (h 0)), (1, .ref (h c9))]) hx hb dX1_sum_1 rfl hl (by decide) rfl (fun ls hl => ?_)
  refine lv_iconst (v := 0) hx hb dX1_sum_2 (by decide) ?_
  refine lv_istore_n (lv' := [(3, .int 0), (2, .int 0), (0, .ref (h 0)), (1, .ref (h c9))]) hx hb dX1_sum_3 rfl hl (by decide) rfl (fun ls hl => ?_)
  have loop : ∀ (fu : Nat) (k : Nat) (x2 : Int32), k ≤ m_ln M → x2 = psum f k → m_ln M - k < fu → ∀ (ls : Array Slot), lv_has ls 4 [(0, .ref (h 0)), (1, .ref (h c9)), (2, .int x2), (3, .int (nI k))] → W p l e (headSpec wsX1_sum ({ frames := 0, cells := 0, slots := 0, locals := 0 } : Room)).room s m ([.ref (h 0), .ref (h c9)] : List Value).toArray below meth c s.heap [] 0 0 Q (F0 m 4 ls []) := by
    intro fu
    induction fu with
    | zero => intro k x2 hk e2 hfu; exact absurd hfu (by omega)
    | succ fu ih =>
      intro k x2 hk e2 hfu ls hl
      refine lv_iload_n hx hb dX1_sum_4 rfl (lv_at hl 3 rfl) ?_
      refine lv_aload_n hx hb dX1_sum_5 rfl (lv_at hl 0 rfl) ?_
      refine va_get (D := D) (ci := 1) (v := .int (nI (m_ln M))) (C := RX1) (T := TX1) (N := 14) hx hb hts hin0 hown hK hP 0 rfl rfl 1 (by decide) kw0 (fun _ h9 => h9) rfl dX1_sum_6 ?_
      refine lv_icmp_ge (tgt := 24) hx hb dX1_sum_9 (by decide) (fun c1 => ?_) (fun c1 => ?_)
      · have c1 := k_le (a := (m_ln M)) (b := k) (by omega) (by omega) c1
        refine lv_iload_n hx hb dX1_sum_24 rfl (lv_at hl 2 rfl) ?_
        subst hQ
        exact W.iret (v := x2) hx hb hr (fun t ht hW => ⟨_, rfl, (by rw [e2, show k = m_ln M by omega]), ht⟩) (fun q hq => by cases hq) dX1_sum_25
      · have c1 := k_nle (a := (m_ln M)) (b := k) (by omega) (by omega) c1
        refine lv_iload_n hx hb dX1_sum_12 rfl (lv_at hl 2 rfl) ?_
        refine lv_aload_n hx hb dX1_sum_13 rfl (lv_at hl 1 rfl) ?_
        refine lv_iload_n hx hb dX1_sum_14 rfl (lv_at hl 3 rfl) ?_
        refine r_ald (f := f) (j := k) hx hb hK hP c9 0 hc9 rfl (by omega) (by omega) dX1_sum_15 ?_
        refine lv_iadd hx hb dX1_sum_16 ?_
        refine lv_istore_n (lv' := [(2, .int (x2 + (f k))), (0, .ref (h 0)), (1, .ref (h c9)), (3, .int (nI k))]) hx hb dX1_sum_17 rfl hl (by decide) rfl (fun ls hl => ?_)
        refine lv_iinc (v := nI (k + 1)) (lv' := [(3, .int (nI (k + 1))), (2, .int (x2 + (f k))), (0, .ref (h 0)), (1, .ref (h c9))]) hx hb dX1_sum_18 hl (k := 3) rfl (nI_1 _) (by decide) rfl (fun ls hl => ?_)
        refine lv_goto (tgt := 4) hx hb dX1_sum_21 (by decide) ?_
        exact ih (k + 1) (x2 + f k) (by omega) (by rw [e2]; rfl) (by omega) ls (lv_sub hl [2, 3, 1, 0] rfl)
  exact loop (m_ln M + 1) 0 0 (Nat.zero_le _) rfl (by omega) ls (lv_sub hl [2, 3, 1, 0] rfl)
set_option maxHeartbeats 4000000 in
set_option maxRecDepth 100000 in
theorem c1_countSteps (l : Launch) (D : va_G) (h : Nat → Nat) (cA : ClassId) (rf : Int32) (M : MM) (hM : OK1 M) : Met l yX1_countSteps wsX1_countSteps ({ frames := 0, cells := 0, slots := 0, locals := 0 } : Room) (va_Pc [.ref (h 0)] (pR D [(cA, .int)] (w1 h cA rf M))) (vp_Si (fun r : Int32 => r = nI (cntS (m_rt M) 1001))) 0 0 (fun _ => False) := by
  refine Met.ofW (cc := cX1_countSteps) (maxL := 3) (ret := (some .int)) (by decide) rfl ?_
  intro p e s m args below meth c s₁ B hml hv
  obtain ⟨rfl, hP, hK⟩ := hv
  have hx := B.exec
  have hb := B.bytes
  have hr := B.returns
  have hts := atoms_spec (ws := wsX1_countSteps) B.pre
  have hown : s.vm.findClass RX1 = some m.cls := findClass_of_methodNamed B.named
  have hlocks := B.notSynchronized
  have kw0 := hts (.fieldLink RX1 25 "ProgressBillingModel" "rates" "[I") (by decide +kernel)
  have hin0 : ∀ w ∈ u_ws RX1 TX1 14, w ∈ wsX1_countSteps := by decide +kernel
  obtain ⟨hn1, hn4⟩ := id hM
  have hl := lv_entry ([.ref (h 0)]) (n := 3) (Nat.le_of_ble_eq_true rfl)
  rw [lg_entry_eq]
  generalize (lg_sl ([.ref (h 0)]) ++ List.replicate (3 - (lg_sl ([.ref (h 0)])).length) Slot.unset).toArray = ls at hl ⊢
  have hl : lv_has ls 3 [(0, .ref (h 0))] := hl
  refine w_abs (fun Q hQ => ?_)
  refine lv_iconst (v := 0) hx hb dX1_countSteps_0 (by decide) ?_
  refine lv_istore_n (lv' := [(1, .int 0), (0, .ref (h 0))]) hx hb dX1_countSteps_1 rfl hl (by decide) rfl (fun ls hl => ?_)
  refine lv_iconst (v := 0) hx hb dX1_countSteps_2 (by decide) ?_
  refine lv_istore_n (lv' := [(2, .int 0), (1, .int 0), (0, .ref (h 0))]) hx hb dX1_countSteps_3 rfl hl (by decide) rfl (fun ls hl => ?_)
  have loop : ∀ (fu : Nat) (k : Nat) (b : Nat), k ≤ 1001 → b ≤ k → b = cntS (m_rt M) k → 1001 - k < fu → ∀ (ls : Array Slot), lv_has ls 3 [(0, .ref (h 0)), (1, .int (nI b)), (2, .int (nI k))] → W p l e (headSpec wsX1_countSteps ({ frames := 0, cells := 0, slots := 0, locals := 0 } : Room)).room s m ([.ref (h 0)] : List Value).toArray below meth c s.heap [] 0 0 Q (F0 m 4 ls []) := by
    intro fu
    induction fu with
    | zero => intro k b hk hb2 eb hfu; exact absurd hfu (by omega)
    | succ fu ih =>
      intro k b hk hb2 eb hfu ls hl
      refine lv_iload_n hx hb dX1_countSteps_4 rfl (lv_at hl 2 rfl) ?_
      refine lv_sipush (v := 1000) hx hb dX1_countSteps_5 (by decide) ?_
      refine lv_icmp_gt (tgt := 35) hx hb dX1_countSteps_8 (by decide) (fun c1 => ?_) (fun c1 => ?_)
      · have c1 := k_lt (a := 1000) (b := k) (by omega) (by omega) c1
        refine lv_iload_n hx hb dX1_countSteps_35 rfl (lv_at hl 1 rfl) ?_
        subst hQ
        exact W.iret (v := nI b) hx hb hr (fun t ht hW => ⟨_, rfl, (by rw [eb, show k = 1001 by omega]), ht⟩) (fun q hq => by cases hq) dX1_countSteps_36
      · have c1 := k_nlt (a := 1000) (b := k) (by omega) (by omega) c1
        refine lv_iload_n hx hb dX1_countSteps_11 rfl (lv_at hl 1 rfl) ?_
        refine lv_aload_n hx hb dX1_countSteps_12 rfl (lv_at hl 0 rfl) ?_
        refine va_get (D := D) (ci := 1) (v := .ref (h 6)) (C := RX1) (T := TX1) (N := 14) hx hb hts hin0 hown hK hP 0 rfl rfl 7 (by decide) kw0 (fun _ h9 => h9) rfl dX1_countSteps_13 ?_
        refine lv_iload_n hx hb dX1_countSteps_16 rfl (lv_at hl 2 rfl) ?_
        refine r_ald (f := m_rt M) (j := k) hx hb hK hP 6 0 rfl rfl (by omega) (by omega) dX1_countSteps_17 ?_
        refine lv_iconst (v := -1) hx hb dX1_countSteps_18 (by decide) ?_
        refine lv_icmp_ne (tgt := 26) hx hb dX1_countSteps_19 (by decide) (fun c2 => ?_) (fun c2 => ?_)
        · refine lv_iconst (v := 1) hx hb dX1_countSteps_26 (by decide) ?_
          refine lv_iadd hx hb dX1_countSteps_27 ?_
          refine lv_topi (fun y3 ey3 => ?_)
          obtain rfl : y3 = nI (b + 1) := ey3.trans (nI_1 _)
          refine lv_istore_n (lv' := [(1, .int (nI (b + 1))), (0, .ref (h 0)), (2, .int (nI k))]) hx hb dX1_countSteps_28 rfl hl (by decide) rfl (fun ls hl => ?_)
          refine lv_iinc (v := nI (k + 1)) (lv' := [(2, .int (nI (k + 1))), (1, .int (nI (b + 1))), (0, .ref (h 0))]) hx hb dX1_countSteps_29 hl (k := 2) rfl (nI_1 _) (by decide) rfl (fun ls hl => ?_)
          refine lv_goto (tgt := 4) hx hb dX1_countSteps_32 (by decide) ?_
          exact ih (k + 1) ((b + 1)) (by omega) (by omega) (by unfold cntS; rw [← eb, if_neg c2]) (by omega) ls (lv_sub hl [2, 1, 0] rfl)
        · refine lv_iconst (v := 0) hx hb dX1_countSteps_22 (by decide) ?_
          refine lv_goto (tgt := 27) hx hb dX1_countSteps_23 (by decide) ?_
          refine lv_iadd hx hb dX1_countSteps_27 ?_
          refine lv_topi (fun y4 ey4 => ?_)
          obtain rfl : nI b = y4 := (ey4.trans (Int32.add_zero _)).symm
          refine lv_istore_n (lv' := [(1, .int (nI b)), (0, .ref (h 0)), (2, .int (nI k))]) hx hb dX1_countSteps_28 rfl hl (by decide) rfl (fun ls hl => ?_)
          refine lv_iinc (v := nI (k + 1)) (lv' := [(2, .int (nI (k + 1))), (1, .int (nI b)), (0, .ref (h 0))]) hx hb dX1_countSteps_29 hl (k := 2) rfl (nI_1 _) (by decide) rfl (fun ls hl => ?_)
          refine lv_goto (tgt := 4) hx hb dX1_countSteps_32 (by decide) ?_
          exact ih (k + 1) (b) (by omega) (by omega) (by unfold cntS; rw [← eb, if_pos c2]) (by omega) ls (lv_sub hl [2, 1, 0] rfl)
  exact loop (1002) 0 0 (Nat.zero_le _) (Nat.zero_le _) rfl (by omega) ls (lv_sub hl [2, 1, 0] rfl)
set_option maxHeartbeats 4000000 in
set_option maxRecDepth 100000 in
theorem c1_reached (l : Launch) (D : va_G) (h : Nat → Nat) (cA : ClassId) (rf : Int32) (M : MM) (hM : OK1 M) : Met l yX1_reached wsX1_reached ({ frames := 1, cells := 0, slots := 0, locals := 23 } : Room) (va_Pc [.ref (h 0)] (pR D [(cA, .int)] (w1 h cA rf M))) (vp_Si (fun r : Int32 => r = y_reached M)) 0 0 (fun _ => False) := by
  refine Met.ofW (cc := cX1_reached) (maxL := 1) (ret := (some .int)) (by decide) rfl ?_
  intro p e s m args below meth c s₁ B hml hv
  obtain ⟨rfl, hP, hK⟩ := hv
  have hx := B.exec
  have hb := B.bytes
  have hr := B.returns
  have hts := atoms_spec (ws := wsX1_reached) B.pre
  have hown : s.vm.findClass RX1 = some m.cls := findClass_of_methodNamed B.named
  have hlocks := B.notSynchronized
  have kw0 := hts (.fieldLink RX1 7 "ProgressBillingModel" "values" "[I") (by decide +kernel)
  have kw1 := hts (.fieldLink RX1 16 "ProgressBillingModel" "works" "[I") (by decide +kernel)
  have kw2 := hts (.constantLong RX1 53 (1000)) (by decide +kernel)
  have hin0 : ∀ w ∈ u_ws RX1 TX1 14, w ∈ wsX1_reached := by decide +kernel
  obtain ⟨hn1, hn4⟩ := id hM
  have hl := lv_entry ([.ref (h 0)]) (n := 1) (Nat.le_of_ble_eq_true rfl)
  rw [lg_entry_eq]
  generalize (lg_sl ([.ref (h 0)]) ++ List.replicate (1 - (lg_sl ([.ref (h 0)])).length) Slot.unset).toArray = ls at hl ⊢
  have hl : lv_has ls 1 [(0, .ref (h 0))] := hl
  refine w_abs (fun Q hQ => ?_)
  refine lv_aload_n hx hb dX1_reached_0 rfl (lv_at hl 0 rfl) ?_
  refine lv_aload_n hx hb dX1_reached_1 rfl (lv_at hl 0 rfl) ?_
  refine va_get (D := D) (ci := 1) (v := .ref (h 1)) (C := RX1) (T := TX1) (N := 14) hx hb hts hin0 hown hK hP 0 rfl rfl 2 (by decide) kw0 (fun _ h9 => h9) rfl dX1_reached_2 ?_
  refine vp_callSi (W.runV (As := [.ref (h 1)]) (rest := []) ⟨hx, hb, hml, hown, hts⟩ (c1_sum l D h cA rf M hM 1 (m_lv M) rfl) (cwV 1 hts gX1_reached_X1_sum rfl rfl rfl (by decide +kernel) ⟨Nat.le_of_ble_eq_true rfl, Nat.le_of_ble_eq_true rfl⟩) ⟨pR_fb, va_recv hK hP (ci := 1) (q0 := 0) rfl rfl, pR_mk hP hK⟩ rfl rfl hl.1 rfl (lv_room (Nat.le_of_ble_eq_true rfl)) dX1_reached_5 ⟨Nat.le_of_ble_eq_true rfl, Nat.le_of_ble_eq_true rfl⟩) (fun r1 qr1 => ?_)
  have qr1 : r1 = psum (m_lv M) (m_ln M) := qr1
  subst qr1
  refine lv_if_ne (tgt := 15) hx hb dX1_reached_8 (by decide) (fun c2 => ?_) (fun c2 => ?_)
  · refine lv_aload_n hx hb dX1_reached_15 rfl (lv_at hl 0 rfl) ?_
    refine lv_aload_n hx hb dX1_reached_16 rfl (lv_at hl 0 rfl) ?_
    refine va_get (D := D) (ci := 1) (v := .ref (h 3)) (C := RX1) (T := TX1) (N := 14) hx hb hts hin0 hown hK hP 0 rfl rfl 4 (by decide) kw1 (fun _ h9 => h9) rfl dX1_reached_17 ?_
    refine vp_callSi (W.runV (As := [.ref (h 3)]) (rest := []) ⟨hx, hb, hml, hown, hts⟩ (c1_sum l D h cA rf M hM 3 (m_lw M) rfl) (cwV 1 hts gX1_reached_X1_sum rfl rfl rfl (by decide +kernel) ⟨Nat.le_of_ble_eq_true rfl, Nat.le_of_ble_eq_true rfl⟩) ⟨pR_fb, va_recv hK hP (ci := 1) (q0 := 0) rfl rfl, pR_mk hP hK⟩ rfl rfl hl.1 rfl (lv_room (Nat.le_of_ble_eq_true rfl)) dX1_reached_20 ⟨Nat.le_of_ble_eq_true rfl, Nat.le_of_ble_eq_true rfl⟩) (fun r3 qr3 => ?_)
    have qr3 : r3 = psum (m_lw M) (m_ln M) := qr3
    subst qr3
    refine lv_i2l (v := (psum (m_lw M) (m_ln M)).toInt64) hx hb dX1_reached_23 rfl ?_
    refine lv_ldc2 hx hb hown kw2 dX1_reached_24 ?_
    refine lv_lmul hx hb dX1_reached_27 ?_
    refine lv_aload_n hx hb dX1_reached_28 rfl (lv_at hl 0 rfl) ?_
    refine lv_aload_n hx hb dX1_reached_29 rfl (lv_at hl 0 rfl) ?_
    refine va_get (D := D) (ci := 1) (v := .ref (h 1)) (C := RX1) (T := TX1) (N := 14) hx hb hts hin0 hown hK hP 0 rfl rfl 2 (by decide) kw0 (fun _ h9 => h9) rfl dX1_reached_30 ?_
    refine vp_callSi (W.runV (As := [.ref (h 1)]) (rest := [.long (((psum (m_lw M) (m_ln M)).toInt64) * 1000)]) ⟨hx, hb, hml, hown, hts⟩ (c1_sum l D h cA rf M hM 1 (m_lv M) rfl) (cwV 1 hts gX1_reached_X1_sum rfl rfl rfl (by decide +kernel) ⟨Nat.le_of_ble_eq_true rfl, Nat.le_of_ble_eq_true rfl⟩) ⟨pR_fb, va_recv hK hP (ci := 1) (q0 := 0) rfl rfl, pR_mk hP hK⟩ rfl rfl hl.1 rfl (lv_room (Nat.le_of_ble_eq_true rfl)) dX1_reached_33 ⟨Nat.le_of_ble_eq_true rfl, Nat.le_of_ble_eq_true rfl⟩) (fun r4 qr4 => ?_)
    have qr4 : r4 = psum (m_lv M) (m_ln M) := qr4
    subst qr4
    refine lv_i2l (v := (psum (m_lv M) (m_ln M)).toInt64) hx hb dX1_reached_36 rfl ?_
    refine lv_ldiv hx hb dX1_reached_37 (k_ne0 c2) ?_
    refine lv_l2i (v := ((((psum (m_lw M) (m_ln M)).toInt64) * 1000) / ((psum (m_lv M) (m_ln M)).toInt64)).toInt32) hx hb dX1_reached_38 rfl ?_
    subst hQ
    exact W.iret (v := ((((psum (m_lw M) (m_ln M)).toInt64) * 1000) / ((psum (m_lv M) (m_ln M)).toInt64)).toInt32) hx hb hr (fun t ht hW => ⟨_, rfl, (by unfold y_reached; rw [if_neg c2]), ht⟩) (fun q hq => by cases hq) dX1_reached_39
  · refine lv_iconst (v := 0) hx hb dX1_reached_11 (by decide) ?_
    refine lv_goto (tgt := 39) hx hb dX1_reached_12 (by decide) ?_
    subst hQ
    exact W.iret (v := 0) hx hb hr (fun t ht hW => ⟨_, rfl, (by unfold y_reached; rw [if_pos c2]), ht⟩) (fun q hq => by cases hq) dX1_reached_39
set_option maxHeartbeats 4000000 in
set_option maxRecDepth 100000 in
theorem c1_rateNow (l : Launch) (D : va_G) (h : Nat → Nat) (cA : ClassId) (rf : Int32) (M : MM) (hM : RTM M) : Met l yX1_rateNow wsX1_rateNow ({ frames := 2, cells := 0, slots := 0, locals := 43 } : Room) (va_Pc [.ref (h 0)] (pR D [(cA, .int)] (w1 h cA rf M))) (vp_Si (fun r : Int32 => r = y_rate M)) 0 0 (fun _ => False) := by
  refine Met.ofW (cc := cX1_rateNow) (maxL := 2) (ret := (some .int)) (by decide) rfl ?_
  intro p e s m args below meth c s₁ B hml hv
  obtain ⟨rfl, hP, hK⟩ := hv
  have hx := B.exec
  have hb := B.bytes
  have hr := B.returns
  have hts := atoms_spec (ws := wsX1_rateNow) B.pre
  have hown : s.vm.findClass RX1 = some m.cls := findClass_of_methodNamed B.named
  have hlocks := B.notSynchronized
  have kw0 := hts (.fieldLink RX1 25 "ProgressBillingModel" "rates" "[I") (by decide +kernel)
  have hin0 : ∀ w ∈ u_ws RX1 TX1 14, w ∈ wsX1_rateNow := by decide +kernel
  obtain ⟨hn1, hn4, ⟨k0, hk0, ek0⟩, hr0⟩ := id hM
  have hl := lv_entry ([.ref (h 0)]) (n := 2) (Nat.le_of_ble_eq_true rfl)
  rw [lg_entry_eq]
  generalize (lg_sl ([.ref (h 0)]) ++ List.replicate (2 - (lg_sl ([.ref (h 0)])).length) Slot.unset).toArray = ls at hl ⊢
  have hl : lv_has ls 2 [(0, .ref (h 0))] := hl
  refine w_abs (fun Q hQ => ?_)
  refine lv_aload_n hx hb dX1_rateNow_0 rfl (lv_at hl 0 rfl) ?_
  refine vp_callSi (W.runV (As := []) (rest := []) ⟨hx, hb, hml, hown, hts⟩ (c1_reached l D h cA rf M ⟨hn1, hn4⟩) (cwV 0 hts gX1_rateNow_X1_reached rfl rfl rfl (by decide +kernel) ⟨Nat.le_of_ble_eq_true rfl, Nat.le_of_ble_eq_true rfl⟩) ⟨pR_fb, va_recv hK hP (ci := 1) (q0 := 0) rfl rfl, pR_mk hP hK⟩ rfl rfl hl.1 rfl (lv_room (Nat.le_of_ble_eq_true rfl)) dX1_rateNow_1 ⟨Nat.le_of_ble_eq_true rfl, Nat.le_of_ble_eq_true rfl⟩) (fun r1 qr1 => ?_)
  have qr1 : r1 = nI k0 := qr1.trans ek0
  subst qr1
  refine lv_istore_n (lv' := [(1, .int (nI k0)), (0, .ref (h 0))]) hx hb dX1_rateNow_4 rfl hl (by decide) rfl (fun ls hl => ?_)
  have loop : ∀ (fu : Nat) (k : Nat), k ≤ 1000 → y_scan (m_rt M) k0 = y_scan (m_rt M) k → k < fu → ∀ (ls : Array Slot), lv_has ls 2 [(0, .ref (h 0)), (1, .int (nI k))] → W p l e (headSpec wsX1_rateNow ({ frames := 2, cells := 0, slots := 0, locals := 43 } : Room)).room s m ([.ref (h 0)] : List Value).toArray below meth c s.heap [] 0 0 Q (F0 m 5 ls []) := by
    intro fu
    induction fu with
    | zero => intro k hk eb hfu; exact absurd hfu (by omega)
    | succ fu ih =>
      intro k hk eb hfu ls hl
      refine lv_aload_n hx hb dX1_rateNow_5 rfl (lv_at hl 0 rfl) ?_
      refine va_get (D := D) (ci := 1) (v := .ref (h 6)) (C := RX1) (T := TX1) (N := 14) hx hb hts hin0 hown hK hP 0 rfl rfl 7 (by decide) kw0 (fun _ h9 => h9) rfl dX1_rateNow_6 ?_
      refine lv_iload_n hx hb dX1_rateNow_9 rfl (lv_at hl 1 rfl) ?_
      refine r_ald (f := m_rt M) (j := k) hx hb hK hP 6 0 rfl rfl (by omega) (by omega) dX1_rateNow_10 ?_
      refine lv_iconst (v := -1) hx hb dX1_rateNow_11 (by decide) ?_
      refine lv_icmp_ne (tgt := 21) hx hb dX1_rateNow_12 (by decide) (fun c2 => ?_) (fun c2 => ?_)
      · refine lv_aload_n hx hb dX1_rateNow_21 rfl (lv_at hl 0 rfl) ?_
        refine va_get (D := D) (ci := 1) (v := .ref (h 6)) (C := RX1) (T := TX1) (N := 14) hx hb hts hin0 hown hK hP 0 rfl rfl 7 (by decide) kw0 (fun _ h9 => h9) rfl dX1_rateNow_22 ?_
        refine lv_iload_n hx hb dX1_rateNow_25 rfl (lv_at hl 1 rfl) ?_
        refine r_ald (f := m_rt M) (j := k) hx hb hK hP 6 0 rfl rfl (by omega) (by omega) dX1_rateNow_26 ?_
        subst hQ
        exact W.iret (v := (m_rt M) k) hx hb hr (fun t ht hW => ⟨_, rfl, (by unfold y_rate; rw [ek0, nI_clamp (by omega), eb, y_scan_y c2]), ht⟩) (fun q hq => by cases hq) dX1_rateNow_27
      · have hk1 : 1 ≤ k := by rcases Nat.eq_zero_or_pos k with z | z; exact absurd (by rw [z] at c2; exact c2) hr0; exact z
        refine lv_iinc (v := nI (k - 1)) (lv' := [(1, .int (nI (k - 1))), (0, .ref (h 0))]) hx hb dX1_rateNow_15 hl (k := 1) rfl (k_dec (by omega)) (by decide) rfl (fun ls hl => ?_)
        refine lv_goto (tgt := 5) hx hb dX1_rateNow_18 (by decide) ?_
        exact ih (k - 1) (by omega) (by rw [eb]; exact y_scan_n (by omega) c2) (by omega) ls (lv_sub hl [1, 0] rfl)
  exact loop (k0 + 1) k0 hk0 rfl (by omega) ls (lv_sub hl [1, 0] rfl)
set_option maxHeartbeats 4000000 in
set_option maxRecDepth 100000 in
theorem c1_holdsThen (l : Launch) (D : va_G) (h : Nat → Nat) (cA : ClassId) (rf : Int32) (M : MM) (hM : RTM M) (j : Nat) (hj : j < m_ln M) : Met l yX1_holdsThen wsX1_holdsThen ({ frames := 3, cells := 0, slots := 0, locals := 64 } : Room) (va_Pc [.ref (h 0), .int (nI j)] (pR D [(cA, .int)] (w1 h cA rf M))) (vp_Si (fun r : Int32 => r = y_hTh M j)) 0 0 (fun _ => False) := by
  refine Met.ofW (cc := cX1_holdsThen) (maxL := 3) (ret := (some .int)) (by decide) rfl ?_
  intro p e s m args below meth c s₁ B hml hv
  obtain ⟨rfl, hP, hK⟩ := hv
  have hx := B.exec
  have hb := B.bytes
  have hr := B.returns
  have hts := atoms_spec (ws := wsX1_holdsThen) B.pre
  have hown : s.vm.findClass RX1 = some m.cls := findClass_of_methodNamed B.named
  have hlocks := B.notSynchronized
  have kw0 := hts (.fieldLink RX1 79 "ProgressBillingModel" "isByIncrease" "Z") (by decide +kernel)
  have kw1 := hts (.fieldLink RX1 13 "ProgressBillingModel" "earned" "[I") (by decide +kernel)
  have kw2 := hts (.fieldLink RX1 22 "ProgressBillingModel" "held" "[I") (by decide +kernel)
  have kw3 := hts (.fieldLink RX1 19 "ProgressBillingModel" "billed" "[I") (by decide +kernel)
  have hin0 : ∀ w ∈ u_ws RX1 TX1 14, w ∈ wsX1_holdsThen := by decide +kernel
  obtain ⟨hn1, hn4, ⟨k0, hk0, ek0⟩, hr0⟩ := id hM
  have hl := lv_entry ([.ref (h 0), .int (nI j)]) (n := 3) (Nat.le_of_ble_eq_true rfl)
  rw [lg_entry_eq]
  generalize (lg_sl ([.ref (h 0), .int (nI j)]) ++ List.replicate (3 - (lg_sl ([.ref (h 0), .int (nI j)])).length) Slot.unset).toArray = ls at hl ⊢
  have hl : lv_has ls 3 [(0, .ref (h 0)), (1, .int (nI j))] := hl
  refine w_abs (fun Q hQ => ?_)
  refine lv_aload_n hx hb dX1_holdsThen_0 rfl (lv_at hl 0 rfl) ?_
  refine vp_callSi (W.runV (As := []) (rest := []) ⟨hx, hb, hml, hown, hts⟩ (c1_rateNow l D h cA rf M hM) (cwV 0 hts gX1_holdsThen_X1_rateNow rfl rfl rfl (by decide +kernel) ⟨Nat.le_of_ble_eq_true rfl, Nat.le_of_ble_eq_true rfl⟩) ⟨pR_fb, va_recv hK hP (ci := 1) (q0 := 0) rfl rfl, pR_mk hP hK⟩ rfl rfl hl.1 rfl (lv_room (Nat.le_of_ble_eq_true rfl)) dX1_holdsThen_1 ⟨Nat.le_of_ble_eq_true rfl, Nat.le_of_ble_eq_true rfl⟩) (fun r1 qr1 => ?_)
  have qr1 : r1 = y_rate M := qr1
  subst qr1
  refine lv_istore_n (lv' := [(2, .int (y_rate M)), (0, .ref (h 0)), (1, .int (nI j))]) hx hb dX1_holdsThen_4 rfl hl (by decide) rfl (fun ls hl => ?_)
  refine lv_aload_n hx hb dX1_holdsThen_5 rfl (lv_at hl 1 rfl) ?_
  refine va_get (D := D) (ci := 1) (v := .int (m_hb M)) (C := RX1) (T := TX1) (N := 14) hx hb hts hin0 hown hK hP 0 rfl rfl 8 (by decide) kw0 (fun _ h9 => h9) rfl dX1_holdsThen_6 ?_
  refine lv_if_eq (tgt := 39) hx hb dX1_holdsThen_9 (by decide) (fun c2 => ?_) (fun c2 => ?_)
  · refine lv_aload_n hx hb dX1_holdsThen_39 rfl (lv_at hl 1 rfl) ?_
    refine va_get (D := D) (ci := 1) (v := .ref (h 2)) (C := RX1) (T := TX1) (N := 14) hx hb hts hin0 hown hK hP 0 rfl rfl 3 (by decide) kw1 (fun _ h9 => h9) rfl dX1_holdsThen_40 ?_
    refine lv_iload_n hx hb dX1_holdsThen_43 rfl (lv_at hl 2 rfl) ?_
    refine r_ald (f := m_le M) (j := j) hx hb hK hP 2 0 rfl rfl (by omega) (by omega) dX1_holdsThen_44 ?_
    refine lv_iload_n hx hb dX1_holdsThen_45 rfl (lv_at hl 0 rfl) ?_
    refine vp_callSi (W.runS (As := [.int ((m_le M) j), .int (y_rate M)]) (rest := []) ⟨hx, hb, hml, hown, hts⟩ (c1_thousandths l ((m_le M) j) (y_rate M)) (va_cwS 2 hts gX1_holdsThen_X1_thousandths rfl rfl rfl (by decide +kernel) ⟨Nat.le_of_ble_eq_true rfl, Nat.le_of_ble_eq_true rfl⟩) ⟨nil_fb, nil_mk⟩ rfl rfl hl.1 rfl (lv_room (Nat.le_of_ble_eq_true rfl)) dX1_holdsThen_46 ⟨Nat.le_of_ble_eq_true rfl, Nat.le_of_ble_eq_true rfl⟩) (fun r3 qr3 => ?_)
    have qr3 : r3 = y_th ((m_le M) j) (y_rate M) := qr3
    subst qr3
    subst hQ
    exact W.iret (v := y_th ((m_le M) j) (y_rate M)) hx hb hr (fun t ht hW => ⟨_, rfl, (by unfold y_hTh; rw [if_pos c2]), ht⟩) (fun q hq => by cases hq) dX1_holdsThen_49
  · refine lv_aload_n hx hb dX1_holdsThen_12 rfl (lv_at hl 1 rfl) ?_
    refine va_get (D := D) (ci := 1) (v := .ref (h 5)) (C := RX1) (T := TX1) (N := 14) hx hb hts hin0 hown hK hP 0 rfl rfl 6 (by decide) kw2 (fun _ h9 => h9) rfl dX1_holdsThen_13 ?_
    refine lv_iload_n hx hb dX1_holdsThen_16 rfl (lv_at hl 2 rfl) ?_
    refine r_ald (f := m_lh M) (j := j) hx hb hK hP 5 0 rfl rfl (by omega) (by omega) dX1_holdsThen_17 ?_
    refine lv_aload_n hx hb dX1_holdsThen_18 rfl (lv_at hl 1 rfl) ?_
    refine va_get (D := D) (ci := 1) (v := .ref (h 2)) (C := RX1) (T := TX1) (N := 14) hx hb hts hin0 hown hK hP 0 rfl rfl 3 (by decide) kw1 (fun _ h9 => h9) rfl dX1_holdsThen_19 ?_
    refine lv_iload_n hx hb dX1_holdsThen_22 rfl (lv_at hl 2 rfl) ?_
    refine r_ald (f := m_le M) (j := j) hx hb hK hP 2 0 rfl rfl (by omega) (by omega) dX1_holdsThen_23 ?_
    refine lv_aload_n hx hb dX1_holdsThen_24 rfl (lv_at hl 1 rfl) ?_
    refine va_get (D := D) (ci := 1) (v := .ref (h 4)) (C := RX1) (T := TX1) (N := 14) hx hb hts hin0 hown hK hP 0 rfl rfl 5 (by decide) kw3 (fun _ h9 => h9) rfl dX1_holdsThen_25 ?_
    refine lv_iload_n hx hb dX1_holdsThen_28 rfl (lv_at hl 2 rfl) ?_
    refine r_ald (f := m_lb M) (j := j) hx hb hK hP 4 0 rfl rfl (by omega) (by omega) dX1_holdsThen_29 ?_
    refine lv_isub hx hb dX1_holdsThen_30 ?_
    refine lv_iload_n hx hb dX1_holdsThen_31 rfl (lv_at hl 0 rfl) ?_
    refine vp_callSi (W.runS (As := [.int (((m_le M) j) - ((m_lb M) j)), .int (y_rate M)]) (rest := [.int ((m_lh M) j)]) ⟨hx, hb, hml, hown, hts⟩ (c1_thousandths l (((m_le M) j) - ((m_lb M) j)) (y_rate M)) (va_cwS 2 hts gX1_holdsThen_X1_thousandths rfl rfl rfl (by decide +kernel) ⟨Nat.le_of_ble_eq_true rfl, Nat.le_of_ble_eq_true rfl⟩) ⟨nil_fb, nil_mk⟩ rfl rfl hl.1 rfl (lv_room (Nat.le_of_ble_eq_true rfl)) dX1_holdsThen_32 ⟨Nat.le_of_ble_eq_true rfl, Nat.le_of_ble_eq_true rfl⟩) (fun r4 qr4 => ?_)
    have qr4 : r4 = y_th (((m_le M) j) - ((m_lb M) j)) (y_rate M) := qr4
    subst qr4
    refine lv_iadd hx hb dX1_holdsThen_35 ?_
    refine lv_goto (tgt := 49) hx hb dX1_holdsThen_36 (by decide) ?_
    subst hQ
    exact W.iret (v := ((m_lh M) j) + (y_th (((m_le M) j) - ((m_lb M) j)) (y_rate M))) hx hb hr (fun t ht hW => ⟨_, rfl, (by unfold y_hTh; rw [if_neg c2]), ht⟩) (fun q hq => by cases hq) dX1_holdsThen_49
set_option maxHeartbeats 4000000 in
set_option maxRecDepth 100000 in
theorem c1_amountNow (l : Launch) (D : va_G) (h : Nat → Nat) (cA : ClassId) (rf : Int32) (M : MM) (hM : RTM M) : Met l yX1_amountNow wsX1_amountNow ({ frames := 4, cells := 0, slots := 0, locals := 86 } : Room) (va_Pc [.ref (h 0)] (pR D [(cA, .int)] (w1 h cA rf M))) (vp_Si (fun r : Int32 => r = y_amt M)) 0 0 (fun _ => False) := by
  refine Met.ofW (cc := cX1_amountNow) (maxL := 3) (ret := (some .int)) (by decide) rfl ?_
  intro p e s m args below meth c s₁ B hml hv
  obtain ⟨rfl, hP, hK⟩ := hv
  have hx := B.exec
  have hb := B.bytes
  have hr := B.returns
  have hts := atoms_spec (ws := wsX1_amountNow) B.pre
  have hown : s.vm.findClass RX1 = some m.cls := findClass_of_methodNamed B.named
  have hlocks := B.notSynchronized
  have kw0 := hts (.fieldLink RX1 13 "ProgressBillingModel" "earned" "[I") (by decide +kernel)
  have kw1 := hts (.fieldLink RX1 44 "ProgressBillingModel" "lines" "I") (by decide +kernel)
  have kw2 := hts (.fieldLink RX1 100 "ProgressBillingModel" "applications" "I") (by decide +kernel)
  have kw3 := hts (.fieldLink RX1 31 "ProgressBillingModel" "amounts" "[I") (by decide +kernel)
  have hin0 : ∀ w ∈ u_ws RX1 TX1 14, w ∈ wsX1_amountNow := by decide +kernel
  obtain ⟨hn1, hn4, ⟨k0, hk0, ek0⟩, hr0⟩ := id hM
  have hl := lv_entry ([.ref (h 0)]) (n := 3) (Nat.le_of_ble_eq_true rfl)
  rw [lg_entry_eq]
  generalize (lg_sl ([.ref (h 0)]) ++ List.replicate (3 - (lg_sl ([.ref (h 0)])).length) Slot.unset).toArray = ls at hl ⊢
  have hl : lv_has ls 3 [(0, .ref (h 0))] := hl
  refine w_abs (fun Q hQ => ?_)
  refine lv_aload_n hx hb dX1_amountNow_0 rfl (lv_at hl 0 rfl) ?_
  refine lv_aload_n hx hb dX1_amountNow_1 rfl (lv_at hl 0 rfl) ?_
  refine va_get (D := D) (ci := 1) (v := .ref (h 2)) (C := RX1) (T := TX1) (N := 14) hx hb hts hin0 hown hK hP 0 rfl rfl 3 (by decide) kw0 (fun _ h9 => h9) rfl dX1_amountNow_2 ?_
  refine vp_callSi (W.runV (As := [.ref (h 2)]) (rest := []) ⟨hx, hb, hml, hown, hts⟩ (c1_sum l D h cA rf M ⟨hn1, hn4⟩ 2 (m_le M) rfl) (cwV 1 hts gX1_amountNow_X1_sum rfl rfl rfl (by decide +kernel) ⟨Nat.le_of_ble_eq_true rfl, Nat.le_of_ble_eq_true rfl⟩) ⟨pR_fb, va_recv hK hP (ci := 1) (q0 := 0) rfl rfl, pR_mk hP hK⟩ rfl rfl hl.1 rfl (lv_room (Nat.le_of_ble_eq_true rfl)) dX1_amountNow_5 ⟨Nat.le_of_ble_eq_true rfl, Nat.le_of_ble_eq_true rfl⟩) (fun r1 qr1 => ?_)
  have qr1 : r1 = psum (m_le M) (m_ln M) := qr1
  subst qr1
  refine lv_istore_n (lv' := [(1, .int (psum (m_le M) (m_ln M))), (0, .ref (h 0))]) hx hb dX1_amountNow_8 rfl hl (by decide) rfl (fun ls hl => ?_)
  refine lv_iconst (v := 0) hx hb dX1_amountNow_9 (by decide) ?_
  refine lv_istore_n (lv' := [(2, .int 0), (1, .int (psum (m_le M) (m_ln M))), (0, .ref (h 0))]) hx hb dX1_amountNow_10 rfl hl (by decide) rfl (fun ls hl => ?_)
  have loop : ∀ (fu : Nat) (k : Nat) (x2 : Int32), k ≤ m_ln M → x2 = y_nsub M (psum (m_le M) (m_ln M)) k → m_ln M - k < fu → ∀ (ls : Array Slot), lv_has ls 3 [(0, .ref (h 0)), (1, .int x2), (2, .int (nI k))] → W p l e (headSpec wsX1_amountNow ({ frames := 4, cells := 0, slots := 0, locals := 86 } : Room)).room s m ([.ref (h 0)] : List Value).toArray below meth c s.heap [] 0 0 Q (F0 m 11 ls []) := by
    intro fu
    induction fu with
    | zero => intro k x2 hk e2 hfu; exact absurd hfu (by omega)
    | succ fu ih =>
      intro k x2 hk e2 hfu ls hl
      refine lv_iload_n hx hb dX1_amountNow_11 rfl (lv_at hl 2 rfl) ?_
      refine lv_aload_n hx hb dX1_amountNow_12 rfl (lv_at hl 0 rfl) ?_
      refine va_get (D := D) (ci := 1) (v := .int (nI (m_ln M))) (C := RX1) (T := TX1) (N := 14) hx hb hts hin0 hown hK hP 0 rfl rfl 1 (by decide) kw1 (fun _ h9 => h9) rfl dX1_amountNow_13 ?_
      refine lv_icmp_ge (tgt := 33) hx hb dX1_amountNow_16 (by decide) (fun c2 => ?_) (fun c2 => ?_)
      · have c2 := k_le (a := (m_ln M)) (b := k) (by omega) (by omega) c2
        refine lv_iconst (v := 0) hx hb dX1_amountNow_33 (by decide) ?_
        refine lv_istore_n (lv' := [(2, .int 0), (0, .ref (h 0)), (1, .int x2)]) hx hb dX1_amountNow_34 rfl hl (by decide) rfl (fun ls hl => ?_)
        have loop2 : ∀ (fu : Nat) (i : Nat) (x3 : Int32), i ≤ m_an M → x3 = y_asub (m_aa M) x2 i → m_an M - i < fu → ∀ (ls : Array Slot), lv_has ls 3 [(0, .ref (h 0)), (1, .int x3), (2, .int (nI i))] → W p l e (headSpec wsX1_amountNow ({ frames := 4, cells := 0, slots := 0, locals := 86 } : Room)).room s m ([.ref (h 0)] : List Value).toArray below meth c s.heap [] 0 0 Q (F0 m 35 ls []) := by
          intro fu
          induction fu with
          | zero => intro i x3 hi e3 hfu; exact absurd hfu (by omega)
          | succ fu ih2 =>
            intro i x3 hi e3 hfu ls hl
            refine lv_iload_n hx hb dX1_amountNow_35 rfl (lv_at hl 2 rfl) ?_
            refine lv_aload_n hx hb dX1_amountNow_36 rfl (lv_at hl 0 rfl) ?_
            refine va_get (D := D) (ci := 1) (v := .int (nI (m_an M))) (C := RX1) (T := TX1) (N := 14) hx hb hts hin0 hown hK hP 0 rfl rfl 9 (by decide) kw2 (fun _ h9 => h9) rfl dX1_amountNow_37 ?_
            refine lv_icmp_ge (tgt := 58) hx hb dX1_amountNow_40 (by decide) (fun c3 => ?_) (fun c3 => ?_)
            · have c3 := k_le (a := (m_an M)) (b := i) (by omega) (by omega) c3
              refine lv_iload_n hx hb dX1_amountNow_58 rfl (lv_at hl 1 rfl) ?_
              subst hQ
              exact W.iret (v := x3) hx hb hr (fun t ht hW => ⟨_, rfl, (by unfold y_amt; rw [e3, show i = m_an M by omega, e2, show k = m_ln M by omega]), ht⟩) (fun q hq => by cases hq) dX1_amountNow_59
            · have c3 := k_nle (a := (m_an M)) (b := i) (by omega) (by omega) c3
              refine lv_iload_n hx hb dX1_amountNow_43 rfl (lv_at hl 1 rfl) ?_
              refine lv_aload_n hx hb dX1_amountNow_44 rfl (lv_at hl 0 rfl) ?_
              refine va_get (D := D) (ci := 1) (v := .ref (h 8)) (C := RX1) (T := TX1) (N := 14) hx hb hts hin0 hown hK hP 0 rfl rfl 11 (by decide) kw3 (fun _ h9 => h9) rfl dX1_amountNow_45 ?_
              refine lv_iload_n hx hb dX1_amountNow_48 rfl (lv_at hl 2 rfl) ?_
              refine r_ald (f := m_aa M) (j := i) hx hb hK hP 8 0 rfl rfl (by omega) (by omega) dX1_amountNow_49 ?_
              refine lv_isub hx hb dX1_amountNow_50 ?_
              refine lv_istore_n (lv' := [(1, .int (x3 - ((m_aa M) i))), (0, .ref (h 0)), (2, .int (nI i))]) hx hb dX1_amountNow_51 rfl hl (by decide) rfl (fun ls hl => ?_)
              refine lv_iinc (v := nI (i + 1)) (lv' := [(2, .int (nI (i + 1))), (1, .int (x3 - ((m_aa M) i))), (0, .ref (h 0))]) hx hb dX1_amountNow_52 hl (k := 2) rfl (nI_1 _) (by decide) rfl (fun ls hl => ?_)
              refine lv_goto (tgt := 35) hx hb dX1_amountNow_55 (by decide) ?_
              exact ih2 (i + 1) _ (by omega) (by rw [e3]; rfl) (by omega) ls (lv_sub hl [2, 1, 0] rfl)
        exact loop2 (m_an M + 1) 0 _ (Nat.zero_le _) rfl (by omega) ls (lv_sub hl [1, 2, 0] rfl)
      · have c2 := k_nle (a := (m_ln M)) (b := k) (by omega) (by omega) c2
        refine lv_iload_n hx hb dX1_amountNow_19 rfl (lv_at hl 1 rfl) ?_
        refine lv_aload_n hx hb dX1_amountNow_20 rfl (lv_at hl 0 rfl) ?_
        refine lv_iload_n hx hb dX1_amountNow_21 rfl (lv_at hl 2 rfl) ?_
        refine vp_callSi (W.runV (As := [.int (nI k)]) (rest := [.int x2]) ⟨hx, hb, hml, hown, hts⟩ (c1_holdsThen l D h cA rf M hM k (by omega)) (cwV 1 hts gX1_amountNow_X1_holdsThen rfl rfl rfl (by decide +kernel) ⟨Nat.le_of_ble_eq_true rfl, Nat.le_of_ble_eq_true rfl⟩) ⟨pR_fb, va_recv hK hP (ci := 1) (q0 := 0) rfl rfl, pR_mk hP hK⟩ rfl rfl hl.1 rfl (lv_room (Nat.le_of_ble_eq_true rfl)) dX1_amountNow_22 ⟨Nat.le_of_ble_eq_true rfl, Nat.le_of_ble_eq_true rfl⟩) (fun r4 qr4 => ?_)
        have qr4 : r4 = y_hTh M k := qr4
        subst qr4
        refine lv_isub hx hb dX1_amountNow_25 ?_
        refine lv_istore_n (lv' := [(1, .int (x2 - (y_hTh M k))), (0, .ref (h 0)), (2, .int (nI k))]) hx hb dX1_amountNow_26 rfl hl (by decide) rfl (fun ls hl => ?_)
        refine lv_iinc (v := nI (k + 1)) (lv' := [(2, .int (nI (k + 1))), (1, .int (x2 - (y_hTh M k))), (0, .ref (h 0))]) hx hb dX1_amountNow_27 hl (k := 2) rfl (nI_1 _) (by decide) rfl (fun ls hl => ?_)
        refine lv_goto (tgt := 11) hx hb dX1_amountNow_30 (by decide) ?_
        exact ih (k + 1) _ (by omega) (by rw [e2]; rfl) (by omega) ls (lv_sub hl [2, 1, 0] rfl)
  exact loop (m_ln M + 1) 0 _ (Nat.zero_le _) rfl (by omega) ls (lv_sub hl [2, 1, 0] rfl)
set_option maxHeartbeats 4000000 in
set_option maxRecDepth 100000 in
theorem c1_waived (l : Launch) (D : va_G) (h : Nat → Nat) (cA : ClassId) (rf : Int32) (M : MM) (hM : OK1 M) : Met l yX1_waived wsX1_waived ({ frames := 0, cells := 0, slots := 0, locals := 0 } : Room) (va_Pc [.ref (h 0)] (pR D [(cA, .int)] (w1 h cA rf M))) (vp_Si (fun r : Int32 => r = nI (y_pf (m_as M) (m_an M) 0))) 0 0 (fun _ => False) := by
  refine Met.ofW (cc := cX1_waived) (maxL := 2) (ret := (some .int)) (by decide) rfl ?_
  intro p e s m args below meth c s₁ B hml hv
  obtain ⟨rfl, hP, hK⟩ := hv
  have hx := B.exec
  have hb := B.bytes
  have hr := B.returns
  have hts := atoms_spec (ws := wsX1_waived) B.pre
  have hown : s.vm.findClass RX1 = some m.cls := findClass_of_methodNamed B.named
  have hlocks := B.notSynchronized
  have kw0 := hts (.fieldLink RX1 100 "ProgressBillingModel" "applications" "I") (by decide +kernel)
  have kw1 := hts (.fieldLink RX1 28 "ProgressBillingModel" "states" "[I") (by decide +kernel)
  have hin0 : ∀ w ∈ u_ws RX1 TX1 14, w ∈ wsX1_waived := by decide +kernel
  obtain ⟨hn1, hn4⟩ := id hM
  have hl := lv_entry ([.ref (h 0)]) (n := 2) (Nat.le_of_ble_eq_true rfl)
  rw [lg_entry_eq]
  generalize (lg_sl ([.ref (h 0)]) ++ List.replicate (2 - (lg_sl ([.ref (h 0)])).length) Slot.unset).toArray = ls at hl ⊢
  have hl : lv_has ls 2 [(0, .ref (h 0))] := hl
  refine w_abs (fun Q hQ => ?_)
  refine lv_iconst (v := 0) hx hb dX1_waived_0 (by decide) ?_
  refine lv_istore_n (lv' := [(1, .int 0), (0, .ref (h 0))]) hx hb dX1_waived_1 rfl hl (by decide) rfl (fun ls hl => ?_)
  have loop : ∀ (fu : Nat) (k : Nat), k ≤ m_an M → y_pf (m_as M) (m_an M) 0 = y_pf (m_as M) (m_an M - k) k → m_an M - k < fu → ∀ (ls : Array Slot), lv_has ls 2 [(0, .ref (h 0)), (1, .int (nI k))] → W p l e (headSpec wsX1_waived ({ frames := 0, cells := 0, slots := 0, locals := 0 } : Room)).room s m ([.ref (h 0)] : List Value).toArray below meth c s.heap [] 0 0 Q (F0 m 2 ls []) := by
    intro fu
    induction fu with
    | zero => intro k hk eb hfu; exact absurd hfu (by omega)
    | succ fu ih =>
      intro k hk eb hfu ls hl
      refine lv_iload_n hx hb dX1_waived_2 rfl (lv_at hl 1 rfl) ?_
      refine lv_aload_n hx hb dX1_waived_3 rfl (lv_at hl 0 rfl) ?_
      refine va_get (D := D) (ci := 1) (v := .int (nI (m_an M))) (C := RX1) (T := TX1) (N := 14) hx hb hts hin0 hown hK hP 0 rfl rfl 9 (by decide) kw0 (fun _ h9 => h9) rfl dX1_waived_4 ?_
      refine lv_icmp_ge (tgt := 26) hx hb dX1_waived_7 (by decide) (fun c1 => ?_) (fun c1 => ?_)
      · have c1 := k_le (a := (m_an M)) (b := k) (by omega) (by omega) c1
        refine lv_iload_n hx hb dX1_waived_26 rfl (lv_at hl 1 rfl) ?_
        subst hQ
        exact W.iret (v := nI k) hx hb hr (fun t ht hW => ⟨_, rfl, (by rw [eb, show m_an M - k = 0 by omega]; rfl), ht⟩) (fun q hq => by cases hq) dX1_waived_27
      · have c1 := k_nle (a := (m_an M)) (b := k) (by omega) (by omega) c1
        refine lv_aload_n hx hb dX1_waived_10 rfl (lv_at hl 0 rfl) ?_
        refine va_get (D := D) (ci := 1) (v := .ref (h 7)) (C := RX1) (T := TX1) (N := 14) hx hb hts hin0 hown hK hP 0 rfl rfl 10 (by decide) kw1 (fun _ h9 => h9) rfl dX1_waived_11 ?_
        refine lv_iload_n hx hb dX1_waived_14 rfl (lv_at hl 1 rfl) ?_
        refine r_ald (f := m_as M) (j := k) hx hb hK hP 7 0 rfl rfl (by omega) (by omega) dX1_waived_15 ?_
        refine lv_iconst (v := 2) hx hb dX1_waived_16 (by decide) ?_
        refine lv_icmp_ne (tgt := 26) hx hb dX1_waived_17 (by decide) (fun c2 => ?_) (fun c2 => ?_)
        · refine lv_iload_n hx hb dX1_waived_26 rfl (lv_at hl 1 rfl) ?_
          subst hQ
          exact W.iret (v := nI k) hx hb hr (fun t ht hW => ⟨_, rfl, (by rw [eb, y_pf_y c2]), ht⟩) (fun q hq => by cases hq) dX1_waived_27
        · refine lv_iinc (v := nI (k + 1)) (lv' := [(1, .int (nI (k + 1))), (0, .ref (h 0))]) hx hb dX1_waived_20 hl (k := 1) rfl (nI_1 _) (by decide) rfl (fun ls hl => ?_)
          refine lv_goto (tgt := 2) hx hb dX1_waived_23 (by decide) ?_
          exact ih (k + 1) (by omega) (by rw [eb]; exact y_pf_n (by omega) c2) (by omega) ls (lv_sub hl [1, 0] rfl)
  exact loop (m_an M + 1) 0 (Nat.zero_le _) rfl (by omega) ls (lv_sub hl [1, 0] rfl)
set_option maxHeartbeats 4000000 in
set_option maxRecDepth 100000 in
theorem c1_sumPaid (l : Launch) (D : va_G) (h : Nat → Nat) (cA : ClassId) (rf : Int32) (M : MM) (hM : OK1 M) : Met l yX1_sumPaid wsX1_sumPaid ({ frames := 0, cells := 0, slots := 0, locals := 0 } : Room) (va_Pc [.ref (h 0)] (pR D [(cA, .int)] (w1 h cA rf M))) (vp_Si (fun r : Int32 => r = y_psum (m_as M) (m_aa M) (m_an M))) 0 0 (fun _ => False) := by
  refine Met.ofW (cc := cX1_sumPaid) (maxL := 3) (ret := (some .int)) (by decide) rfl ?_
  intro p e s m args below meth c s₁ B hml hv
  obtain ⟨rfl, hP, hK⟩ := hv
  have hx := B.exec
  have hb := B.bytes
  have hr := B.returns
  have hts := atoms_spec (ws := wsX1_sumPaid) B.pre
  have hown : s.vm.findClass RX1 = some m.cls := findClass_of_methodNamed B.named
  have hlocks := B.notSynchronized
  have kw0 := hts (.fieldLink RX1 100 "ProgressBillingModel" "applications" "I") (by decide +kernel)
  have kw1 := hts (.fieldLink RX1 28 "ProgressBillingModel" "states" "[I") (by decide +kernel)
  have kw2 := hts (.fieldLink RX1 31 "ProgressBillingModel" "amounts" "[I") (by decide +kernel)
  have hin0 : ∀ w ∈ u_ws RX1 TX1 14, w ∈ wsX1_sumPaid := by decide +kernel
  obtain ⟨hn1, hn4⟩ := id hM
  have hl := lv_entry ([.ref (h 0)]) (n := 3) (Nat.le_of_ble_eq_true rfl)
  rw [lg_entry_eq]
  generalize (lg_sl ([.ref (h 0)]) ++ List.replicate (3 - (lg_sl ([.ref (h 0)])).length) Slot.unset).toArray = ls at hl ⊢
  have hl : lv_has ls 3 [(0, .ref (h 0))] := hl
  refine w_abs (fun Q hQ => ?_)
  refine lv_iconst (v := 0) hx hb dX1_sumPaid_0 (by decide) ?_
  refine lv_istore_n (lv' := [(1, .int 0), (0, .ref (h 0))]) hx hb dX1_sumPaid_1 rfl hl (by decide) rfl (fun ls hl => ?_)
  refine lv_iconst (v := 0) hx hb dX1_sumPaid_2 (by decide) ?_
  refine lv_istore_n (lv' := [(2, .int 0), (1, .int 0), (0, .ref (h 0))]) hx hb dX1_sumPaid_3 rfl hl (by decide) rfl (fun ls hl => ?_)
  have loop : ∀ (fu : Nat) (k : Nat) (x2 : Int32), k ≤ m_an M → x2 = y_psum (m_as M) (m_aa M) k → m_an M - k < fu → ∀ (ls : Array Slot), lv_has ls 3 [(0, .ref (h 0)), (1, .int x2), (2, .int (nI k))] → W p l e (headSpec wsX1_sumPaid ({ frames := 0, cells := 0, slots := 0, locals := 0 } : Room)).room s m ([.ref (h 0)] : List Value).toArray below meth c s.heap [] 0 0 Q (F0 m 4 ls []) := by
    intro fu
    induction fu with
    | zero => intro k x2 hk e2 hfu; exact absurd hfu (by omega)
    | succ fu ih =>
      intro k x2 hk e2 hfu ls hl
      refine lv_iload_n hx hb dX1_sumPaid_4 rfl (lv_at hl 2 rfl) ?_
      refine lv_aload_n hx hb dX1_sumPaid_5 rfl (lv_at hl 0 rfl) ?_
      refine va_get (D := D) (ci := 1) (v := .int (nI (m_an M))) (C := RX1) (T := TX1) (N := 14) hx hb hts hin0 hown hK hP 0 rfl rfl 9 (by decide) kw0 (fun _ h9 => h9) rfl dX1_sumPaid_6 ?_
      refine lv_icmp_ge (tgt := 40) hx hb dX1_sumPaid_9 (by decide) (fun c1 => ?_) (fun c1 => ?_)
      · have c1 := k_le (a := (m_an M)) (b := k) (by omega) (by omega) c1
        refine lv_iload_n hx hb dX1_sumPaid_40 rfl (lv_at hl 1 rfl) ?_
        subst hQ
        exact W.iret (v := x2) hx hb hr (fun t ht hW => ⟨_, rfl, (by rw [e2, show k = m_an M by omega]), ht⟩) (fun q hq => by cases hq) dX1_sumPaid_41
      · have c1 := k_nle (a := (m_an M)) (b := k) (by omega) (by omega) c1
        refine lv_iload_n hx hb dX1_sumPaid_12 rfl (lv_at hl 1 rfl) ?_
        refine lv_aload_n hx hb dX1_sumPaid_13 rfl (lv_at hl 0 rfl) ?_
        refine va_get (D := D) (ci := 1) (v := .ref (h 7)) (C := RX1) (T := TX1) (N := 14) hx hb hts hin0 hown hK hP 0 rfl rfl 10 (by decide) kw1 (fun _ h9 => h9) rfl dX1_sumPaid_14 ?_
        refine lv_iload_n hx hb dX1_sumPaid_17 rfl (lv_at hl 2 rfl) ?_
        refine r_ald (f := m_as M) (j := k) hx hb hK hP 7 0 rfl rfl (by omega) (by omega) dX1_sumPaid_18 ?_
        refine lv_if_ne (tgt := 26) hx hb dX1_sumPaid_19 (by decide) (fun c2 => ?_) (fun c2 => ?_)
        · refine lv_aload_n hx hb dX1_sumPaid_26 rfl (lv_at hl 0 rfl) ?_
          refine va_get (D := D) (ci := 1) (v := .ref (h 8)) (C := RX1) (T := TX1) (N := 14) hx hb hts hin0 hown hK hP 0 rfl rfl 11 (by decide) kw2 (fun _ h9 => h9) rfl dX1_sumPaid_27 ?_
          refine lv_iload_n hx hb dX1_sumPaid_30 rfl (lv_at hl 2 rfl) ?_
          refine r_ald (f := m_aa M) (j := k) hx hb hK hP 8 0 rfl rfl (by omega) (by omega) dX1_sumPaid_31 ?_
          refine lv_iadd hx hb dX1_sumPaid_32 ?_
          refine lv_istore_n (lv' := [(1, .int (x2 + ((m_aa M) k))), (0, .ref (h 0)), (2, .int (nI k))]) hx hb dX1_sumPaid_33 rfl hl (by decide) rfl (fun ls hl => ?_)
          refine lv_iinc (v := nI (k + 1)) (lv' := [(2, .int (nI (k + 1))), (1, .int (x2 + ((m_aa M) k))), (0, .ref (h 0))]) hx hb dX1_sumPaid_34 hl (k := 2) rfl (nI_1 _) (by decide) rfl (fun ls hl => ?_)
          refine lv_goto (tgt := 4) hx hb dX1_sumPaid_37 (by decide) ?_
          exact ih (k + 1) (x2 + ((m_aa M) k)) (by omega) (by unfold y_psum; rw [← e2, if_neg c2]) (by omega) ls (lv_sub hl [2, 1, 0] rfl)
        · refine lv_iconst (v := 0) hx hb dX1_sumPaid_22 (by decide) ?_
          refine lv_goto (tgt := 32) hx hb dX1_sumPaid_23 (by decide) ?_
          refine lv_iadd hx hb dX1_sumPaid_32 ?_
          refine lv_topi (fun y3 ey3 => ?_)
          obtain rfl : x2 = y3 := (ey3.trans (Int32.add_zero _)).symm
          refine lv_istore_n (lv' := [(1, .int x2), (0, .ref (h 0)), (2, .int (nI k))]) hx hb dX1_sumPaid_33 rfl hl (by decide) rfl (fun ls hl => ?_)
          refine lv_iinc (v := nI (k + 1)) (lv' := [(2, .int (nI (k + 1))), (1, .int x2), (0, .ref (h 0))]) hx hb dX1_sumPaid_34 hl (k := 2) rfl (nI_1 _) (by decide) rfl (fun ls hl => ?_)
          refine lv_goto (tgt := 4) hx hb dX1_sumPaid_37 (by decide) ?_
          exact ih (k + 1) x2 (by omega) (by unfold y_psum; rw [← e2, if_pos c2, Int32.add_zero]) (by omega) ls (lv_sub hl [2, 1, 0] rfl)
  exact loop (m_an M + 1) 0 0 (Nat.zero_le _) rfl (by omega) ls (lv_sub hl [2, 1, 0] rfl)
set_option maxHeartbeats 4000000 in
set_option maxRecDepth 100000 in
theorem c1_isAhead (l : Launch) (D : va_G) (h : Nat → Nat) (cA : ClassId) (rf : Int32) (M : MM) (hM : OK1 M) (a b : Nat) (ha : a < m_ln M) (hb9 : b < m_ln M) : Met l yX1_isAhead wsX1_isAhead ({ frames := 0, cells := 0, slots := 0, locals := 0 } : Room) (va_Pc [.ref (h 0), .int (nI a), .int (nI b)] (pR D [(cA, .int)] (w1 h cA rf M))) (vp_Si (fun r : Int32 => r = if z_ah (m_lw M) (y_dv M) a b = true then 1 else 0)) 0 0 (fun _ => False) := by
  refine Met.ofW (cc := cX1_isAhead) (maxL := 7) (ret := (some .boolean)) (by decide) rfl ?_
  intro p e s m args below meth c s₁ B hml hv
  obtain ⟨rfl, hP, hK⟩ := hv
  have hx := B.exec
  have hb := B.bytes
  have hr := B.returns
  have hts := atoms_spec (ws := wsX1_isAhead) B.pre
  have hown : s.vm.findClass RX1 = some m.cls := findClass_of_methodNamed B.named
  have hlocks := B.notSynchronized
  have kw0 := hts (.fieldLink RX1 16 "ProgressBillingModel" "works" "[I") (by decide +kernel)
  have kw1 := hts (.fieldLink RX1 7 "ProgressBillingModel" "values" "[I") (by decide +kernel)
  have hin0 : ∀ w ∈ u_ws RX1 TX1 14, w ∈ wsX1_isAhead := by decide +kernel
  obtain ⟨hn1, hn4⟩ := id hM
  have hl := lv_entry ([.ref (h 0), .int (nI a), .int (nI b)]) (n := 7) (Nat.le_of_ble_eq_true rfl)
  rw [lg_entry_eq]
  generalize (lg_sl ([.ref (h 0), .int (nI a), .int (nI b)]) ++ List.replicate (7 - (lg_sl ([.ref (h 0), .int (nI a), .int (nI b)])).length) Slot.unset).toArray = ls at hl ⊢
  have hl : lv_has ls 7 [(0, .ref (h 0)), (1, .int (nI a)), (2, .int (nI b))] := hl
  refine w_abs (fun Q hQ => ?_)
  refine lv_aload_n hx hb dX1_isAhead_0 rfl (lv_at hl 0 rfl) ?_
  refine va_get (D := D) (ci := 1) (v := .ref (h 3)) (C := RX1) (T := TX1) (N := 14) hx hb hts hin0 hown hK hP 0 rfl rfl 4 (by decide) kw0 (fun _ h9 => h9) rfl dX1_isAhead_1 ?_
  refine lv_iload_n hx hb dX1_isAhead_4 rfl (lv_at hl 1 rfl) ?_
  refine r_ald (f := m_lw M) (j := a) hx hb hK hP 3 0 rfl rfl (by omega) (by omega) dX1_isAhead_5 ?_
  refine lv_i2l (v := ((m_lw M) a).toInt64) hx hb dX1_isAhead_6 rfl ?_
  refine lv_aload_n hx hb dX1_isAhead_7 rfl (lv_at hl 0 rfl) ?_
  refine va_get (D := D) (ci := 1) (v := .ref (h 1)) (C := RX1) (T := TX1) (N := 14) hx hb hts hin0 hown hK hP 0 rfl rfl 2 (by decide) kw1 (fun _ h9 => h9) rfl dX1_isAhead_8 ?_
  refine lv_iload_n hx hb dX1_isAhead_11 rfl (lv_at hl 2 rfl) ?_
  refine r_ald (f := m_lv M) (j := b) hx hb hK hP 1 0 rfl rfl (by omega) (by omega) dX1_isAhead_12 ?_
  refine lv_if_ne (tgt := 20) hx hb dX1_isAhead_13 (by decide) (fun c1 => ?_) (fun c1 => ?_)
  · have dvb : y_dv M b = m_lv M b := by unfold y_dv; rw [if_neg c1]
    refine lv_aload_n hx hb dX1_isAhead_20 rfl (lv_at hl 0 rfl) ?_
    refine va_get (D := D) (ci := 1) (v := .ref (h 1)) (C := RX1) (T := TX1) (N := 14) hx hb hts hin0 hown hK hP 0 rfl rfl 2 (by decide) kw1 (fun _ h9 => h9) rfl dX1_isAhead_21 ?_
    refine lv_iload_n hx hb dX1_isAhead_24 rfl (lv_at hl 2 rfl) ?_
    refine r_ald (f := m_lv M) (j := b) hx hb hK hP 1 0 rfl rfl (by omega) (by omega) dX1_isAhead_25 ?_
    refine lv_i2l (v := ((m_lv M) b).toInt64) hx hb dX1_isAhead_26 rfl ?_
    refine lv_lmul hx hb dX1_isAhead_27 ?_
    refine lv_lstore_n (lv' := [(3, .long ((((m_lw M) a).toInt64) * (((m_lv M) b).toInt64))), (0, .ref (h 0)), (1, .int (nI a)), (2, .int (nI b))]) hx hb dX1_isAhead_28 rfl hl (by decide) rfl (fun ls hl => ?_)
    refine lv_aload_n hx hb dX1_isAhead_29 rfl (lv_at hl 1 rfl) ?_
    refine va_get (D := D) (ci := 1) (v := .ref (h 3)) (C := RX1) (T := TX1) (N := 14) hx hb hts hin0 hown hK hP 0 rfl rfl 4 (by decide) kw0 (fun _ h9 => h9) rfl dX1_isAhead_30 ?_
    refine lv_iload_n hx hb dX1_isAhead_33 rfl (lv_at hl 3 rfl) ?_
    refine r_ald (f := m_lw M) (j := b) hx hb hK hP 3 0 rfl rfl (by omega) (by omega) dX1_isAhead_34 ?_
    refine lv_i2l (v := ((m_lw M) b).toInt64) hx hb dX1_isAhead_35 rfl ?_
    refine lv_aload_n hx hb dX1_isAhead_36 rfl (lv_at hl 1 rfl) ?_
    refine va_get (D := D) (ci := 1) (v := .ref (h 1)) (C := RX1) (T := TX1) (N := 14) hx hb hts hin0 hown hK hP 0 rfl rfl 2 (by decide) kw1 (fun _ h9 => h9) rfl dX1_isAhead_37 ?_
    refine lv_iload_n hx hb dX1_isAhead_40 rfl (lv_at hl 2 rfl) ?_
    refine r_ald (f := m_lv M) (j := a) hx hb hK hP 1 0 rfl rfl (by omega) (by omega) dX1_isAhead_41 ?_
    refine lv_if_ne (tgt := 49) hx hb dX1_isAhead_42 (by decide) (fun c2 => ?_) (fun c2 => ?_)
    · have dva : y_dv M a = m_lv M a := by unfold y_dv; rw [if_neg c2]
      refine lv_aload_n hx hb dX1_isAhead_49 rfl (lv_at hl 1 rfl) ?_
      refine va_get (D := D) (ci := 1) (v := .ref (h 1)) (C := RX1) (T := TX1) (N := 14) hx hb hts hin0 hown hK hP 0 rfl rfl 2 (by decide) kw1 (fun _ h9 => h9) rfl dX1_isAhead_50 ?_
      refine lv_iload_n hx hb dX1_isAhead_53 rfl (lv_at hl 2 rfl) ?_
      refine r_ald (f := m_lv M) (j := a) hx hb hK hP 1 0 rfl rfl (by omega) (by omega) dX1_isAhead_54 ?_
      refine lv_i2l (v := ((m_lv M) a).toInt64) hx hb dX1_isAhead_55 rfl ?_
      refine lv_lmul hx hb dX1_isAhead_56 ?_
      refine lv_lstore (lv' := [(5, .long ((((m_lw M) b).toInt64) * (((m_lv M) a).toInt64))), (3, .long ((((m_lw M) a).toInt64) * (((m_lv M) b).toInt64))), (0, .ref (h 0)), (1, .int (nI a)), (2, .int (nI b))]) hx hb dX1_isAhead_57 hl (by decide) rfl (fun ls hl => ?_)
      refine lv_lload_n hx hb dX1_isAhead_59 rfl (lv_at hl 1 rfl) ?_
      refine lv_lload hx hb dX1_isAhead_60 (lv_at hl 0 rfl) ?_
      refine W.lcmp hx hb dX1_isAhead_62 ?_
      refine lv_if_gt (tgt := 78) hx hb dX1_isAhead_63 (by decide) (fun c3 => ?_) (fun c3 => ?_)
      · have c3 := k_cgt c3
        refine lv_iconst (v := 1) hx hb dX1_isAhead_78 (by decide) ?_
        refine lv_goto (tgt := 83) hx hb dX1_isAhead_79 (by decide) ?_
        subst hQ
        exact W.zret (v := 1) (ty := .boolean) hx hb hr rfl (fun t ht hW => ⟨_, rfl, (by unfold z_ah; rw [dvb, dva, decide_eq_true c3, Bool.true_or, if_pos rfl]), ht⟩) (fun q hq => by cases hq) dX1_isAhead_83
      · have c3 := k_cngt c3
        refine lv_lload_n hx hb dX1_isAhead_66 rfl (lv_at hl 1 rfl) ?_
        refine lv_lload hx hb dX1_isAhead_67 (lv_at hl 0 rfl) ?_
        refine W.lcmp hx hb dX1_isAhead_69 ?_
        refine lv_if_ne (tgt := 82) hx hb dX1_isAhead_70 (by decide) (fun c4 => ?_) (fun c4 => ?_)
        · have c4 := k_cne c4
          refine lv_iconst (v := 0) hx hb dX1_isAhead_82 (by decide) ?_
          subst hQ
          exact W.zret (v := 0) (ty := .boolean) hx hb hr rfl (fun t ht hW => ⟨_, rfl, (by unfold z_ah; rw [dvb, dva, decide_eq_false c3, decide_eq_false c4]; rfl), ht⟩) (fun q hq => by cases hq) dX1_isAhead_83
        · have c4 := k_ceq c4
          refine lv_iload_n hx hb dX1_isAhead_73 rfl (lv_at hl 3 rfl) ?_
          refine lv_iload_n hx hb dX1_isAhead_74 rfl (lv_at hl 4 rfl) ?_
          refine lv_icmp_ge (tgt := 82) hx hb dX1_isAhead_75 (by decide) (fun c5 => ?_) (fun c5 => ?_)
          · have c5 := k_le (a := b) (b := a) (by omega) (by omega) c5
            refine lv_iconst (v := 0) hx hb dX1_isAhead_82 (by decide) ?_
            subst hQ
            exact W.zret (v := 0) (ty := .boolean) hx hb hr rfl (fun t ht hW => ⟨_, rfl, (by unfold z_ah; rw [dvb, dva, decide_eq_false c3, decide_eq_false (p := a < b) (by omega), Bool.and_false]; rfl), ht⟩) (fun q hq => by cases hq) dX1_isAhead_83
          · have c5 := k_nle (a := b) (b := a) (by omega) (by omega) c5
            refine lv_iconst (v := 1) hx hb dX1_isAhead_78 (by decide) ?_
            refine lv_goto (tgt := 83) hx hb dX1_isAhead_79 (by decide) ?_
            subst hQ
            exact W.zret (v := 1) (ty := .boolean) hx hb hr rfl (fun t ht hW => ⟨_, rfl, (by unfold z_ah; rw [dvb, dva, decide_eq_false c3, decide_eq_true c4, decide_eq_true c5]; rfl), ht⟩) (fun q hq => by cases hq) dX1_isAhead_83
    · have dva : y_dv M a = 1 := by unfold y_dv; rw [if_pos c2]
      refine lv_iconst (v := 1) hx hb dX1_isAhead_45 (by decide) ?_
      refine lv_goto (tgt := 55) hx hb dX1_isAhead_46 (by decide) ?_
      refine lv_i2l (v := (1 : Int32).toInt64) hx hb dX1_isAhead_55 rfl ?_
      refine lv_lmul hx hb dX1_isAhead_56 ?_
      refine lv_lstore (lv' := [(5, .long ((((m_lw M) b).toInt64) * ((1 : Int32).toInt64))), (3, .long ((((m_lw M) a).toInt64) * (((m_lv M) b).toInt64))), (0, .ref (h 0)), (1, .int (nI a)), (2, .int (nI b))]) hx hb dX1_isAhead_57 hl (by decide) rfl (fun ls hl => ?_)
      refine lv_lload_n hx hb dX1_isAhead_59 rfl (lv_at hl 1 rfl) ?_
      refine lv_lload hx hb dX1_isAhead_60 (lv_at hl 0 rfl) ?_
      refine W.lcmp hx hb dX1_isAhead_62 ?_
      refine lv_if_gt (tgt := 78) hx hb dX1_isAhead_63 (by decide) (fun c6 => ?_) (fun c6 => ?_)
      · have c6 := k_cgt c6
        refine lv_iconst (v := 1) hx hb dX1_isAhead_78 (by decide) ?_
        refine lv_goto (tgt := 83) hx hb dX1_isAhead_79 (by decide) ?_
        subst hQ
        exact W.zret (v := 1) (ty := .boolean) hx hb hr rfl (fun t ht hW => ⟨_, rfl, (by unfold z_ah; rw [dvb, dva, decide_eq_true c6, Bool.true_or, if_pos rfl]), ht⟩) (fun q hq => by cases hq) dX1_isAhead_83
      · have c6 := k_cngt c6
        refine lv_lload_n hx hb dX1_isAhead_66 rfl (lv_at hl 1 rfl) ?_
        refine lv_lload hx hb dX1_isAhead_67 (lv_at hl 0 rfl) ?_
        refine W.lcmp hx hb dX1_isAhead_69 ?_
        refine lv_if_ne (tgt := 82) hx hb dX1_isAhead_70 (by decide) (fun c7 => ?_) (fun c7 => ?_)
        · have c7 := k_cne c7
          refine lv_iconst (v := 0) hx hb dX1_isAhead_82 (by decide) ?_
          subst hQ
          exact W.zret (v := 0) (ty := .boolean) hx hb hr rfl (fun t ht hW => ⟨_, rfl, (by unfold z_ah; rw [dvb, dva, decide_eq_false c6, decide_eq_false c7]; rfl), ht⟩) (fun q hq => by cases hq) dX1_isAhead_83
        · have c7 := k_ceq c7
          refine lv_iload_n hx hb dX1_isAhead_73 rfl (lv_at hl 3 rfl) ?_
          refine lv_iload_n hx hb dX1_isAhead_74 rfl (lv_at hl 4 rfl) ?_
          refine lv_icmp_ge (tgt := 82) hx hb dX1_isAhead_75 (by decide) (fun c8 => ?_) (fun c8 => ?_)
          · have c8 := k_le (a := b) (b := a) (by omega) (by omega) c8
            refine lv_iconst (v := 0) hx hb dX1_isAhead_82 (by decide) ?_
            subst hQ
            exact W.zret (v := 0) (ty := .boolean) hx hb hr rfl (fun t ht hW => ⟨_, rfl, (by unfold z_ah; rw [dvb, dva, decide_eq_false c6, decide_eq_false (p := a < b) (by omega), Bool.and_false]; rfl), ht⟩) (fun q hq => by cases hq) dX1_isAhead_83
          · have c8 := k_nle (a := b) (b := a) (by omega) (by omega) c8
            refine lv_iconst (v := 1) hx hb dX1_isAhead_78 (by decide) ?_
            refine lv_goto (tgt := 83) hx hb dX1_isAhead_79 (by decide) ?_
            subst hQ
            exact W.zret (v := 1) (ty := .boolean) hx hb hr rfl (fun t ht hW => ⟨_, rfl, (by unfold z_ah; rw [dvb, dva, decide_eq_false c6, decide_eq_true c7, decide_eq_true c8]; rfl), ht⟩) (fun q hq => by cases hq) dX1_isAhead_83
  · have dvb : y_dv M b = 1 := by unfold y_dv; rw [if_pos c1]
    refine lv_iconst (v := 1) hx hb dX1_isAhead_16 (by decide) ?_
    refine lv_goto (tgt := 26) hx hb dX1_isAhead_17 (by decide) ?_
    refine lv_i2l (v := (1 : Int32).toInt64) hx hb dX1_isAhead_26 rfl ?_
    refine lv_lmul hx hb dX1_isAhead_27 ?_
    refine lv_lstore_n (lv' := [(3, .long ((((m_lw M) a).toInt64) * ((1 : Int32).toInt64))), (0, .ref (h 0)), (1, .int (nI a)), (2, .int (nI b))]) hx hb dX1_isAhead_28 rfl hl (by decide) rfl (fun ls hl => ?_)
    refine lv_aload_n hx hb dX1_isAhead_29 rfl (lv_at hl 1 rfl) ?_
    refine va_get (D := D) (ci := 1) (v := .ref (h 3)) (C := RX1) (T := TX1) (N := 14) hx hb hts hin0 hown hK hP 0 rfl rfl 4 (by decide) kw0 (fun _ h9 => h9) rfl dX1_isAhead_30 ?_
    refine lv_iload_n hx hb dX1_isAhead_33 rfl (lv_at hl 3 rfl) ?_
    refine r_ald (f := m_lw M) (j := b) hx hb hK hP 3 0 rfl rfl (by omega) (by omega) dX1_isAhead_34 ?_
    refine lv_i2l (v := ((m_lw M) b).toInt64) hx hb dX1_isAhead_35 rfl ?_
    refine lv_aload_n hx hb dX1_isAhead_36 rfl (lv_at hl 1 rfl) ?_
    refine va_get (D := D) (ci := 1) (v := .ref (h 1)) (C := RX1) (T := TX1) (N := 14) hx hb hts hin0 hown hK hP 0 rfl rfl 2 (by decide) kw1 (fun _ h9 => h9) rfl dX1_isAhead_37 ?_
    refine lv_iload_n hx hb dX1_isAhead_40 rfl (lv_at hl 2 rfl) ?_
    refine r_ald (f := m_lv M) (j := a) hx hb hK hP 1 0 rfl rfl (by omega) (by omega) dX1_isAhead_41 ?_
    refine lv_if_ne (tgt := 49) hx hb dX1_isAhead_42 (by decide) (fun c9 => ?_) (fun c9 => ?_)
    · have dva : y_dv M a = m_lv M a := by unfold y_dv; rw [if_neg c9]
      refine lv_aload_n hx hb dX1_isAhead_49 rfl (lv_at hl 1 rfl) ?_
      refine va_get (D := D) (ci := 1) (v := .ref (h 1)) (C := RX1) (T := TX1) (N := 14) hx hb hts hin0 hown hK hP 0 rfl rfl 2 (by decide) kw1 (fun _ h9 => h9) rfl dX1_isAhead_50 ?_
      refine lv_iload_n hx hb dX1_isAhead_53 rfl (lv_at hl 2 rfl) ?_
      refine r_ald (f := m_lv M) (j := a) hx hb hK hP 1 0 rfl rfl (by omega) (by omega) dX1_isAhead_54 ?_
      refine lv_i2l (v := ((m_lv M) a).toInt64) hx hb dX1_isAhead_55 rfl ?_
      refine lv_lmul hx hb dX1_isAhead_56 ?_
      refine lv_lstore (lv' := [(5, .long ((((m_lw M) b).toInt64) * (((m_lv M) a).toInt64))), (3, .long ((((m_lw M) a).toInt64) * ((1 : Int32).toInt64))), (0, .ref (h 0)), (1, .int (nI a)), (2, .int (nI b))]) hx hb dX1_isAhead_57 hl (by decide) rfl (fun ls hl => ?_)
      refine lv_lload_n hx hb dX1_isAhead_59 rfl (lv_at hl 1 rfl) ?_
      refine lv_lload hx hb dX1_isAhead_60 (lv_at hl 0 rfl) ?_
      refine W.lcmp hx hb dX1_isAhead_62 ?_
      refine lv_if_gt (tgt := 78) hx hb dX1_isAhead_63 (by decide) (fun c10 => ?_) (fun c10 => ?_)
      · have c10 := k_cgt c10
        refine lv_iconst (v := 1) hx hb dX1_isAhead_78 (by decide) ?_
        refine lv_goto (tgt := 83) hx hb dX1_isAhead_79 (by decide) ?_
        subst hQ
        exact W.zret (v := 1) (ty := .boolean) hx hb hr rfl (fun t ht hW => ⟨_, rfl, (by unfold z_ah; rw [dvb, dva, decide_eq_true c10, Bool.true_or, if_pos rfl]), ht⟩) (fun q hq => by cases hq) dX1_isAhead_83
      · have c10 := k_cngt c10
        refine lv_lload_n hx hb dX1_isAhead_66 rfl (lv_at hl 1 rfl) ?_
        refine lv_lload hx hb dX1_isAhead_67 (lv_at hl 0 rfl) ?_
        refine W.lcmp hx hb dX1_isAhead_69 ?_
        refine lv_if_ne (tgt := 82) hx hb dX1_isAhead_70 (by decide) (fun c11 => ?_) (fun c11 => ?_)
        · have c11 := k_cne c11
          refine lv_iconst (v := 0) hx hb dX1_isAhead_82 (by decide) ?_
          subst hQ
          exact W.zret (v := 0) (ty := .boolean) hx hb hr rfl (fun t ht hW => ⟨_, rfl, (by unfold z_ah; rw [dvb, dva, decide_eq_false c10, decide_eq_false c11]; rfl), ht⟩) (fun q hq => by cases hq) dX1_isAhead_83
        · have c11 := k_ceq c11
          refine lv_iload_n hx hb dX1_isAhead_73 rfl (lv_at hl 3 rfl) ?_
          refine lv_iload_n hx hb dX1_isAhead_74 rfl (lv_at hl 4 rfl) ?_
          refine lv_icmp_ge (tgt := 82) hx hb dX1_isAhead_75 (by decide) (fun c12 => ?_) (fun c12 => ?_)
          · have c12 := k_le (a := b) (b := a) (by omega) (by omega) c12
            refine lv_iconst (v := 0) hx hb dX1_isAhead_82 (by decide) ?_
            subst hQ
            exact W.zret (v := 0) (ty := .boolean) hx hb hr rfl (fun t ht hW => ⟨_, rfl, (by unfold z_ah; rw [dvb, dva, decide_eq_false c10, decide_eq_false (p := a < b) (by omega), Bool.and_false]; rfl), ht⟩) (fun q hq => by cases hq) dX1_isAhead_83
          · have c12 := k_nle (a := b) (b := a) (by omega) (by omega) c12
            refine lv_iconst (v := 1) hx hb dX1_isAhead_78 (by decide) ?_
            refine lv_goto (tgt := 83) hx hb dX1_isAhead_79 (by decide) ?_
            subst hQ
            exact W.zret (v := 1) (ty := .boolean) hx hb hr rfl (fun t ht hW => ⟨_, rfl, (by unfold z_ah; rw [dvb, dva, decide_eq_false c10, decide_eq_true c11, decide_eq_true c12]; rfl), ht⟩) (fun q hq => by cases hq) dX1_isAhead_83
    · have dva : y_dv M a = 1 := by unfold y_dv; rw [if_pos c9]
      refine lv_iconst (v := 1) hx hb dX1_isAhead_45 (by decide) ?_
      refine lv_goto (tgt := 55) hx hb dX1_isAhead_46 (by decide) ?_
      refine lv_i2l (v := (1 : Int32).toInt64) hx hb dX1_isAhead_55 rfl ?_
      refine lv_lmul hx hb dX1_isAhead_56 ?_
      refine lv_lstore (lv' := [(5, .long ((((m_lw M) b).toInt64) * ((1 : Int32).toInt64))), (3, .long ((((m_lw M) a).toInt64) * ((1 : Int32).toInt64))), (0, .ref (h 0)), (1, .int (nI a)), (2, .int (nI b))]) hx hb dX1_isAhead_57 hl (by decide) rfl (fun ls hl => ?_)
      refine lv_lload_n hx hb dX1_isAhead_59 rfl (lv_at hl 1 rfl) ?_
      refine lv_lload hx hb dX1_isAhead_60 (lv_at hl 0 rfl) ?_
      refine W.lcmp hx hb dX1_isAhead_62 ?_
      refine lv_if_gt (tgt := 78) hx hb dX1_isAhead_63 (by decide) (fun c13 => ?_) (fun c13 => ?_)
      · have c13 := k_cgt c13
        refine lv_iconst (v := 1) hx hb dX1_isAhead_78 (by decide) ?_
        refine lv_goto (tgt := 83) hx hb dX1_isAhead_79 (by decide) ?_
        subst hQ
        exact W.zret (v := 1) (ty := .boolean) hx hb hr rfl (fun t ht hW => ⟨_, rfl, (by unfold z_ah; rw [dvb, dva, decide_eq_true c13, Bool.true_or, if_pos rfl]), ht⟩) (fun q hq => by cases hq) dX1_isAhead_83
      · have c13 := k_cngt c13
        refine lv_lload_n hx hb dX1_isAhead_66 rfl (lv_at hl 1 rfl) ?_
        refine lv_lload hx hb dX1_isAhead_67 (lv_at hl 0 rfl) ?_
        refine W.lcmp hx hb dX1_isAhead_69 ?_
        refine lv_if_ne (tgt := 82) hx hb dX1_isAhead_70 (by decide) (fun c14 => ?_) (fun c14 => ?_)
        · have c14 := k_cne c14
          refine lv_iconst (v := 0) hx hb dX1_isAhead_82 (by decide) ?_
          subst hQ
          exact W.zret (v := 0) (ty := .boolean) hx hb hr rfl (fun t ht hW => ⟨_, rfl, (by unfold z_ah; rw [dvb, dva, decide_eq_false c13, decide_eq_false c14]; rfl), ht⟩) (fun q hq => by cases hq) dX1_isAhead_83
        · have c14 := k_ceq c14
          refine lv_iload_n hx hb dX1_isAhead_73 rfl (lv_at hl 3 rfl) ?_
          refine lv_iload_n hx hb dX1_isAhead_74 rfl (lv_at hl 4 rfl) ?_
          refine lv_icmp_ge (tgt := 82) hx hb dX1_isAhead_75 (by decide) (fun c15 => ?_) (fun c15 => ?_)
          · have c15 := k_le (a := b) (b := a) (by omega) (by omega) c15
            refine lv_iconst (v := 0) hx hb dX1_isAhead_82 (by decide) ?_
            subst hQ
            exact W.zret (v := 0) (ty := .boolean) hx hb hr rfl (fun t ht hW => ⟨_, rfl, (by unfold z_ah; rw [dvb, dva, decide_eq_false c13, decide_eq_false (p := a < b) (by omega), Bool.and_false]; rfl), ht⟩) (fun q hq => by cases hq) dX1_isAhead_83
          · have c15 := k_nle (a := b) (b := a) (by omega) (by omega) c15
            refine lv_iconst (v := 1) hx hb dX1_isAhead_78 (by decide) ?_
            refine lv_goto (tgt := 83) hx hb dX1_isAhead_79 (by decide) ?_
            subst hQ
            exact W.zret (v := 1) (ty := .boolean) hx hb hr rfl (fun t ht hW => ⟨_, rfl, (by unfold z_ah; rw [dvb, dva, decide_eq_false c13, decide_eq_true c14, decide_eq_true c15]; rfl), ht⟩) (fun q hq => by cases hq) dX1_isAhead_83
