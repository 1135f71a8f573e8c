/-! THE LAW'S SMALL METHODS: one call of the class, its exceptions counted -/
def wO (ao : Nat) (cL : ClassId) (g : Nat → Int64) : va_W := [(ao, .inl (cL, 1, .inr (.inl g)))]
def x_Nc (U : State) : Prop := va_Nc E_ia E_io U ∧ va_Nc E_is E_io U ∧ va_Nc E_is E_ia U
theorem x_Nc.moved {u U : State} (hvm : u.vm.Alike U.vm) (h : x_Nc u) : x_Nc U := ⟨va_Nc.moved hvm h.1, va_Nc.moved hvm h.2.1, va_Nc.moved hvm h.2.2⟩
def l_pre (D : va_G) (cA cL : ClassId) (wc : va_W) (sz : Nat) : State → Prop := fun U => (pW D [(cA, .int), (cL, .long)] wc sz U ∧ x_En U) ∧ x_Nc U
def l_post (o : RR) (M : MM) (r : Int32) (u : MM × (Nat → Int64)) : Prop := r = nI o.1 ∧ (o.1 = 0 → u.1 = o.2.2 ∧ u.2 0 = o.2.1.toInt64) ∧ (¬ o.1 = 0 → u.1 = M) ∧ (r = 0 → o.1 = 0)
theorem l_ok {o : RR} {M u : MM} {r : Int32} {g : Nat → Int64} (q : o = (0, r, u)) : l_post o M 0 (u, vp_updL g 0 r.toInt64) := by
  subst q
  exact ⟨rfl, fun _ => ⟨rfl, rfl⟩, fun z => absurd rfl z, fun _ => rfl⟩
theorem l_no {o : RR} {M : MM} {g : Nat → Int64} {k : Nat} {v : Int32} (hk : o.1 = k) (h0 : ¬ k = 0) (hv : v = nI k) (h1 : ¬ v = 0) : l_post o M v (M, g) := by
  subst hk
  exact ⟨hv, fun z => absurd z h0, fun _ => rfl, fun z => absurd z h1⟩
theorem l_fb {D : va_G} {cA cL : ClassId} {wc : va_W} {sz : Nat} {av : List Value} : FrameBlind (va_Pc av (l_pre D cA cL wc sz)) := fun a U g mk q => ⟨q.1, (pE_fb pW_fb a U g mk ⟨q.1, q.2.1⟩).2, x_Nc.moved (u := U) (U := U.calling g mk a) (Vm.Alike.refl U.vm) q.2.2⟩
set_option maxHeartbeats 4000000 in
set_option maxRecDepth 100000 in
theorem eL_addLine (l : Launch) (hlt : l.stackTraces = false) (D : va_G) (h : Nat → Nat) (cA cL : ClassId) (M : MM) (hM : OKM M) (ao : Nat) (g : Nat → Int64) (v : Int32) (sz : Nat) : Met l yL_addLine wsL_addLine ({ frames := 8, cells := 1, slots := 6, locals := 134 } : Room) (va_Pc [.ref (h 0), .int v, .ref ao] (l_pre D cA cL (w0 h cA M ++ wO ao cL g) sz)) (va_Qi (fun (r : Int32) (u : MM × (Nat → Int64)) => l_post (o_addLine M v) M r u) (fun u => qW D (va_A (w0 h cA M ++ wO ao cL g) sz) (w0 h cA u.1 ++ wO ao cL u.2)) (va_A (w0 h cA M ++ wO ao cL g) sz)) 1 6 (va_A (w0 h cA M ++ wO ao cL g) sz) := by
  refine va_MetW (cc := cL_addLine) (maxL := 4) (ret := (some .int)) (hh := [(0, 9, 12, 13), (0, 9, 15, 15)]) (by decide) rfl ?_
  intro p e s m args below meth c s₁ B hml hv
  obtain ⟨rfl, ⟨⟨hsz, hP, hK, hD0⟩, hE⟩, hN⟩ := hv
  have hx := B.exec
  have hb := B.bytes
  have hr := B.returns
  have hts := atoms_spec (ws := wsL_addLine) B.pre
  have hown : s.vm.findClass RL = some m.cls := findClass_of_methodNamed B.named
  have hTab := vx_table (x := yL_addLine) B (hts (.codeWith yL_addLine cL_addLine 4 (some .int) [(0, 9, 12, 13), (0, 9, 15, 15)]) List.mem_cons_self)
  have kc13 := hts (.classLink RL 13 "java/lang/IllegalArgumentException") (by decide +kernel)
  have kc15 := hts (.classLink RL 15 "java/lang/IllegalStateException") (by decide +kernel)
  subst hsz
  have hD := hD0.self (sz := s.heap.size)
  generalize hAe : va_A (w0 h cA M ++ wO ao cL g) s.heap.size = A at hD ⊢
  have hA : ∀ q : Nat, s.heap.size ≤ q → A q := fun q h => by rw [← hAe]; exact Or.inr h
  have hS : va_S A s.heap s.heap [] := va_S.rf
  have hP : va_P D vwCl (w0 h cA M ++ wO ao cL g) s.heap := hP
  have hl := lv_entry ([.ref (h 0), .int v, .ref ao]) (n := 4) (Nat.le_of_ble_eq_true rfl)
  rw [lg_entry_eq]
  generalize (lg_sl ([.ref (h 0), .int v, .ref ao]) ++ List.replicate (4 - (lg_sl ([.ref (h 0), .int v, .ref ao])).length) Slot.unset).toArray = ls at hl ⊢
  have hl : lv_has ls 4 [(0, .ref (h 0)), (1, .int v), (2, .ref ao)] := hl
  refine w_abs (fun Q hQ => ?_)
  refine lv_aload_n hx hb dL_addLine_0 rfl (lv_at hl 2 rfl) ?_
  refine lv_iconst (v := 0) hx hb dL_addLine_1 (by decide) ?_
  refine lv_aload_n hx hb dL_addLine_2 rfl (lv_at hl 0 rfl) ?_
  refine lv_iload_n hx hb dL_addLine_3 rfl (lv_at hl 1 rfl) ?_
  refine g_calliX (wl := []) (wc := w0 h cA M) (wr := wO ao cL g) (wf := fun u : MM => w0 h cA u) (vx_runV (As := [.int v]) (rest := [.int 0, .ref ao]) ⟨hx, hb, hml, hown, hts⟩ (c0_addLine l hlt D h cA M hM v s.heap.size) (cwV 1 hts gL_addLine_X0_addLine rfl rfl rfl (by decide +kernel) ⟨Nat.le_of_ble_eq_true rfl, Nat.le_of_ble_eq_true rfl⟩) ⟨pE_fb pW_fb, va_recv hK hP (ci := 0) (q0 := 0) rfl rfl, pE_mk rfl (pW_mk (p_left hP) (hK.sub [0] rfl) (d_left hD)) hE⟩ rfl rfl hl.1 rfl (lv_room (Nat.le_of_ble_eq_true rfl)) dL_addLine_4 ⟨Nat.le_of_ble_eq_true rfl, Nat.le_of_ble_eq_true rfl⟩) rfl hP hD hS hA (fun E ce q9 H1 locs1 hpx g1 g2 hP1 hS1 hce hcv hcl => ?_) (fun r u H locs qr hP hD hS => ?_)
  · rcases hpx with ⟨rfl, hk⟩ | ⟨rfl, hk⟩
    · refine vx_catch (own := RL) (name := E_ia) (E := E_ia) hown [] ⟨0, 9, 12, 13⟩ [⟨0, 9, 15, 15⟩] (hTab.trans rfl) (fun z hz => absurd hz List.not_mem_nil) (by decide) (by decide) kc13 (va_Nw.use rfl hE.1.2.1) hce hcv hcl ?_
      refine lv_astore_n (lv' := [(3, .ref q9), (0, .ref (h 0)), (1, .int v), (2, .ref ao)]) hx hb dL_addLine_12 rfl hl (by decide) rfl (fun ls hl => ?_)
      refine lv_iconst (v := 1) hx hb dL_addLine_13 (by decide) ?_
      subst hQ
      exact W.iret (v := 1) hx hb hr (fun t ht hW => ⟨⟨1, (M, g), rfl, l_no hk (by decide) rfl (by decide), by rw [ht]; exact hP1, hD⟩, hS1.F ht⟩) hS1.2.2 dL_addLine_14
    · refine vx_catch (own := RL) (name := E_is) (E := E_is) hown [⟨0, 9, 12, 13⟩] ⟨0, 9, 15, 15⟩ [] (hTab.trans rfl) (fun z hz => by obtain rfl := List.mem_singleton.mp hz; exact Or.inr ⟨by decide, _, kc13, hN.2.2⟩) (by decide) (by decide) kc15 (va_Nw.use rfl hE.1.2.2.1) hce hcv hcl ?_
      refine lv_astore_n (lv' := [(3, .ref q9), (0, .ref (h 0)), (1, .int v), (2, .ref ao)]) hx hb dL_addLine_15 rfl hl (by decide) rfl (fun ls hl => ?_)
      refine lv_iconst (v := 2) hx hb dL_addLine_16 (by decide) ?_
      subst hQ
      exact W.iret (v := 2) hx hb hr (fun t ht hW => ⟨⟨2, (M, g), rfl, l_no hk (by decide) rfl (by decide), by rw [ht]; exact hP1, hD⟩, hS1.F ht⟩) hS1.2.2 dL_addLine_17
  · have hP : va_P D vwCl (w0 h cA u ++ wO ao cL g) H := hP
    have hD : va_D A (w0 h cA u ++ wO ao cL g) := hD
    refine lv_i2l (v := r.toInt64) hx hb dL_addLine_7 rfl ?_
    refine va_last (f := g) (x := r.toInt64) hx hb hK hP hD hS 12 1 rfl rfl (vp_in_nI (n := 0) (N := 1) (by decide) (by decide)) dL_addLine_8 (fun H locs hP hD hS => ?_)
    have hP : va_P D vwCl (w0 h cA u ++ wO ao cL (vp_updL g 0 r.toInt64)) H := hP
    have hD : va_D A (w0 h cA u ++ wO ao cL (vp_updL g 0 r.toInt64)) := hD
    refine lv_goto (tgt := 18) hx hb dL_addLine_9 (by decide) ?_
    refine lv_iconst (v := 0) hx hb dL_addLine_18 (by decide) ?_
    subst hQ
    exact W.iret (v := 0) hx hb hr (fun t ht hW => ⟨⟨0, (u, vp_updL g 0 r.toInt64), rfl, l_ok qr, by rw [ht]; exact hP, hD⟩, hS.F ht⟩) hS.2.2 dL_addLine_19
set_option maxHeartbeats 4000000 in
set_option maxRecDepth 100000 in
theorem eL_changeValue (l : Launch) (hlt : l.stackTraces = false) (D : va_G) (h : Nat → Nat) (cA cL : ClassId) (M : MM) (hM : OKM M) (ao : Nat) (g : Nat → Int64) (x v : Int32) (sz : Nat) : Met l yL_changeValue wsL_changeValue ({ frames := 8, cells := 1, slots := 6, locals := 135 } : Room) (va_Pc [.ref (h 0), .int x, .int v, .ref ao] (l_pre D cA cL (w0 h cA M ++ wO ao cL g) sz)) (va_Qi (fun (r : Int32) (u : MM × (Nat → Int64)) => l_post (o_changeValue M x v) M r u) (fun u => qW D (va_A (w0 h cA M ++ wO ao cL g) sz) (w0 h cA u.1 ++ wO ao cL u.2)) (va_A (w0 h cA M ++ wO ao cL g) sz)) 1 6 (va_A (w0 h cA M ++ wO ao cL g) sz) := by
  refine va_MetW (cc := cL_changeValue) (maxL := 5) (ret := (some .int)) (hh := [(0, 10, 13, 21), (0, 10, 17, 13), (0, 10, 21, 15)]) (by decide) rfl ?_
  intro p e s m args below meth c s₁ B hml hv
  obtain ⟨rfl, ⟨⟨hsz, hP, hK, hD0⟩, hE⟩, hN⟩ := hv
  have hx := B.exec
  have hb := B.bytes
  have hr := B.returns
  have hts := atoms_spec (ws := wsL_changeValue) B.pre
  have hown : s.vm.findClass RL = some m.cls := findClass_of_methodNamed B.named
  have hTab := vx_table (x := yL_changeValue) B (hts (.codeWith yL_changeValue cL_changeValue 5 (some .int) [(0, 10, 13, 21), (0, 10, 17, 13), (0, 10, 21, 15)]) List.mem_cons_self)
  have kc21 := hts (.classLink RL 21 "java/lang/IndexOutOfBoundsException") (by decide +kernel)
  have kc13 := hts (.classLink RL 13 "java/lang/IllegalArgumentException") (by decide +kernel)
  have kc15 := hts (.classLink RL 15 "java/lang/IllegalStateException") (by decide +kernel)
  subst hsz
  have hD := hD0.self (sz := s.heap.size)
  generalize hAe : va_A (w0 h cA M ++ wO ao cL g) s.heap.size = A at hD ⊢
  have hA : ∀ q : Nat, s.heap.size ≤ q → A q := fun q h => by rw [← hAe]; exact Or.inr h
  have hS : va_S A s.heap s.heap [] := va_S.rf
  have hP : va_P D vwCl (w0 h cA M ++ wO ao cL g) s.heap := hP
  have hl := lv_entry ([.ref (h 0), .int x, .int v, .ref ao]) (n := 5) (Nat.le_of_ble_eq_true rfl)
  rw [lg_entry_eq]
  generalize (lg_sl ([.ref (h 0), .int x, .int v, .ref ao]) ++ List.replicate (5 - (lg_sl ([.ref (h 0), .int x, .int v, .ref ao])).length) Slot.unset).toArray = ls at hl ⊢
  have hl : lv_has ls 5 [(0, .ref (h 0)), (1, .int x), (2, .int v), (3, .ref ao)] := hl
  refine w_abs (fun Q hQ => ?_)
  refine lv_aload_n hx hb dL_changeValue_0 rfl (lv_at hl 3 rfl) ?_
  refine lv_iconst (v := 0) hx hb dL_changeValue_1 (by decide) ?_
  refine lv_aload_n hx hb dL_changeValue_2 rfl (lv_at hl 0 rfl) ?_
  refine lv_iload_n hx hb dL_changeValue_3 rfl (lv_at hl 1 rfl) ?_
  refine lv_iload_n hx hb dL_changeValue_4 rfl (lv_at hl 2 rfl) ?_
  refine g_calliX (wl := []) (wc := w0 h cA M) (wr := wO ao cL g) (wf := fun u : MM => w0 h cA u) (vx_runV (As := [.int x, .int v]) (rest := [.int 0, .ref ao]) ⟨hx, hb, hml, hown, hts⟩ (c0_changeValue l hlt D h cA M hM x v s.heap.size) (cwV 2 hts gL_changeValue_X0_changeValue rfl rfl rfl (by decide +kernel) ⟨Nat.le_of_ble_eq_true rfl, Nat.le_of_ble_eq_true rfl⟩) ⟨pE_fb pW_fb, va_recv hK hP (ci := 0) (q0 := 0) rfl rfl, pE_mk rfl (pW_mk (p_left hP) (hK.sub [0] rfl) (d_left hD)) hE⟩ rfl rfl hl.1 rfl (lv_room (Nat.le_of_ble_eq_true rfl)) dL_changeValue_5 ⟨Nat.le_of_ble_eq_true rfl, Nat.le_of_ble_eq_true rfl⟩) rfl hP hD hS hA (fun E ce q9 H1 locs1 hpx g1 g2 hP1 hS1 hce hcv hcl => ?_) (fun r u H locs qr hP hD hS => ?_)
  · rcases hpx with ⟨rfl, hk⟩ | ⟨rfl, hk⟩ | ⟨rfl, hk⟩
    · refine vx_catch (own := RL) (name := E_io) (E := E_io) hown [] ⟨0, 10, 13, 21⟩ [⟨0, 10, 17, 13⟩, ⟨0, 10, 21, 15⟩] (hTab.trans rfl) (fun z hz => absurd hz List.not_mem_nil) (by decide) (by decide) kc21 (va_Nw.use rfl hE.1.1) hce hcv hcl ?_
      refine lv_astore (lv' := [(4, .ref q9), (0, .ref (h 0)), (1, .int x), (2, .int v), (3, .ref ao)]) hx hb dL_changeValue_13 hl (by decide) rfl (fun ls hl => ?_)
      refine lv_iconst (v := 1) hx hb dL_changeValue_15 (by decide) ?_
      subst hQ
      exact W.iret (v := 1) hx hb hr (fun t ht hW => ⟨⟨1, (M, g), rfl, l_no hk (by decide) rfl (by decide), by rw [ht]; exact hP1, hD⟩, hS1.F ht⟩) hS1.2.2 dL_changeValue_16
    · refine vx_catch (own := RL) (name := E_ia) (E := E_ia) hown [⟨0, 10, 13, 21⟩] ⟨0, 10, 17, 13⟩ [⟨0, 10, 21, 15⟩] (hTab.trans rfl) (fun z hz => by obtain rfl := List.mem_singleton.mp hz; exact Or.inr ⟨by decide, _, kc21, hN.1⟩) (by decide) (by decide) kc13 (va_Nw.use rfl hE.1.2.1) hce hcv hcl ?_
      refine lv_astore (lv' := [(4, .ref q9), (0, .ref (h 0)), (1, .int x), (2, .int v), (3, .ref ao)]) hx hb dL_changeValue_17 hl (by decide) rfl (fun ls hl => ?_)
      refine lv_iconst (v := 2) hx hb dL_changeValue_19 (by decide) ?_
      subst hQ
      exact W.iret (v := 2) hx hb hr (fun t ht hW => ⟨⟨2, (M, g), rfl, l_no hk (by decide) rfl (by decide), by rw [ht]; exact hP1, hD⟩, hS1.F ht⟩) hS1.2.2 dL_changeValue_20
    · refine vx_catch (own := RL) (name := E_is) (E := E_is) hown [⟨0, 10, 13, 21⟩, ⟨0, 10, 17, 13⟩] ⟨0, 10, 21, 15⟩ [] (hTab.trans rfl) (fun z hz => (List.mem_cons.mp hz).elim (fun h9 => by subst h9; exact Or.inr ⟨by decide, _, kc21, hN.2.1⟩) (fun h9 => by obtain rfl := List.mem_singleton.mp h9; exact Or.inr ⟨by decide, _, kc13, hN.2.2⟩)) (by decide) (by decide) kc15 (va_Nw.use rfl hE.1.2.2.1) hce hcv hcl ?_
      refine lv_astore (lv' := [(4, .ref q9), (0, .ref (h 0)), (1, .int x), (2, .int v), (3, .ref ao)]) hx hb dL_changeValue_21 hl (by decide) rfl (fun ls hl => ?_)
      refine lv_iconst (v := 3) hx hb dL_changeValue_23 (by decide) ?_
      subst hQ
      exact W.iret (v := 3) hx hb hr (fun t ht hW => ⟨⟨3, (M, g), rfl, l_no hk (by decide) rfl (by decide), by rw [ht]; exact hP1, hD⟩, hS1.F ht⟩) hS1.2.2 dL_changeValue_24
  · have hP : va_P D vwCl (w0 h cA u ++ wO ao cL g) H := hP
    have hD : va_D A (w0 h cA u ++ wO ao cL g) := hD
    refine lv_i2l (v := r.toInt64) hx hb dL_changeValue_8 rfl ?_
    refine va_last (f := g) (x := r.toInt64) hx hb hK hP hD hS 12 1 rfl rfl (vp_in_nI (n := 0) (N := 1) (by decide) (by decide)) dL_changeValue_9 (fun H locs hP hD hS => ?_)
    have hP : va_P D vwCl (w0 h cA u ++ wO ao cL (vp_updL g 0 r.toInt64)) H := hP
    have hD : va_D A (w0 h cA u ++ wO ao cL (vp_updL g 0 r.toInt64)) := hD
    refine lv_goto (tgt := 25) hx hb dL_changeValue_10 (by decide) ?_
    refine lv_iconst (v := 0) hx hb dL_changeValue_25 (by decide) ?_
    subst hQ
    exact W.iret (v := 0) hx hb hr (fun t ht hW => ⟨⟨0, (u, vp_updL g 0 r.toInt64), rfl, l_ok qr, by rw [ht]; exact hP, hD⟩, hS.F ht⟩) hS.2.2 dL_changeValue_26
set_option maxHeartbeats 4000000 in
set_option maxRecDepth 100000 in
theorem eL_split (l : Launch) (hlt : l.stackTraces = false) (D : va_G) (h : Nat → Nat) (cA cL : ClassId) (M : MM) (hM : OKM M) (ao : Nat) (g : Nat → Int64) (x p9 : Int32) (sz : Nat) : Met l yL_split wsL_split ({ frames := 8, cells := 1, slots := 6, locals := 136 } : Room) (va_Pc [.ref (h 0), .int x, .int p9, .ref ao] (l_pre D cA cL (w0 h cA M ++ wO ao cL g) sz)) (va_Qi (fun (r : Int32) (u : MM × (Nat → Int64)) => l_post (x_split M x p9) M r u) (fun u => qW D (va_A (w0 h cA M ++ wO ao cL g) sz) (w0 h cA u.1 ++ wO ao cL u.2)) (va_A (w0 h cA M ++ wO ao cL g) sz)) 1 6 (va_A (w0 h cA M ++ wO ao cL g) sz) := by
  refine va_MetW (cc := cL_split) (maxL := 5) (ret := (some .int)) (hh := [(0, 10, 13, 21), (0, 10, 17, 13), (0, 10, 21, 15)]) (by decide) rfl ?_
  intro p e s m args below meth c s₁ B hml hv
  obtain ⟨rfl, ⟨⟨hsz, hP, hK, hD0⟩, hE⟩, hN⟩ := hv
  have hx := B.exec
  have hb := B.bytes
  have hr := B.returns
  have hts := atoms_spec (ws := wsL_split) B.pre
  have hown : s.vm.findClass RL = some m.cls := findClass_of_methodNamed B.named
  have hTab := vx_table (x := yL_split) B (hts (.codeWith yL_split cL_split 5 (some .int) [(0, 10, 13, 21), (0, 10, 17, 13), (0, 10, 21, 15)]) List.mem_cons_self)
  have kc21 := hts (.classLink RL 21 "java/lang/IndexOutOfBoundsException") (by decide +kernel)
  have kc13 := hts (.classLink RL 13 "java/lang/IllegalArgumentException") (by decide +kernel)
  have kc15 := hts (.classLink RL 15 "java/lang/IllegalStateException") (by decide +kernel)
  subst hsz
  have hD := hD0.self (sz := s.heap.size)
  generalize hAe : va_A (w0 h cA M ++ wO ao cL g) s.heap.size = A at hD ⊢
  have hA : ∀ q : Nat, s.heap.size ≤ q → A q := fun q h => by rw [← hAe]; exact Or.inr h
  have hS : va_S A s.heap s.heap [] := va_S.rf
  have hP : va_P D vwCl (w0 h cA M ++ wO ao cL g) s.heap := hP
  have hl := lv_entry ([.ref (h 0), .int x, .int p9, .ref ao]) (n := 5) (Nat.le_of_ble_eq_true rfl)
  rw [lg_entry_eq]
  generalize (lg_sl ([.ref (h 0), .int x, .int p9, .ref ao]) ++ List.replicate (5 - (lg_sl ([.ref (h 0), .int x, .int p9, .ref ao])).length) Slot.unset).toArray = ls at hl ⊢
  have hl : lv_has ls 5 [(0, .ref (h 0)), (1, .int x), (2, .int p9), (3, .ref ao)] := hl
  refine w_abs (fun Q hQ => ?_)
  refine lv_aload_n hx hb dL_split_0 rfl (lv_at hl 3 rfl) ?_
  refine lv_iconst (v := 0) hx hb dL_split_1 (by decide) ?_
  refine lv_aload_n hx hb dL_split_2 rfl (lv_at hl 0 rfl) ?_
  refine lv_iload_n hx hb dL_split_3 rfl (lv_at hl 1 rfl) ?_
  refine lv_iload_n hx hb dL_split_4 rfl (lv_at hl 2 rfl) ?_
  refine g_calliX (wl := []) (wc := w0 h cA M) (wr := wO ao cL g) (wf := fun u : MM => w0 h cA u) (vx_runV (As := [.int x, .int p9]) (rest := [.int 0, .ref ao]) ⟨hx, hb, hml, hown, hts⟩ (c0_split l hlt D h cA M hM x p9 s.heap.size) (cwV 2 hts gL_split_X0_split rfl rfl rfl (by decide +kernel) ⟨Nat.le_of_ble_eq_true rfl, Nat.le_of_ble_eq_true rfl⟩) ⟨pE_fb pW_fb, va_recv hK hP (ci := 0) (q0 := 0) rfl rfl, pE_mk rfl (pW_mk (p_left hP) (hK.sub [0] rfl) (d_left hD)) hE⟩ rfl rfl hl.1 rfl (lv_room (Nat.le_of_ble_eq_true rfl)) dL_split_5 ⟨Nat.le_of_ble_eq_true rfl, Nat.le_of_ble_eq_true rfl⟩) rfl hP hD hS hA (fun E ce q9 H1 locs1 hpx g1 g2 hP1 hS1 hce hcv hcl => ?_) (fun r u H locs qr hP hD hS => ?_)
  · rcases hpx with ⟨rfl, hk⟩ | ⟨rfl, hk⟩ | ⟨rfl, hk⟩
    · refine vx_catch (own := RL) (name := E_io) (E := E_io) hown [] ⟨0, 10, 13, 21⟩ [⟨0, 10, 17, 13⟩, ⟨0, 10, 21, 15⟩] (hTab.trans rfl) (fun z hz => absurd hz List.not_mem_nil) (by decide) (by decide) kc21 (va_Nw.use rfl hE.1.1) hce hcv hcl ?_
      refine lv_astore (lv' := [(4, .ref q9), (0, .ref (h 0)), (1, .int x), (2, .int p9), (3, .ref ao)]) hx hb dL_split_13 hl (by decide) rfl (fun ls hl => ?_)
      refine lv_iconst (v := 1) hx hb dL_split_15 (by decide) ?_
      subst hQ
      exact W.iret (v := 1) hx hb hr (fun t ht hW => ⟨⟨1, (M, g), rfl, l_no hk (by decide) rfl (by decide), by rw [ht]; exact hP1, hD⟩, hS1.F ht⟩) hS1.2.2 dL_split_16
    · refine vx_catch (own := RL) (name := E_ia) (E := E_ia) hown [⟨0, 10, 13, 21⟩] ⟨0, 10, 17, 13⟩ [⟨0, 10, 21, 15⟩] (hTab.trans rfl) (fun z hz => by obtain rfl := List.mem_singleton.mp hz; exact Or.inr ⟨by decide, _, kc21, hN.1⟩) (by decide) (by decide) kc13 (va_Nw.use rfl hE.1.2.1) hce hcv hcl ?_
      refine lv_astore (lv' := [(4, .ref q9), (0, .ref (h 0)), (1, .int x), (2, .int p9), (3, .ref ao)]) hx hb dL_split_17 hl (by decide) rfl (fun ls hl => ?_)
      refine lv_iconst (v := 2) hx hb dL_split_19 (by decide) ?_
      subst hQ
      exact W.iret (v := 2) hx hb hr (fun t ht hW => ⟨⟨2, (M, g), rfl, l_no hk (by decide) rfl (by decide), by rw [ht]; exact hP1, hD⟩, hS1.F ht⟩) hS1.2.2 dL_split_20
    · refine vx_catch (own := RL) (name := E_is) (E := E_is) hown [⟨0, 10, 13, 21⟩, ⟨0, 10, 17, 13⟩] ⟨0, 10, 21, 15⟩ [] (hTab.trans rfl) (fun z hz => (List.mem_cons.mp hz).elim (fun h9 => by subst h9; exact Or.inr ⟨by decide, _, kc21, hN.2.1⟩) (fun h9 => by obtain rfl := List.mem_singleton.mp h9; exact Or.inr ⟨by decide, _, kc13, hN.2.2⟩)) (by decide) (by decide) kc15 (va_Nw.use rfl hE.1.2.2.1) hce hcv hcl ?_
      refine lv_astore (lv' := [(4, .ref q9), (0, .ref (h 0)), (1, .int x), (2, .int p9), (3, .ref ao)]) hx hb dL_split_21 hl (by decide) rfl (fun ls hl => ?_)
      refine lv_iconst (v := 3) hx hb dL_split_23 (by decide) ?_
      subst hQ
      exact W.iret (v := 3) hx hb hr (fun t ht hW => ⟨⟨3, (M, g), rfl, l_no hk (by decide) rfl (by decide), by rw [ht]; exact hP1, hD⟩, hS1.F ht⟩) hS1.2.2 dL_split_24
  · have hP : va_P D vwCl (w0 h cA u ++ wO ao cL g) H := hP
    have hD : va_D A (w0 h cA u ++ wO ao cL g) := hD
    refine lv_i2l (v := r.toInt64) hx hb dL_split_8 rfl ?_
    refine va_last (f := g) (x := r.toInt64) hx hb hK hP hD hS 12 1 rfl rfl (vp_in_nI (n := 0) (N := 1) (by decide) (by decide)) dL_split_9 (fun H locs hP hD hS => ?_)
    have hP : va_P D vwCl (w0 h cA u ++ wO ao cL (vp_updL g 0 r.toInt64)) H := hP
    have hD : va_D A (w0 h cA u ++ wO ao cL (vp_updL g 0 r.toInt64)) := hD
    refine lv_goto (tgt := 25) hx hb dL_split_10 (by decide) ?_
    refine lv_iconst (v := 0) hx hb dL_split_25 (by decide) ?_
    subst hQ
    exact W.iret (v := 0) hx hb hr (fun t ht hW => ⟨⟨0, (u, vp_updL g 0 r.toInt64), rfl, l_ok qr, by rw [ht]; exact hP, hD⟩, hS.F ht⟩) hS.2.2 dL_split_26
set_option maxHeartbeats 4000000 in
set_option maxRecDepth 100000 in
theorem eL_setWork (l : Launch) (hlt : l.stackTraces = false) (D : va_G) (h : Nat → Nat) (cA cL : ClassId) (M : MM) (hM : OKM M) (ao : Nat) (g : Nat → Int64) (x s9 : Int32) (sz : Nat) : Met l yL_setWork wsL_setWork ({ frames := 8, cells := 1, slots := 6, locals := 135 } : Room) (va_Pc [.ref (h 0), .int x, .int s9, .ref ao] (l_pre D cA cL (w0 h cA M ++ wO ao cL g) sz)) (va_Qi (fun (r : Int32) (u : MM × (Nat → Int64)) => l_post (x_setWork M x s9) M r u) (fun u => qW D (va_A (w0 h cA M ++ wO ao cL g) sz) (w0 h cA u.1 ++ wO ao cL u.2)) (va_A (w0 h cA M ++ wO ao cL g) sz)) 1 6 (va_A (w0 h cA M ++ wO ao cL g) sz) := by
  refine va_MetW (cc := cL_setWork) (maxL := 5) (ret := (some .int)) (hh := [(0, 10, 13, 21), (0, 10, 17, 13), (0, 10, 21, 15)]) (by decide) rfl ?_
  intro p e s m args below meth c s₁ B hml hv
  obtain ⟨rfl, ⟨⟨hsz, hP, hK, hD0⟩, hE⟩, hN⟩ := hv
  have hx := B.exec
  have hb := B.bytes
  have hr := B.returns
  have hts := atoms_spec (ws := wsL_setWork) B.pre
  have hown : s.vm.findClass RL = some m.cls := findClass_of_methodNamed B.named
  have hTab := vx_table (x := yL_setWork) B (hts (.codeWith yL_setWork cL_setWork 5 (some .int) [(0, 10, 13, 21), (0, 10, 17, 13), (0, 10, 21, 15)]) List.mem_cons_self)
  have kc21 := hts (.classLink RL 21 "java/lang/IndexOutOfBoundsException") (by decide +kernel)
  have kc13 := hts (.classLink RL 13 "java/lang/IllegalArgumentException") (by decide +kernel)
  have kc15 := hts (.classLink RL 15 "java/lang/IllegalStateException") (by decide +kernel)
  subst hsz
  have hD := hD0.self (sz := s.heap.size)
  generalize hAe : va_A (w0 h cA M ++ wO ao cL g) s.heap.size = A at hD ⊢
  have hA : ∀ q : Nat, s.heap.size ≤ q → A q := fun q h => by rw [← hAe]; exact Or.inr h
  have hS : va_S A s.heap s.heap [] := va_S.rf
  have hP : va_P D vwCl (w0 h cA M ++ wO ao cL g) s.heap := hP
  have hl := lv_entry ([.ref (h 0), .int x, .int s9, .ref ao]) (n := 5) (Nat.le_of_ble_eq_true rfl)
  rw [lg_entry_eq]
  generalize (lg_sl ([.ref (h 0), .int x, .int s9, .ref ao]) ++ List.replicate (5 - (lg_sl ([.ref (h 0), .int x, .int s9, .ref ao])).length) Slot.unset).toArray = ls at hl ⊢
  have hl : lv_has ls 5 [(0, .ref (h 0)), (1, .int x), (2, .int s9), (3, .ref ao)] := hl
  refine w_abs (fun Q hQ => ?_)
  refine lv_aload_n hx hb dL_setWork_0 rfl (lv_at hl 3 rfl) ?_
  refine lv_iconst (v := 0) hx hb dL_setWork_1 (by decide) ?_
  refine lv_aload_n hx hb dL_setWork_2 rfl (lv_at hl 0 rfl) ?_
  refine lv_iload_n hx hb dL_setWork_3 rfl (lv_at hl 1 rfl) ?_
  refine lv_iload_n hx hb dL_setWork_4 rfl (lv_at hl 2 rfl) ?_
  refine g_calliX (wl := []) (wc := w0 h cA M) (wr := wO ao cL g) (wf := fun u : MM => w0 h cA u) (vx_runV (As := [.int x, .int s9]) (rest := [.int 0, .ref ao]) ⟨hx, hb, hml, hown, hts⟩ (c0_setWork l hlt D h cA M hM x s9 s.heap.size) (cwV 2 hts gL_setWork_X0_setWork rfl rfl rfl (by decide +kernel) ⟨Nat.le_of_ble_eq_true rfl, Nat.le_of_ble_eq_true rfl⟩) ⟨pE_fb pW_fb, va_recv hK hP (ci := 0) (q0 := 0) rfl rfl, pE_mk rfl (pW_mk (p_left hP) (hK.sub [0] rfl) (d_left hD)) hE⟩ rfl rfl hl.1 rfl (lv_room (Nat.le_of_ble_eq_true rfl)) dL_setWork_5 ⟨Nat.le_of_ble_eq_true rfl, Nat.le_of_ble_eq_true rfl⟩) rfl hP hD hS hA (fun E ce q9 H1 locs1 hpx g1 g2 hP1 hS1 hce hcv hcl => ?_) (fun r u H locs qr hP hD hS => ?_)
  · rcases hpx with ⟨rfl, hk⟩ | ⟨rfl, hk⟩ | ⟨rfl, hk⟩
    · refine vx_catch (own := RL) (name := E_io) (E := E_io) hown [] ⟨0, 10, 13, 21⟩ [⟨0, 10, 17, 13⟩, ⟨0, 10, 21, 15⟩] (hTab.trans rfl) (fun z hz => absurd hz List.not_mem_nil) (by decide) (by decide) kc21 (va_Nw.use rfl hE.1.1) hce hcv hcl ?_
      refine lv_astore (lv' := [(4, .ref q9), (0, .ref (h 0)), (1, .int x), (2, .int s9), (3, .ref ao)]) hx hb dL_setWork_13 hl (by decide) rfl (fun ls hl => ?_)
      refine lv_iconst (v := 1) hx hb dL_setWork_15 (by decide) ?_
      subst hQ
      exact W.iret (v := 1) hx hb hr (fun t ht hW => ⟨⟨1, (M, g), rfl, l_no hk (by decide) rfl (by decide), by rw [ht]; exact hP1, hD⟩, hS1.F ht⟩) hS1.2.2 dL_setWork_16
    · refine vx_catch (own := RL) (name := E_ia) (E := E_ia) hown [⟨0, 10, 13, 21⟩] ⟨0, 10, 17, 13⟩ [⟨0, 10, 21, 15⟩] (hTab.trans rfl) (fun z hz => by obtain rfl := List.mem_singleton.mp hz; exact Or.inr ⟨by decide, _, kc21, hN.1⟩) (by decide) (by decide) kc13 (va_Nw.use rfl hE.1.2.1) hce hcv hcl ?_
      refine lv_astore (lv' := [(4, .ref q9), (0, .ref (h 0)), (1, .int x), (2, .int s9), (3, .ref ao)]) hx hb dL_setWork_17 hl (by decide) rfl (fun ls hl => ?_)
      refine lv_iconst (v := 2) hx hb dL_setWork_19 (by decide) ?_
      subst hQ
      exact W.iret (v := 2) hx hb hr (fun t ht hW => ⟨⟨2, (M, g), rfl, l_no hk (by decide) rfl (by decide), by rw [ht]; exact hP1, hD⟩, hS1.F ht⟩) hS1.2.2 dL_setWork_20
    · refine vx_catch (own := RL) (name := E_is) (E := E_is) hown [⟨0, 10, 13, 21⟩, ⟨0, 10, 17, 13⟩] ⟨0, 10, 21, 15⟩ [] (hTab.trans rfl) (fun z hz => (List.mem_cons.mp hz).elim (fun h9 => by subst h9; exact Or.inr ⟨by decide, _, kc21, hN.2.1⟩) (fun h9 => by obtain rfl := List.mem_singleton.mp h9; exact Or.inr ⟨by decide, _, kc13, hN.2.2⟩)) (by decide) (by decide) kc15 (va_Nw.use rfl hE.1.2.2.1) hce hcv hcl ?_
      refine lv_astore (lv' := [(4, .ref q9), (0, .ref (h 0)), (1, .int x), (2, .int s9), (3, .ref ao)]) hx hb dL_setWork_21 hl (by decide) rfl (fun ls hl => ?_)
      refine lv_iconst (v := 3) hx hb dL_setWork_23 (by decide) ?_
      subst hQ
      exact W.iret (v := 3) hx hb hr (fun t ht hW => ⟨⟨3, (M, g), rfl, l_no hk (by decide) rfl (by decide), by rw [ht]; exact hP1, hD⟩, hS1.F ht⟩) hS1.2.2 dL_setWork_24
  · have hP : va_P D vwCl (w0 h cA u ++ wO ao cL g) H := hP
    have hD : va_D A (w0 h cA u ++ wO ao cL g) := hD
    refine lv_i2l (v := r.toInt64) hx hb dL_setWork_8 rfl ?_
    refine va_last (f := g) (x := r.toInt64) hx hb hK hP hD hS 12 1 rfl rfl (vp_in_nI (n := 0) (N := 1) (by decide) (by decide)) dL_setWork_9 (fun H locs hP hD hS => ?_)
    have hP : va_P D vwCl (w0 h cA u ++ wO ao cL (vp_updL g 0 r.toInt64)) H := hP
    have hD : va_D A (w0 h cA u ++ wO ao cL (vp_updL g 0 r.toInt64)) := hD
    refine lv_goto (tgt := 25) hx hb dL_setWork_10 (by decide) ?_
    refine lv_iconst (v := 0) hx hb dL_setWork_25 (by decide) ?_
    subst hQ
    exact W.iret (v := 0) hx hb hr (fun t ht hW => ⟨⟨0, (u, vp_updL g 0 r.toInt64), rfl, l_ok qr, by rw [ht]; exact hP, hD⟩, hS.F ht⟩) hS.2.2 dL_setWork_26
set_option maxHeartbeats 4000000 in
set_option maxRecDepth 100000 in
theorem eL_store (l : Launch) (hlt : l.stackTraces = false) (D : va_G) (h : Nat → Nat) (cA cL : ClassId) (M : MM) (hM : OKM M) (ao : Nat) (g : Nat → Int64) (x c9 : Int32) (sz : Nat) : Met l yL_store wsL_store ({ frames := 8, cells := 1, slots := 6, locals := 134 } : Room) (va_Pc [.ref (h 0), .int x, .int c9, .ref ao] (l_pre D cA cL (w0 h cA M ++ wO ao cL g) sz)) (va_Qi (fun (r : Int32) (u : MM × (Nat → Int64)) => l_post (x_store M x c9) M r u) (fun u => qW D (va_A (w0 h cA M ++ wO ao cL g) sz) (w0 h cA u.1 ++ wO ao cL u.2)) (va_A (w0 h cA M ++ wO ao cL g) sz)) 1 6 (va_A (w0 h cA M ++ wO ao cL g) sz) := by
  refine va_MetW (cc := cL_store) (maxL := 5) (ret := (some .int)) (hh := [(0, 10, 13, 21), (0, 10, 17, 13), (0, 10, 21, 15)]) (by decide) rfl ?_
  intro p e s m args below meth c s₁ B hml hv
  obtain ⟨rfl, ⟨⟨hsz, hP, hK, hD0⟩, hE⟩, hN⟩ := hv
  have hx := B.exec
  have hb := B.bytes
  have hr := B.returns
  have hts := atoms_spec (ws := wsL_store) B.pre
  have hown : s.vm.findClass RL = some m.cls := findClass_of_methodNamed B.named
  have hTab := vx_table (x := yL_store) B (hts (.codeWith yL_store cL_store 5 (some .int) [(0, 10, 13, 21), (0, 10, 17, 13), (0, 10, 21, 15)]) List.mem_cons_self)
  have kc21 := hts (.classLink RL 21 "java/lang/IndexOutOfBoundsException") (by decide +kernel)
  have kc13 := hts (.classLink RL 13 "java/lang/IllegalArgumentException") (by decide +kernel)
  have kc15 := hts (.classLink RL 15 "java/lang/IllegalStateException") (by decide +kernel)
  subst hsz
  have hD := hD0.self (sz := s.heap.size)
  generalize hAe : va_A (w0 h cA M ++ wO ao cL g) s.heap.size = A at hD ⊢
  have hA : ∀ q : Nat, s.heap.size ≤ q → A q := fun q h => by rw [← hAe]; exact Or.inr h
  have hS : va_S A s.heap s.heap [] := va_S.rf
  have hP : va_P D vwCl (w0 h cA M ++ wO ao cL g) s.heap := hP
  have hl := lv_entry ([.ref (h 0), .int x, .int c9, .ref ao]) (n := 5) (Nat.le_of_ble_eq_true rfl)
  rw [lg_entry_eq]
  generalize (lg_sl ([.ref (h 0), .int x, .int c9, .ref ao]) ++ List.replicate (5 - (lg_sl ([.ref (h 0), .int x, .int c9, .ref ao])).length) Slot.unset).toArray = ls at hl ⊢
  have hl : lv_has ls 5 [(0, .ref (h 0)), (1, .int x), (2, .int c9), (3, .ref ao)] := hl
  refine w_abs (fun Q hQ => ?_)
  refine lv_aload_n hx hb dL_store_0 rfl (lv_at hl 3 rfl) ?_
  refine lv_iconst (v := 0) hx hb dL_store_1 (by decide) ?_
  refine lv_aload_n hx hb dL_store_2 rfl (lv_at hl 0 rfl) ?_
  refine lv_iload_n hx hb dL_store_3 rfl (lv_at hl 1 rfl) ?_
  refine lv_iload_n hx hb dL_store_4 rfl (lv_at hl 2 rfl) ?_
  refine g_calliX (wl := []) (wc := w0 h cA M) (wr := wO ao cL g) (wf := fun u : MM => w0 h cA u) (vx_runV (As := [.int x, .int c9]) (rest := [.int 0, .ref ao]) ⟨hx, hb, hml, hown, hts⟩ (c0_store l hlt D h cA M hM x c9 s.heap.size) (cwV 2 hts gL_store_X0_store rfl rfl rfl (by decide +kernel) ⟨Nat.le_of_ble_eq_true rfl, Nat.le_of_ble_eq_true rfl⟩) ⟨pE_fb pW_fb, va_recv hK hP (ci := 0) (q0 := 0) rfl rfl, pE_mk rfl (pW_mk (p_left hP) (hK.sub [0] rfl) (d_left hD)) hE⟩ rfl rfl hl.1 rfl (lv_room (Nat.le_of_ble_eq_true rfl)) dL_store_5 ⟨Nat.le_of_ble_eq_true rfl, Nat.le_of_ble_eq_true rfl⟩) rfl hP hD hS hA (fun E ce q9 H1 locs1 hpx g1 g2 hP1 hS1 hce hcv hcl => ?_) (fun r u H locs qr hP hD hS => ?_)
  · rcases hpx with ⟨rfl, hk⟩ | ⟨rfl, hk⟩ | ⟨rfl, hk⟩
    · refine vx_catch (own := RL) (name := E_io) (E := E_io) hown [] ⟨0, 10, 13, 21⟩ [⟨0, 10, 17, 13⟩, ⟨0, 10, 21, 15⟩] (hTab.trans rfl) (fun z hz => absurd hz List.not_mem_nil) (by decide) (by decide) kc21 (va_Nw.use rfl hE.1.1) hce hcv hcl ?_
      refine lv_astore (lv' := [(4, .ref q9), (0, .ref (h 0)), (1, .int x), (2, .int c9), (3, .ref ao)]) hx hb dL_store_13 hl (by decide) rfl (fun ls hl => ?_)
      refine lv_iconst (v := 1) hx hb dL_store_15 (by decide) ?_
      subst hQ
      exact W.iret (v := 1) hx hb hr (fun t ht hW => ⟨⟨1, (M, g), rfl, l_no hk (by decide) rfl (by decide), by rw [ht]; exact hP1, hD⟩, hS1.F ht⟩) hS1.2.2 dL_store_16
    · refine vx_catch (own := RL) (name := E_ia) (E := E_ia) hown [⟨0, 10, 13, 21⟩] ⟨0, 10, 17, 13⟩ [⟨0, 10, 21, 15⟩] (hTab.trans rfl) (fun z hz => by obtain rfl := List.mem_singleton.mp hz; exact Or.inr ⟨by decide, _, kc21, hN.1⟩) (by decide) (by decide) kc13 (va_Nw.use rfl hE.1.2.1) hce hcv hcl ?_
      refine lv_astore (lv' := [(4, .ref q9), (0, .ref (h 0)), (1, .int x), (2, .int c9), (3, .ref ao)]) hx hb dL_store_17 hl (by decide) rfl (fun ls hl => ?_)
      refine lv_iconst (v := 2) hx hb dL_store_19 (by decide) ?_
      subst hQ
      exact W.iret (v := 2) hx hb hr (fun t ht hW => ⟨⟨2, (M, g), rfl, l_no hk (by decide) rfl (by decide), by rw [ht]; exact hP1, hD⟩, hS1.F ht⟩) hS1.2.2 dL_store_20
    · refine vx_catch (own := RL) (name := E_is) (E := E_is) hown [⟨0, 10, 13, 21⟩, ⟨0, 10, 17, 13⟩] ⟨0, 10, 21, 15⟩ [] (hTab.trans rfl) (fun z hz => (List.mem_cons.mp hz).elim (fun h9 => by subst h9; exact Or.inr ⟨by decide, _, kc21, hN.2.1⟩) (fun h9 => by obtain rfl := List.mem_singleton.mp h9; exact Or.inr ⟨by decide, _, kc13, hN.2.2⟩)) (by decide) (by decide) kc15 (va_Nw.use rfl hE.1.2.2.1) hce hcv hcl ?_
      refine lv_astore (lv' := [(4, .ref q9), (0, .ref (h 0)), (1, .int x), (2, .int c9), (3, .ref ao)]) hx hb dL_store_21 hl (by decide) rfl (fun ls hl => ?_)
      refine lv_iconst (v := 3) hx hb dL_store_23 (by decide) ?_
      subst hQ
      exact W.iret (v := 3) hx hb hr (fun t ht hW => ⟨⟨3, (M, g), rfl, l_no hk (by decide) rfl (by decide), by rw [ht]; exact hP1, hD⟩, hS1.F ht⟩) hS1.2.2 dL_store_24
  · have hP : va_P D vwCl (w0 h cA u ++ wO ao cL g) H := hP
    have hD : va_D A (w0 h cA u ++ wO ao cL g) := hD
    refine lv_i2l (v := r.toInt64) hx hb dL_store_8 rfl ?_
    refine va_last (f := g) (x := r.toInt64) hx hb hK hP hD hS 12 1 rfl rfl (vp_in_nI (n := 0) (N := 1) (by decide) (by decide)) dL_store_9 (fun H locs hP hD hS => ?_)
    have hP : va_P D vwCl (w0 h cA u ++ wO ao cL (vp_updL g 0 r.toInt64)) H := hP
    have hD : va_D A (w0 h cA u ++ wO ao cL (vp_updL g 0 r.toInt64)) := hD
    refine lv_goto (tgt := 25) hx hb dL_store_10 (by decide) ?_
    refine lv_iconst (v := 0) hx hb dL_store_25 (by decide) ?_
    subst hQ
    exact W.iret (v := 0) hx hb hr (fun t ht hW => ⟨⟨0, (u, vp_updL g 0 r.toInt64), rfl, l_ok qr, by rw [ht]; exact hP, hD⟩, hS.F ht⟩) hS.2.2 dL_store_26
set_option maxHeartbeats 4000000 in
set_option maxRecDepth 100000 in
theorem eL_place (l : Launch) (hlt : l.stackTraces = false) (D : va_G) (h : Nat → Nat) (cA cL : ClassId) (M : MM) (hM : OKM M) (ao : Nat) (g : Nat → Int64) (x c9 : Int32) (sz : Nat) : Met l yL_place wsL_place ({ frames := 8, cells := 1, slots := 6, locals := 134 } : Room) (va_Pc [.ref (h 0), .int x, .int c9, .ref ao] (l_pre D cA cL (w0 h cA M ++ wO ao cL g) sz)) (va_Qi (fun (r : Int32) (u : MM × (Nat → Int64)) => l_post (o_place M x c9) M r u) (fun u => qW D (va_A (w0 h cA M ++ wO ao cL g) sz) (w0 h cA u.1 ++ wO ao cL u.2)) (va_A (w0 h cA M ++ wO ao cL g) sz)) 1 6 (va_A (w0 h cA M ++ wO ao cL g) sz) := by
  refine va_MetW (cc := cL_place) (maxL := 5) (ret := (some .int)) (hh := [(0, 10, 13, 21), (0, 10, 17, 13), (0, 10, 21, 15)]) (by decide) rfl ?_
  intro p e s m args below meth c s₁ B hml hv
  obtain ⟨rfl, ⟨⟨hsz, hP, hK, hD0⟩, hE⟩, hN⟩ := hv
  have hx := B.exec
  have hb := B.bytes
  have hr := B.returns
  have hts := atoms_spec (ws := wsL_place) B.pre
  have hown : s.vm.findClass RL = some m.cls := findClass_of_methodNamed B.named
  have hTab := vx_table (x := yL_place) B (hts (.codeWith yL_place cL_place 5 (some .int) [(0, 10, 13, 21), (0, 10, 17, 13), (0, 10, 21, 15)]) List.mem_cons_self)
  have kc21 := hts (.classLink RL 21 "java/lang/IndexOutOfBoundsException") (by decide +kernel)
  have kc13 := hts (.classLink RL 13 "java/lang/IllegalArgumentException") (by decide +kernel)
  have kc15 := hts (.classLink RL 15 "java/lang/IllegalStateException") (by decide +kernel)
  subst hsz
  have hD := hD0.self (sz := s.heap.size)
  generalize hAe : va_A (w0 h cA M ++ wO ao cL g) s.heap.size = A at hD ⊢
  have hA : ∀ q : Nat, s.heap.size ≤ q → A q := fun q h => by rw [← hAe]; exact Or.inr h
  have hS : va_S A s.heap s.heap [] := va_S.rf
  have hP : va_P D vwCl (w0 h cA M ++ wO ao cL g) s.heap := hP
  have hl := lv_entry ([.ref (h 0), .int x, .int c9, .ref ao]) (n := 5) (Nat.le_of_ble_eq_true rfl)
  rw [lg_entry_eq]
  generalize (lg_sl ([.ref (h 0), .int x, .int c9, .ref ao]) ++ List.replicate (5 - (lg_sl ([.ref (h 0), .int x, .int c9, .ref ao])).length) Slot.unset).toArray = ls at hl ⊢
  have hl : lv_has ls 5 [(0, .ref (h 0)), (1, .int x), (2, .int c9), (3, .ref ao)] := hl
  refine w_abs (fun Q hQ => ?_)
  refine lv_aload_n hx hb dL_place_0 rfl (lv_at hl 3 rfl) ?_
  refine lv_iconst (v := 0) hx hb dL_place_1 (by decide) ?_
  refine lv_aload_n hx hb dL_place_2 rfl (lv_at hl 0 rfl) ?_
  refine lv_iload_n hx hb dL_place_3 rfl (lv_at hl 1 rfl) ?_
  refine lv_iload_n hx hb dL_place_4 rfl (lv_at hl 2 rfl) ?_
  refine g_calliX (wl := []) (wc := w0 h cA M) (wr := wO ao cL g) (wf := fun u : MM => w0 h cA u) (vx_runV (As := [.int x, .int c9]) (rest := [.int 0, .ref ao]) ⟨hx, hb, hml, hown, hts⟩ (c0_place l hlt D h cA M hM x c9 s.heap.size) (cwV 2 hts gL_place_X0_place rfl rfl rfl (by decide +kernel) ⟨Nat.le_of_ble_eq_true rfl, Nat.le_of_ble_eq_true rfl⟩) ⟨pE_fb pW_fb, va_recv hK hP (ci := 0) (q0 := 0) rfl rfl, pE_mk rfl (pW_mk (p_left hP) (hK.sub [0] rfl) (d_left hD)) hE⟩ rfl rfl hl.1 rfl (lv_room (Nat.le_of_ble_eq_true rfl)) dL_place_5 ⟨Nat.le_of_ble_eq_true rfl, Nat.le_of_ble_eq_true rfl⟩) rfl hP hD hS hA (fun E ce q9 H1 locs1 hpx g1 g2 hP1 hS1 hce hcv hcl => ?_) (fun r u H locs qr hP hD hS => ?_)
  · rcases hpx with ⟨rfl, hk⟩ | ⟨rfl, hk⟩ | ⟨rfl, hk⟩
    · refine vx_catch (own := RL) (name := E_io) (E := E_io) hown [] ⟨0, 10, 13, 21⟩ [⟨0, 10, 17, 13⟩, ⟨0, 10, 21, 15⟩] (hTab.trans rfl) (fun z hz => absurd hz List.not_mem_nil) (by decide) (by decide) kc21 (va_Nw.use rfl hE.1.1) hce hcv hcl ?_
      refine lv_astore (lv' := [(4, .ref q9), (0, .ref (h 0)), (1, .int x), (2, .int c9), (3, .ref ao)]) hx hb dL_place_13 hl (by decide) rfl (fun ls hl => ?_)
      refine lv_iconst (v := 1) hx hb dL_place_15 (by decide) ?_
      subst hQ
      exact W.iret (v := 1) hx hb hr (fun t ht hW => ⟨⟨1, (M, g), rfl, l_no hk (by decide) rfl (by decide), by rw [ht]; exact hP1, hD⟩, hS1.F ht⟩) hS1.2.2 dL_place_16
    · refine vx_catch (own := RL) (name := E_ia) (E := E_ia) hown [⟨0, 10, 13, 21⟩] ⟨0, 10, 17, 13⟩ [⟨0, 10, 21, 15⟩] (hTab.trans rfl) (fun z hz => by obtain rfl := List.mem_singleton.mp hz; exact Or.inr ⟨by decide, _, kc21, hN.1⟩) (by decide) (by decide) kc13 (va_Nw.use rfl hE.1.2.1) hce hcv hcl ?_
      refine lv_astore (lv' := [(4, .ref q9), (0, .ref (h 0)), (1, .int x), (2, .int c9), (3, .ref ao)]) hx hb dL_place_17 hl (by decide) rfl (fun ls hl => ?_)
      refine lv_iconst (v := 2) hx hb dL_place_19 (by decide) ?_
      subst hQ
      exact W.iret (v := 2) hx hb hr (fun t ht hW => ⟨⟨2, (M, g), rfl, l_no hk (by decide) rfl (by decide), by rw [ht]; exact hP1, hD⟩, hS1.F ht⟩) hS1.2.2 dL_place_20
    · refine vx_catch (own := RL) (name := E_is) (E := E_is) hown [⟨0, 10, 13, 21⟩, ⟨0, 10, 17, 13⟩] ⟨0, 10, 21, 15⟩ [] (hTab.trans rfl) (fun z hz => (List.mem_cons.mp hz).elim (fun h9 => by subst h9; exact Or.inr ⟨by decide, _, kc21, hN.2.1⟩) (fun h9 => by obtain rfl := List.mem_singleton.mp h9; exact Or.inr ⟨by decide, _, kc13, hN.2.2⟩)) (by decide) (by decide) kc15 (va_Nw.use rfl hE.1.2.2.1) hce hcv hcl ?_
      refine lv_astore (lv' := [(4, .ref q9), (0, .ref (h 0)), (1, .int x), (2, .int c9), (3, .ref ao)]) hx hb dL_place_21 hl (by decide) rfl (fun ls hl => ?_)
      refine lv_iconst (v := 3) hx hb dL_place_23 (by decide) ?_
      subst hQ
      exact W.iret (v := 3) hx hb hr (fun t ht hW => ⟨⟨3, (M, g), rfl, l_no hk (by decide) rfl (by decide), by rw [ht]; exact hP1, hD⟩, hS1.F ht⟩) hS1.2.2 dL_place_24
  · have hP : va_P D vwCl (w0 h cA u ++ wO ao cL g) H := hP
    have hD : va_D A (w0 h cA u ++ wO ao cL g) := hD
    refine lv_i2l (v := r.toInt64) hx hb dL_place_8 rfl ?_
    refine va_last (f := g) (x := r.toInt64) hx hb hK hP hD hS 12 1 rfl rfl (vp_in_nI (n := 0) (N := 1) (by decide) (by decide)) dL_place_9 (fun H locs hP hD hS => ?_)
    have hP : va_P D vwCl (w0 h cA u ++ wO ao cL (vp_updL g 0 r.toInt64)) H := hP
    have hD : va_D A (w0 h cA u ++ wO ao cL (vp_updL g 0 r.toInt64)) := hD
    refine lv_goto (tgt := 25) hx hb dL_place_10 (by decide) ?_
    refine lv_iconst (v := 0) hx hb dL_place_25 (by decide) ?_
    subst hQ
    exact W.iret (v := 0) hx hb hr (fun t ht hW => ⟨⟨0, (u, vp_updL g 0 r.toInt64), rfl, l_ok qr, by rw [ht]; exact hP, hD⟩, hS.F ht⟩) hS.2.2 dL_place_26
set_option maxHeartbeats 4000000 in
set_option maxRecDepth 100000 in
theorem eL_setStep (l : Launch) (hlt : l.stackTraces = false) (D : va_G) (h : Nat → Nat) (cA cL : ClassId) (M : MM) (hM : OKM M) (ao : Nat) (g : Nat → Int64) (t9 r9 : Int32) (sz : Nat) : Met l yL_setStep wsL_setStep ({ frames := 8, cells := 1, slots := 6, locals := 136 } : Room) (va_Pc [.ref (h 0), .int t9, .int r9, .ref ao] (l_pre D cA cL (w0 h cA M ++ wO ao cL g) sz)) (va_Qi (fun (r : Int32) (u : MM × (Nat → Int64)) => l_post (x_setStep M t9 r9) M r u) (fun u => qW D (va_A (w0 h cA M ++ wO ao cL g) sz) (w0 h cA u.1 ++ wO ao cL u.2)) (va_A (w0 h cA M ++ wO ao cL g) sz)) 1 6 (va_A (w0 h cA M ++ wO ao cL g) sz) := by
  refine va_MetW (cc := cL_setStep) (maxL := 5) (ret := (some .int)) (hh := [(0, 10, 13, 13), (0, 10, 17, 15)]) (by decide) rfl ?_
  intro p e s m args below meth c s₁ B hml hv
  obtain ⟨rfl, ⟨⟨hsz, hP, hK, hD0⟩, hE⟩, hN⟩ := hv
  have hx := B.exec
  have hb := B.bytes
  have hr := B.returns
  have hts := atoms_spec (ws := wsL_setStep) B.pre
  have hown : s.vm.findClass RL = some m.cls := findClass_of_methodNamed B.named
  have hTab := vx_table (x := yL_setStep) B (hts (.codeWith yL_setStep cL_setStep 5 (some .int) [(0, 10, 13, 13), (0, 10, 17, 15)]) List.mem_cons_self)
  have kc13 := hts (.classLink RL 13 "java/lang/IllegalArgumentException") (by decide +kernel)
  have kc15 := hts (.classLink RL 15 "java/lang/IllegalStateException") (by decide +kernel)
  subst hsz
  have hD := hD0.self (sz := s.heap.size)
  generalize hAe : va_A (w0 h cA M ++ wO ao cL g) s.heap.size = A at hD ⊢
  have hA : ∀ q : Nat, s.heap.size ≤ q → A q := fun q h => by rw [← hAe]; exact Or.inr h
  have hS : va_S A s.heap s.heap [] := va_S.rf
  have hP : va_P D vwCl (w0 h cA M ++ wO ao cL g) s.heap := hP
  have hl := lv_entry ([.ref (h 0), .int t9, .int r9, .ref ao]) (n := 5) (Nat.le_of_ble_eq_true rfl)
  rw [lg_entry_eq]
  generalize (lg_sl ([.ref (h 0), .int t9, .int r9, .ref ao]) ++ List.replicate (5 - (lg_sl ([.ref (h 0), .int t9, .int r9, .ref ao])).length) Slot.unset).toArray = ls at hl ⊢
  have hl : lv_has ls 5 [(0, .ref (h 0)), (1, .int t9), (2, .int r9), (3, .ref ao)] := hl
  refine w_abs (fun Q hQ => ?_)
  refine lv_aload_n hx hb dL_setStep_0 rfl (lv_at hl 3 rfl) ?_
  refine lv_iconst (v := 0) hx hb dL_setStep_1 (by decide) ?_
  refine lv_aload_n hx hb dL_setStep_2 rfl (lv_at hl 0 rfl) ?_
  refine lv_iload_n hx hb dL_setStep_3 rfl (lv_at hl 1 rfl) ?_
  refine lv_iload_n hx hb dL_setStep_4 rfl (lv_at hl 2 rfl) ?_
  refine g_calliX (wl := []) (wc := w0 h cA M) (wr := wO ao cL g) (wf := fun u : MM => w0 h cA u) (vx_runV (As := [.int t9, .int r9]) (rest := [.int 0, .ref ao]) ⟨hx, hb, hml, hown, hts⟩ (c0_setStep l hlt D h cA M hM t9 r9 s.heap.size) (cwV 2 hts gL_setStep_X0_setStep rfl rfl rfl (by decide +kernel) ⟨Nat.le_of_ble_eq_true rfl, Nat.le_of_ble_eq_true rfl⟩) ⟨pE_fb pW_fb, va_recv hK hP (ci := 0) (q0 := 0) rfl rfl, pE_mk rfl (pW_mk (p_left hP) (hK.sub [0] rfl) (d_left hD)) hE⟩ rfl rfl hl.1 rfl (lv_room (Nat.le_of_ble_eq_true rfl)) dL_setStep_5 ⟨Nat.le_of_ble_eq_true rfl, Nat.le_of_ble_eq_true rfl⟩) rfl hP hD hS hA (fun E ce q9 H1 locs1 hpx g1 g2 hP1 hS1 hce hcv hcl => ?_) (fun r u H locs qr hP hD hS => ?_)
  · rcases hpx with ⟨rfl, hk⟩ | ⟨rfl, hk⟩
    · refine vx_catch (own := RL) (name := E_ia) (E := E_ia) hown [] ⟨0, 10, 13, 13⟩ [⟨0, 10, 17, 15⟩] (hTab.trans rfl) (fun z hz => absurd hz List.not_mem_nil) (by decide) (by decide) kc13 (va_Nw.use rfl hE.1.2.1) hce hcv hcl ?_
      refine lv_astore (lv' := [(4, .ref q9), (0, .ref (h 0)), (1, .int t9), (2, .int r9), (3, .ref ao)]) hx hb dL_setStep_13 hl (by decide) rfl (fun ls hl => ?_)
      refine lv_iconst (v := 1) hx hb dL_setStep_15 (by decide) ?_
      subst hQ
      exact W.iret (v := 1) hx hb hr (fun t ht hW => ⟨⟨1, (M, g), rfl, l_no hk (by decide) rfl (by decide), by rw [ht]; exact hP1, hD⟩, hS1.F ht⟩) hS1.2.2 dL_setStep_16
    · refine vx_catch (own := RL) (name := E_is) (E := E_is) hown [⟨0, 10, 13, 13⟩] ⟨0, 10, 17, 15⟩ [] (hTab.trans rfl) (fun z hz => by obtain rfl := List.mem_singleton.mp hz; exact Or.inr ⟨by decide, _, kc13, hN.2.2⟩) (by decide) (by decide) kc15 (va_Nw.use rfl hE.1.2.2.1) hce hcv hcl ?_
      refine lv_astore (lv' := [(4, .ref q9), (0, .ref (h 0)), (1, .int t9), (2, .int r9), (3, .ref ao)]) hx hb dL_setStep_17 hl (by decide) rfl (fun ls hl => ?_)
      refine lv_iconst (v := 2) hx hb dL_setStep_19 (by decide) ?_
      subst hQ
      exact W.iret (v := 2) hx hb hr (fun t ht hW => ⟨⟨2, (M, g), rfl, l_no hk (by decide) rfl (by decide), by rw [ht]; exact hP1, hD⟩, hS1.F ht⟩) hS1.2.2 dL_setStep_20
  · have hP : va_P D vwCl (w0 h cA u ++ wO ao cL g) H := hP
    have hD : va_D A (w0 h cA u ++ wO ao cL g) := hD
    refine lv_i2l (v := r.toInt64) hx hb dL_setStep_8 rfl ?_
    refine va_last (f := g) (x := r.toInt64) hx hb hK hP hD hS 12 1 rfl rfl (vp_in_nI (n := 0) (N := 1) (by decide) (by decide)) dL_setStep_9 (fun H locs hP hD hS => ?_)
    have hP : va_P D vwCl (w0 h cA u ++ wO ao cL (vp_updL g 0 r.toInt64)) H := hP
    have hD : va_D A (w0 h cA u ++ wO ao cL (vp_updL g 0 r.toInt64)) := hD
    refine lv_goto (tgt := 21) hx hb dL_setStep_10 (by decide) ?_
    refine lv_iconst (v := 0) hx hb dL_setStep_21 (by decide) ?_
    subst hQ
    exact W.iret (v := 0) hx hb hr (fun t ht hW => ⟨⟨0, (u, vp_updL g 0 r.toInt64), rfl, l_ok qr, by rw [ht]; exact hP, hD⟩, hS.F ht⟩) hS.2.2 dL_setStep_22
set_option maxHeartbeats 4000000 in
set_option maxRecDepth 100000 in
theorem eL_dropStep (l : Launch) (hlt : l.stackTraces = false) (D : va_G) (h : Nat → Nat) (cA cL : ClassId) (M : MM) (hM : OKM M) (ao : Nat) (g : Nat → Int64) (t9 : Int32) (sz : Nat) : Met l yL_dropStep wsL_dropStep ({ frames := 8, cells := 1, slots := 6, locals := 136 } : Room) (va_Pc [.ref (h 0), .int t9, .ref ao] (l_pre D cA cL (w0 h cA M ++ wO ao cL g) sz)) (va_Qi (fun (r : Int32) (u : MM × (Nat → Int64)) => l_post (x_dropStep M t9) M r u) (fun u => qW D (va_A (w0 h cA M ++ wO ao cL g) sz) (w0 h cA u.1 ++ wO ao cL u.2)) (va_A (w0 h cA M ++ wO ao cL g) sz)) 1 6 (va_A (w0 h cA M ++ wO ao cL g) sz) := by
  refine va_MetW (cc := cL_dropStep) (maxL := 4) (ret := (some .int)) (hh := [(0, 9, 12, 13), (0, 9, 15, 15)]) (by decide) rfl ?_
  intro p e s m args below meth c s₁ B hml hv
  obtain ⟨rfl, ⟨⟨hsz, hP, hK, hD0⟩, hE⟩, hN⟩ := hv
  have hx := B.exec
  have hb := B.bytes
  have hr := B.returns
  have hts := atoms_spec (ws := wsL_dropStep) B.pre
  have hown : s.vm.findClass RL = some m.cls := findClass_of_methodNamed B.named
  have hTab := vx_table (x := yL_dropStep) B (hts (.codeWith yL_dropStep cL_dropStep 4 (some .int) [(0, 9, 12, 13), (0, 9, 15, 15)]) List.mem_cons_self)
  have kc13 := hts (.classLink RL 13 "java/lang/IllegalArgumentException") (by decide +kernel)
  have kc15 := hts (.classLink RL 15 "java/lang/IllegalStateException") (by decide +kernel)
  subst hsz
  have hD := hD0.self (sz := s.heap.size)
  generalize hAe : va_A (w0 h cA M ++ wO ao cL g) s.heap.size = A at hD ⊢
  have hA : ∀ q : Nat, s.heap.size ≤ q → A q := fun q h => by rw [← hAe]; exact Or.inr h
  have hS : va_S A s.heap s.heap [] := va_S.rf
  have hP : va_P D vwCl (w0 h cA M ++ wO ao cL g) s.heap := hP
  have hl := lv_entry ([.ref (h 0), .int t9, .ref ao]) (n := 4) (Nat.le_of_ble_eq_true rfl)
  rw [lg_entry_eq]
  generalize (lg_sl ([.ref (h 0), .int t9, .ref ao]) ++ List.replicate (4 - (lg_sl ([.ref (h 0), .int t9, .ref ao])).length) Slot.unset).toArray = ls at hl ⊢
  have hl : lv_has ls 4 [(0, .ref (h 0)), (1, .int t9), (2, .ref ao)] := hl
  refine w_abs (fun Q hQ => ?_)
  refine lv_aload_n hx hb dL_dropStep_0 rfl (lv_at hl 2 rfl) ?_
  refine lv_iconst (v := 0) hx hb dL_dropStep_1 (by decide) ?_
  refine lv_aload_n hx hb dL_dropStep_2 rfl (lv_at hl 0 rfl) ?_
  refine lv_iload_n hx hb dL_dropStep_3 rfl (lv_at hl 1 rfl) ?_
  refine g_calliX (wl := []) (wc := w0 h cA M) (wr := wO ao cL g) (wf := fun u : MM => w0 h cA u) (vx_runV (As := [.int t9]) (rest := [.int 0, .ref ao]) ⟨hx, hb, hml, hown, hts⟩ (c0_dropStep l hlt D h cA M hM t9 s.heap.size) (cwV 1 hts gL_dropStep_X0_dropStep rfl rfl rfl (by decide +kernel) ⟨Nat.le_of_ble_eq_true rfl, Nat.le_of_ble_eq_true rfl⟩) ⟨pE_fb pW_fb, va_recv hK hP (ci := 0) (q0 := 0) rfl rfl, pE_mk rfl (pW_mk (p_left hP) (hK.sub [0] rfl) (d_left hD)) hE⟩ rfl rfl hl.1 rfl (lv_room (Nat.le_of_ble_eq_true rfl)) dL_dropStep_4 ⟨Nat.le_of_ble_eq_true rfl, Nat.le_of_ble_eq_true rfl⟩) rfl hP hD hS hA (fun E ce q9 H1 locs1 hpx g1 g2 hP1 hS1 hce hcv hcl => ?_) (fun r u H locs qr hP hD hS => ?_)
  · rcases hpx with ⟨rfl, hk⟩ | ⟨rfl, hk⟩
    · refine vx_catch (own := RL) (name := E_ia) (E := E_ia) hown [] ⟨0, 9, 12, 13⟩ [⟨0, 9, 15, 15⟩] (hTab.trans rfl) (fun z hz => absurd hz List.not_mem_nil) (by decide) (by decide) kc13 (va_Nw.use rfl hE.1.2.1) hce hcv hcl ?_
      refine lv_astore_n (lv' := [(3, .ref q9), (0, .ref (h 0)), (1, .int t9), (2, .ref ao)]) hx hb dL_dropStep_12 rfl hl (by decide) rfl (fun ls hl => ?_)
      refine lv_iconst (v := 1) hx hb dL_dropStep_13 (by decide) ?_
      subst hQ
      exact W.iret (v := 1) hx hb hr (fun t ht hW => ⟨⟨1, (M, g), rfl, l_no hk (by decide) rfl (by decide), by rw [ht]; exact hP1, hD⟩, hS1.F ht⟩) hS1.2.2 dL_dropStep_14
    · refine vx_catch (own := RL) (name := E_is) (E := E_is) hown [⟨0, 9, 12, 13⟩] ⟨0, 9, 15, 15⟩ [] (hTab.trans rfl) (fun z hz => by obtain rfl := List.mem_singleton.mp hz; exact Or.inr ⟨by decide, _, kc13, hN.2.2⟩) (by decide) (by decide) kc15 (va_Nw.use rfl hE.1.2.2.1) hce hcv hcl ?_
      refine lv_astore_n (lv' := [(3, .ref q9), (0, .ref (h 0)), (1, .int t9), (2, .ref ao)]) hx hb dL_dropStep_15 rfl hl (by decide) rfl (fun ls hl => ?_)
      refine lv_iconst (v := 2) hx hb dL_dropStep_16 (by decide) ?_
      subst hQ
      exact W.iret (v := 2) hx hb hr (fun t ht hW => ⟨⟨2, (M, g), rfl, l_no hk (by decide) rfl (by decide), by rw [ht]; exact hP1, hD⟩, hS1.F ht⟩) hS1.2.2 dL_dropStep_17
  · have hP : va_P D vwCl (w0 h cA u ++ wO ao cL g) H := hP
    have hD : va_D A (w0 h cA u ++ wO ao cL g) := hD
    refine lv_i2l (v := r.toInt64) hx hb dL_dropStep_7 rfl ?_
    refine va_last (f := g) (x := r.toInt64) hx hb hK hP hD hS 12 1 rfl rfl (vp_in_nI (n := 0) (N := 1) (by decide) (by decide)) dL_dropStep_8 (fun H locs hP hD hS => ?_)
    have hP : va_P D vwCl (w0 h cA u ++ wO ao cL (vp_updL g 0 r.toInt64)) H := hP
    have hD : va_D A (w0 h cA u ++ wO ao cL (vp_updL g 0 r.toInt64)) := hD
    refine lv_goto (tgt := 18) hx hb dL_dropStep_9 (by decide) ?_
    refine lv_iconst (v := 0) hx hb dL_dropStep_18 (by decide) ?_
    subst hQ
    exact W.iret (v := 0) hx hb hr (fun t ht hW => ⟨⟨0, (u, vp_updL g 0 r.toInt64), rfl, l_ok qr, by rw [ht]; exact hP, hD⟩, hS.F ht⟩) hS.2.2 dL_dropStep_19
set_option maxHeartbeats 4000000 in
set_option maxRecDepth 100000 in
theorem eL_close (l : Launch) (hlt : l.stackTraces = false) (D : va_G) (h : Nat → Nat) (cA cL : ClassId) (M : MM) (hM : OKM M) (ao : Nat) (g : Nat → Int64) (sz : Nat) : Met l yL_close wsL_close ({ frames := 7, cells := 1, slots := 6, locals := 134 } : Room) (va_Pc [.ref (h 0), .ref ao] (l_pre D cA cL (w0 h cA M ++ wO ao cL g) sz)) (va_Qi (fun (r : Int32) (u : MM × (Nat → Int64)) => l_post (x_close M) M r u) (fun u => qW D (va_A (w0 h cA M ++ wO ao cL g) sz) (w0 h cA u.1 ++ wO ao cL u.2)) (va_A (w0 h cA M ++ wO ao cL g) sz)) 1 6 (va_A (w0 h cA M ++ wO ao cL g) sz) := by
  refine va_MetW (cc := cL_close) (maxL := 3) (ret := (some .int)) (hh := [(0, 8, 11, 15)]) (by decide) rfl ?_
  intro p e s m args below meth c s₁ B hml hv
  obtain ⟨rfl, ⟨⟨hsz, hP, hK, hD0⟩, hE⟩, hN⟩ := hv
  have hx := B.exec
  have hb := B.bytes
  have hr := B.returns
  have hts := atoms_spec (ws := wsL_close) B.pre
  have hown : s.vm.findClass RL = some m.cls := findClass_of_methodNamed B.named
  have hTab := vx_table (x := yL_close) B (hts (.codeWith yL_close cL_close 3 (some .int) [(0, 8, 11, 15)]) List.mem_cons_self)
  have kc15 := hts (.classLink RL 15 "java/lang/IllegalStateException") (by decide +kernel)
  subst hsz
  have hD := hD0.self (sz := s.heap.size)
  generalize hAe : va_A (w0 h cA M ++ wO ao cL g) s.heap.size = A at hD ⊢
  have hA : ∀ q : Nat, s.heap.size ≤ q → A q := fun q h => by rw [← hAe]; exact Or.inr h
  have hS : va_S A s.heap s.heap [] := va_S.rf
  have hP : va_P D vwCl (w0 h cA M ++ wO ao cL g) s.heap := hP
  have hl := lv_entry ([.ref (h 0), .ref ao]) (n := 3) (Nat.le_of_ble_eq_true rfl)
  rw [lg_entry_eq]
  generalize (lg_sl ([.ref (h 0), .ref ao]) ++ List.replicate (3 - (lg_sl ([.ref (h 0), .ref ao])).length) Slot.unset).toArray = ls at hl ⊢
  have hl : lv_has ls 3 [(0, .ref (h 0)), (1, .ref ao)] := hl
  refine w_abs (fun Q hQ => ?_)
  refine lv_aload_n hx hb dL_close_0 rfl (lv_at hl 1 rfl) ?_
  refine lv_iconst (v := 0) hx hb dL_close_1 (by decide) ?_
  refine lv_aload_n hx hb dL_close_2 rfl (lv_at hl 0 rfl) ?_
  refine g_calliX (wl := []) (wc := w0 h cA M) (wr := wO ao cL g) (wf := fun u : MM => w0 h cA u) (vx_runV (As := []) (rest := [.int 0, .ref ao]) ⟨hx, hb, hml, hown, hts⟩ (c0_close l hlt D h cA M hM s.heap.size) (cwV 0 hts gL_close_X0_close rfl rfl rfl (by decide +kernel) ⟨Nat.le_of_ble_eq_true rfl, Nat.le_of_ble_eq_true rfl⟩) ⟨pE_fb pW_fb, va_recv hK hP (ci := 0) (q0 := 0) rfl rfl, pE_mk rfl (pW_mk (p_left hP) (hK.sub [0] rfl) (d_left hD)) hE⟩ rfl rfl hl.1 rfl (lv_room (Nat.le_of_ble_eq_true rfl)) dL_close_3 ⟨Nat.le_of_ble_eq_true rfl, Nat.le_of_ble_eq_true rfl⟩) rfl hP hD hS hA (fun E ce q9 H1 locs1 hpx g1 g2 hP1 hS1 hce hcv hcl => ?_) (fun r u H locs qr hP hD hS => ?_)
  · obtain ⟨rfl, hk⟩ := hpx
    refine vx_catch (own := RL) (name := E_is) (E := E_is) hown [] ⟨0, 8, 11, 15⟩ [] (hTab.trans rfl) (fun z hz => absurd hz List.not_mem_nil) (by decide) (by decide) kc15 (va_Nw.use rfl hE.1.2.2.1) hce hcv hcl ?_
    refine lv_astore_n (lv' := [(2, .ref q9), (0, .ref (h 0)), (1, .ref ao)]) hx hb dL_close_11 rfl hl (by decide) rfl (fun ls hl => ?_)
    refine lv_iconst (v := 1) hx hb dL_close_12 (by decide) ?_
    subst hQ
    exact W.iret (v := 1) hx hb hr (fun t ht hW => ⟨⟨1, (M, g), rfl, l_no hk (by decide) rfl (by decide), by rw [ht]; exact hP1, hD⟩, hS1.F ht⟩) hS1.2.2 dL_close_13
  · have hP : va_P D vwCl (w0 h cA u ++ wO ao cL g) H := hP
    have hD : va_D A (w0 h cA u ++ wO ao cL g) := hD
    refine lv_i2l (v := r.toInt64) hx hb dL_close_6 rfl ?_
    refine va_last (f := g) (x := r.toInt64) hx hb hK hP hD hS 12 1 rfl rfl (vp_in_nI (n := 0) (N := 1) (by decide) (by decide)) dL_close_7 (fun H locs hP hD hS => ?_)
    have hP : va_P D vwCl (w0 h cA u ++ wO ao cL (vp_updL g 0 r.toInt64)) H := hP
    have hD : va_D A (w0 h cA u ++ wO ao cL (vp_updL g 0 r.toInt64)) := hD
    refine lv_goto (tgt := 14) hx hb dL_close_8 (by decide) ?_
    refine lv_iconst (v := 0) hx hb dL_close_14 (by decide) ?_
    subst hQ
    exact W.iret (v := 0) hx hb hr (fun t ht hW => ⟨⟨0, (u, vp_updL g 0 r.toInt64), rfl, l_ok qr, by rw [ht]; exact hP, hD⟩, hS.F ht⟩) hS.2.2 dL_close_15
set_option maxHeartbeats 4000000 in
set_option maxRecDepth 100000 in
theorem eL_pay (l : Launch) (hlt : l.stackTraces = false) (D : va_G) (h : Nat → Nat) (cA cL : ClassId) (M : MM) (hM : OKM M) (ao : Nat) (g : Nat → Int64) (x : Int32) (sz : Nat) : Met l yL_pay wsL_pay ({ frames := 8, cells := 1, slots := 6, locals := 132 } : Room) (va_Pc [.ref (h 0), .int x, .ref ao] (l_pre D cA cL (w0 h cA M ++ wO ao cL g) sz)) (va_Qi (fun (r : Int32) (u : MM × (Nat → Int64)) => l_post (x_pay M x) M r u) (fun u => qW D (va_A (w0 h cA M ++ wO ao cL g) sz) (w0 h cA u.1 ++ wO ao cL u.2)) (va_A (w0 h cA M ++ wO ao cL g) sz)) 1 6 (va_A (w0 h cA M ++ wO ao cL g) sz) := by
  refine va_MetW (cc := cL_pay) (maxL := 4) (ret := (some .int)) (hh := [(0, 9, 12, 21), (0, 9, 15, 15)]) (by decide) rfl ?_
  intro p e s m args below meth c s₁ B hml hv
  obtain ⟨rfl, ⟨⟨hsz, hP, hK, hD0⟩, hE⟩, hN⟩ := hv
  have hx := B.exec
  have hb := B.bytes
  have hr := B.returns
  have hts := atoms_spec (ws := wsL_pay) B.pre
  have hown : s.vm.findClass RL = some m.cls := findClass_of_methodNamed B.named
  have hTab := vx_table (x := yL_pay) B (hts (.codeWith yL_pay cL_pay 4 (some .int) [(0, 9, 12, 21), (0, 9, 15, 15)]) List.mem_cons_self)
  have kc21 := hts (.classLink RL 21 "java/lang/IndexOutOfBoundsException") (by decide +kernel)
  have kc15 := hts (.classLink RL 15 "java/lang/IllegalStateException") (by decide +kernel)
  subst hsz
  have hD := hD0.self (sz := s.heap.size)
  generalize hAe : va_A (w0 h cA M ++ wO ao cL g) s.heap.size = A at hD ⊢
  have hA : ∀ q : Nat, s.heap.size ≤ q → A q := fun q h => by rw [← hAe]; exact Or.inr h
  have hS : va_S A s.heap s.heap [] := va_S.rf
  have hP : va_P D vwCl (w0 h cA M ++ wO ao cL g) s.heap := hP
  have hl := lv_entry ([.ref (h 0), .int x, .ref ao]) (n := 4) (Nat.le_of_ble_eq_true rfl)
  rw [lg_entry_eq]
  generalize (lg_sl ([.ref (h 0), .int x, .ref ao]) ++ List.replicate (4 - (lg_sl ([.ref (h 0), .int x, .ref ao])).length) Slot.unset).toArray = ls at hl ⊢
  have hl : lv_has ls 4 [(0, .ref (h 0)), (1, .int x), (2, .ref ao)] := hl
  refine w_abs (fun Q hQ => ?_)
  refine lv_aload_n hx hb dL_pay_0 rfl (lv_at hl 2 rfl) ?_
  refine lv_iconst (v := 0) hx hb dL_pay_1 (by decide) ?_
  refine lv_aload_n hx hb dL_pay_2 rfl (lv_at hl 0 rfl) ?_
  refine lv_iload_n hx hb dL_pay_3 rfl (lv_at hl 1 rfl) ?_
  refine g_calliX (wl := []) (wc := w0 h cA M) (wr := wO ao cL g) (wf := fun u : MM => w0 h cA u) (vx_runV (As := [.int x]) (rest := [.int 0, .ref ao]) ⟨hx, hb, hml, hown, hts⟩ (c0_pay l hlt D h cA M hM x s.heap.size) (cwV 1 hts gL_pay_X0_pay rfl rfl rfl (by decide +kernel) ⟨Nat.le_of_ble_eq_true rfl, Nat.le_of_ble_eq_true rfl⟩) ⟨pE_fb pW_fb, va_recv hK hP (ci := 0) (q0 := 0) rfl rfl, pE_mk rfl (pW_mk (p_left hP) (hK.sub [0] rfl) (d_left hD)) hE⟩ rfl rfl hl.1 rfl (lv_room (Nat.le_of_ble_eq_true rfl)) dL_pay_4 ⟨Nat.le_of_ble_eq_true rfl, Nat.le_of_ble_eq_true rfl⟩) rfl hP hD hS hA (fun E ce q9 H1 locs1 hpx g1 g2 hP1 hS1 hce hcv hcl => ?_) (fun r u H locs qr hP hD hS => ?_)
  · rcases hpx with ⟨rfl, hk⟩ | ⟨rfl, hk⟩
    · refine vx_catch (own := RL) (name := E_io) (E := E_io) hown [] ⟨0, 9, 12, 21⟩ [⟨0, 9, 15, 15⟩] (hTab.trans rfl) (fun z hz => absurd hz List.not_mem_nil) (by decide) (by decide) kc21 (va_Nw.use rfl hE.1.1) hce hcv hcl ?_
      refine lv_astore_n (lv' := [(3, .ref q9), (0, .ref (h 0)), (1, .int x), (2, .ref ao)]) hx hb dL_pay_12 rfl hl (by decide) rfl (fun ls hl => ?_)
      refine lv_iconst (v := 1) hx hb dL_pay_13 (by decide) ?_
      subst hQ
      exact W.iret (v := 1) hx hb hr (fun t ht hW => ⟨⟨1, (M, g), rfl, l_no hk (by decide) rfl (by decide), by rw [ht]; exact hP1, hD⟩, hS1.F ht⟩) hS1.2.2 dL_pay_14
    · refine vx_catch (own := RL) (name := E_is) (E := E_is) hown [⟨0, 9, 12, 21⟩] ⟨0, 9, 15, 15⟩ [] (hTab.trans rfl) (fun z hz => by obtain rfl := List.mem_singleton.mp hz; exact Or.inr ⟨by decide, _, kc21, hN.2.1⟩) (by decide) (by decide) kc15 (va_Nw.use rfl hE.1.2.2.1) hce hcv hcl ?_
      refine lv_astore_n (lv' := [(3, .ref q9), (0, .ref (h 0)), (1, .int x), (2, .ref ao)]) hx hb dL_pay_15 rfl hl (by decide) rfl (fun ls hl => ?_)
      refine lv_iconst (v := 2) hx hb dL_pay_16 (by decide) ?_
      subst hQ
      exact W.iret (v := 2) hx hb hr (fun t ht hW => ⟨⟨2, (M, g), rfl, l_no hk (by decide) rfl (by decide), by rw [ht]; exact hP1, hD⟩, hS1.F ht⟩) hS1.2.2 dL_pay_17
  · have hP : va_P D vwCl (w0 h cA u ++ wO ao cL g) H := hP
    have hD : va_D A (w0 h cA u ++ wO ao cL g) := hD
    refine lv_i2l (v := r.toInt64) hx hb dL_pay_7 rfl ?_
    refine va_last (f := g) (x := r.toInt64) hx hb hK hP hD hS 12 1 rfl rfl (vp_in_nI (n := 0) (N := 1) (by decide) (by decide)) dL_pay_8 (fun H locs hP hD hS => ?_)
    have hP : va_P D vwCl (w0 h cA u ++ wO ao cL (vp_updL g 0 r.toInt64)) H := hP
    have hD : va_D A (w0 h cA u ++ wO ao cL (vp_updL g 0 r.toInt64)) := hD
    refine lv_goto (tgt := 18) hx hb dL_pay_9 (by decide) ?_
    refine lv_iconst (v := 0) hx hb dL_pay_18 (by decide) ?_
    subst hQ
    exact W.iret (v := 0) hx hb hr (fun t ht hW => ⟨⟨0, (u, vp_updL g 0 r.toInt64), rfl, l_ok qr, by rw [ht]; exact hP, hD⟩, hS.F ht⟩) hS.2.2 dL_pay_19
set_option maxHeartbeats 4000000 in
set_option maxRecDepth 100000 in
theorem eL_waive (l : Launch) (hlt : l.stackTraces = false) (D : va_G) (h : Nat → Nat) (cA cL : ClassId) (M : MM) (hM : OKM M) (ao : Nat) (g : Nat → Int64) (x : Int32) (sz : Nat) : Met l yL_waive wsL_waive ({ frames := 8, cells := 1, slots := 6, locals := 132 } : Room) (va_Pc [.ref (h 0), .int x, .ref ao] (l_pre D cA cL (w0 h cA M ++ wO ao cL g) sz)) (va_Qi (fun (r : Int32) (u : MM × (Nat → Int64)) => l_post (x_waive M x) M r u) (fun u => qW D (va_A (w0 h cA M ++ wO ao cL g) sz) (w0 h cA u.1 ++ wO ao cL u.2)) (va_A (w0 h cA M ++ wO ao cL g) sz)) 1 6 (va_A (w0 h cA M ++ wO ao cL g) sz) := by
  refine va_MetW (cc := cL_waive) (maxL := 4) (ret := (some .int)) (hh := [(0, 9, 12, 21), (0, 9, 15, 15)]) (by decide) rfl ?_
  intro p e s m args below meth c s₁ B hml hv
  obtain ⟨rfl, ⟨⟨hsz, hP, hK, hD0⟩, hE⟩, hN⟩ := hv
  have hx := B.exec
  have hb := B.bytes
  have hr := B.returns
  have hts := atoms_spec (ws := wsL_waive) B.pre
  have hown : s.vm.findClass RL = some m.cls := findClass_of_methodNamed B.named
  have hTab := vx_table (x := yL_waive) B (hts (.codeWith yL_waive cL_waive 4 (some .int) [(0, 9, 12, 21), (0, 9, 15, 15)]) List.mem_cons_self)
  have kc21 := hts (.classLink RL 21 "java/lang/IndexOutOfBoundsException") (by decide +kernel)
  have kc15 := hts (.classLink RL 15 "java/lang/IllegalStateException") (by decide +kernel)
  subst hsz
  have hD := hD0.self (sz := s.heap.size)
  generalize hAe : va_A (w0 h cA M ++ wO ao cL g) s.heap.size = A at hD ⊢
  have hA : ∀ q : Nat, s.heap.size ≤ q → A q := fun q h => by rw [← hAe]; exact Or.inr h
  have hS : va_S A s.heap s.heap [] := va_S.rf
  have hP : va_P D vwCl (w0 h cA M ++ wO ao cL g) s.heap := hP
  have hl := lv_entry ([.ref (h 0), .int x, .ref ao]) (n := 4) (Nat.le_of_ble_eq_true rfl)
  rw [lg_entry_eq]
  generalize (lg_sl ([.ref (h 0), .int x, .ref ao]) ++ List.replicate (4 - (lg_sl ([.ref (h 0), .int x, .ref ao])).length) Slot.unset).toArray = ls at hl ⊢
  have hl : lv_has ls 4 [(0, .ref (h 0)), (1, .int x), (2, .ref ao)] := hl
  refine w_abs (fun Q hQ => ?_)
  refine lv_aload_n hx hb dL_waive_0 rfl (lv_at hl 2 rfl) ?_
  refine lv_iconst (v := 0) hx hb dL_waive_1 (by decide) ?_
  refine lv_aload_n hx hb dL_waive_2 rfl (lv_at hl 0 rfl) ?_
  refine lv_iload_n hx hb dL_waive_3 rfl (lv_at hl 1 rfl) ?_
  refine g_calliX (wl := []) (wc := w0 h cA M) (wr := wO ao cL g) (wf := fun u : MM => w0 h cA u) (vx_runV (As := [.int x]) (rest := [.int 0, .ref ao]) ⟨hx, hb, hml, hown, hts⟩ (c0_waive l hlt D h cA M hM x s.heap.size) (cwV 1 hts gL_waive_X0_waive rfl rfl rfl (by decide +kernel) ⟨Nat.le_of_ble_eq_true rfl, Nat.le_of_ble_eq_true rfl⟩) ⟨pE_fb pW_fb, va_recv hK hP (ci := 0) (q0 := 0) rfl rfl, pE_mk rfl (pW_mk (p_left hP) (hK.sub [0] rfl) (d_left hD)) hE⟩ rfl rfl hl.1 rfl (lv_room (Nat.le_of_ble_eq_true rfl)) dL_waive_4 ⟨Nat.le_of_ble_eq_true rfl, Nat.le_of_ble_eq_true rfl⟩) rfl hP hD hS hA (fun E ce q9 H1 locs1 hpx g1 g2 hP1 hS1 hce hcv hcl => ?_) (fun r u H locs qr hP hD hS => ?_)
  · rcases hpx with ⟨rfl, hk⟩ | ⟨rfl, hk⟩
    · refine vx_catch (own := RL) (name := E_io) (E := E_io) hown [] ⟨0, 9, 12, 21⟩ [⟨0, 9, 15, 15⟩] (hTab.trans rfl) (fun z hz => absurd hz List.not_mem_nil) (by decide) (by decide) kc21 (va_Nw.use rfl hE.1.1) hce hcv hcl ?_
      refine lv_astore_n (lv' := [(3, .ref q9), (0, .ref (h 0)), (1, .int x), (2, .ref ao)]) hx hb dL_waive_12 rfl hl (by decide) rfl (fun ls hl => ?_)
      refine lv_iconst (v := 1) hx hb dL_waive_13 (by decide) ?_
      subst hQ
      exact W.iret (v := 1) hx hb hr (fun t ht hW => ⟨⟨1, (M, g), rfl, l_no hk (by decide) rfl (by decide), by rw [ht]; exact hP1, hD⟩, hS1.F ht⟩) hS1.2.2 dL_waive_14
    · refine vx_catch (own := RL) (name := E_is) (E := E_is) hown [⟨0, 9, 12, 21⟩] ⟨0, 9, 15, 15⟩ [] (hTab.trans rfl) (fun z hz => by obtain rfl := List.mem_singleton.mp hz; exact Or.inr ⟨by decide, _, kc21, hN.2.1⟩) (by decide) (by decide) kc15 (va_Nw.use rfl hE.1.2.2.1) hce hcv hcl ?_
      refine lv_astore_n (lv' := [(3, .ref q9), (0, .ref (h 0)), (1, .int x), (2, .ref ao)]) hx hb dL_waive_15 rfl hl (by decide) rfl (fun ls hl => ?_)
      refine lv_iconst (v := 2) hx hb dL_waive_16 (by decide) ?_
      subst hQ
      exact W.iret (v := 2) hx hb hr (fun t ht hW => ⟨⟨2, (M, g), rfl, l_no hk (by decide) rfl (by decide), by rw [ht]; exact hP1, hD⟩, hS1.F ht⟩) hS1.2.2 dL_waive_17
  · have hP : va_P D vwCl (w0 h cA u ++ wO ao cL g) H := hP
    have hD : va_D A (w0 h cA u ++ wO ao cL g) := hD
    refine lv_i2l (v := r.toInt64) hx hb dL_waive_7 rfl ?_
    refine va_last (f := g) (x := r.toInt64) hx hb hK hP hD hS 12 1 rfl rfl (vp_in_nI (n := 0) (N := 1) (by decide) (by decide)) dL_waive_8 (fun H locs hP hD hS => ?_)
    have hP : va_P D vwCl (w0 h cA u ++ wO ao cL (vp_updL g 0 r.toInt64)) H := hP
    have hD : va_D A (w0 h cA u ++ wO ao cL (vp_updL g 0 r.toInt64)) := hD
    refine lv_goto (tgt := 18) hx hb dL_waive_9 (by decide) ?_
    refine lv_iconst (v := 0) hx hb dL_waive_18 (by decide) ?_
    subst hQ
    exact W.iret (v := 0) hx hb hr (fun t ht hW => ⟨⟨0, (u, vp_updL g 0 r.toInt64), rfl, l_ok qr, by rw [ht]; exact hP, hD⟩, hS.F ht⟩) hS.2.2 dL_waive_19
set_option maxHeartbeats 4000000 in
set_option maxRecDepth 100000 in
theorem eL_state (l : Launch) (hlt : l.stackTraces = false) (D : va_G) (h : Nat → Nat) (cA cL : ClassId) (M : MM) (hM : OKM M) (ao : Nat) (g : Nat → Int64) (x : Int32) (sz : Nat) : Met l yL_state wsL_state ({ frames := 8, cells := 1, slots := 6, locals := 132 } : Room) (va_Pc [.ref (h 0), .int x, .ref ao] (l_pre D cA cL (w0 h cA M ++ wO ao cL g) sz)) (va_Qi (fun (r : Int32) (u : MM × (Nat → Int64)) => l_post (o_row M (m_an M) (m_as M) x) M r u) (fun u => qW D (va_A (w0 h cA M ++ wO ao cL g) sz) (w0 h cA u.1 ++ wO ao cL u.2)) (va_A (w0 h cA M ++ wO ao cL g) sz)) 1 6 (va_A (w0 h cA M ++ wO ao cL g) sz) := by
  refine va_MetW (cc := cL_state) (maxL := 4) (ret := (some .int)) (hh := [(0, 9, 12, 21)]) (by decide) rfl ?_
  intro p e s m args below meth c s₁ B hml hv
  obtain ⟨rfl, ⟨⟨hsz, hP, hK, hD0⟩, hE⟩, hN⟩ := hv
  have hx := B.exec
  have hb := B.bytes
  have hr := B.returns
  have hts := atoms_spec (ws := wsL_state) B.pre
  have hown : s.vm.findClass RL = some m.cls := findClass_of_methodNamed B.named
  have hTab := vx_table (x := yL_state) B (hts (.codeWith yL_state cL_state 4 (some .int) [(0, 9, 12, 21)]) List.mem_cons_self)
  have kc21 := hts (.classLink RL 21 "java/lang/IndexOutOfBoundsException") (by decide +kernel)
  subst hsz
  have hD := hD0.self (sz := s.heap.size)
  generalize hAe : va_A (w0 h cA M ++ wO ao cL g) s.heap.size = A at hD ⊢
  have hA : ∀ q : Nat, s.heap.size ≤ q → A q := fun q h => by rw [← hAe]; exact Or.inr h
  have hS : va_S A s.heap s.heap [] := va_S.rf
  have hP : va_P D vwCl (w0 h cA M ++ wO ao cL g) s.heap := hP
  have hl := lv_entry ([.ref (h 0), .int x, .ref ao]) (n := 4) (Nat.le_of_ble_eq_true rfl)
  rw [lg_entry_eq]
  generalize (lg_sl ([.ref (h 0), .int x, .ref ao]) ++ List.replicate (4 - (lg_sl ([.ref (h 0), .int x, .ref ao])).length) Slot.unset).toArray = ls at hl ⊢
  have hl : lv_has ls 4 [(0, .ref (h 0)), (1, .int x), (2, .ref ao)] := hl
  refine w_abs (fun Q hQ => ?_)
  refine lv_aload_n hx hb dL_state_0 rfl (lv_at hl 2 rfl) ?_
  refine lv_iconst (v := 0) hx hb dL_state_1 (by decide) ?_
  refine lv_aload_n hx hb dL_state_2 rfl (lv_at hl 0 rfl) ?_
  refine lv_iload_n hx hb dL_state_3 rfl (lv_at hl 1 rfl) ?_
  refine g_calliX (wl := []) (wc := w0 h cA M) (wr := wO ao cL g) (wf := fun u : MM => w0 h cA u) (vx_runV (As := [.int x]) (rest := [.int 0, .ref ao]) ⟨hx, hb, hml, hown, hts⟩ (c0_state l hlt D h cA M hM x s.heap.size) (cwV 1 hts gL_state_X0_state rfl rfl rfl (by decide +kernel) ⟨Nat.le_of_ble_eq_true rfl, Nat.le_of_ble_eq_true rfl⟩) ⟨pE_fb pW_fb, va_recv hK hP (ci := 0) (q0 := 0) rfl rfl, pE_mk rfl (pW_mk (p_left hP) (hK.sub [0] rfl) (d_left hD)) hE⟩ rfl rfl hl.1 rfl (lv_room (Nat.le_of_ble_eq_true rfl)) dL_state_4 ⟨Nat.le_of_ble_eq_true rfl, Nat.le_of_ble_eq_true rfl⟩) rfl hP hD hS hA (fun E ce q9 H1 locs1 hpx g1 g2 hP1 hS1 hce hcv hcl => ?_) (fun r u H locs qr hP hD hS => ?_)
  · obtain ⟨rfl, hk⟩ := hpx
    refine vx_catch (own := RL) (name := E_io) (E := E_io) hown [] ⟨0, 9, 12, 21⟩ [] (hTab.trans rfl) (fun z hz => absurd hz List.not_mem_nil) (by decide) (by decide) kc21 (va_Nw.use rfl hE.1.1) hce hcv hcl ?_
    refine lv_astore_n (lv' := [(3, .ref q9), (0, .ref (h 0)), (1, .int x), (2, .ref ao)]) hx hb dL_state_12 rfl hl (by decide) rfl (fun ls hl => ?_)
    refine lv_iconst (v := 1) hx hb dL_state_13 (by decide) ?_
    subst hQ
    exact W.iret (v := 1) hx hb hr (fun t ht hW => ⟨⟨1, (M, g), rfl, l_no hk (by decide) rfl (by decide), by rw [ht]; exact hP1, hD⟩, hS1.F ht⟩) hS1.2.2 dL_state_14
  · have hP : va_P D vwCl (w0 h cA u ++ wO ao cL g) H := hP
    have hD : va_D A (w0 h cA u ++ wO ao cL g) := hD
    refine lv_i2l (v := r.toInt64) hx hb dL_state_7 rfl ?_
    refine va_last (f := g) (x := r.toInt64) hx hb hK hP hD hS 12 1 rfl rfl (vp_in_nI (n := 0) (N := 1) (by decide) (by decide)) dL_state_8 (fun H locs hP hD hS => ?_)
    have hP : va_P D vwCl (w0 h cA u ++ wO ao cL (vp_updL g 0 r.toInt64)) H := hP
    have hD : va_D A (w0 h cA u ++ wO ao cL (vp_updL g 0 r.toInt64)) := hD
    refine lv_goto (tgt := 15) hx hb dL_state_9 (by decide) ?_
    refine lv_iconst (v := 0) hx hb dL_state_15 (by decide) ?_
    subst hQ
    exact W.iret (v := 0) hx hb hr (fun t ht hW => ⟨⟨0, (u, vp_updL g 0 r.toInt64), rfl, l_ok qr, by rw [ht]; exact hP, hD⟩, hS.F ht⟩) hS.2.2 dL_state_16
set_option maxHeartbeats 4000000 in
set_option maxRecDepth 100000 in
theorem eL_amount (l : Launch) (hlt : l.stackTraces = false) (D : va_G) (h : Nat → Nat) (cA cL : ClassId) (M : MM) (hM : OKM M) (ao : Nat) (g : Nat → Int64) (x : Int32) (sz : Nat) : Met l yL_amount wsL_amount ({ frames := 8, cells := 1, slots := 6, locals := 132 } : Room) (va_Pc [.ref (h 0), .int x, .ref ao] (l_pre D cA cL (w0 h cA M ++ wO ao cL g) sz)) (va_Qi (fun (r : Int32) (u : MM × (Nat → Int64)) => l_post (o_row M (m_an M) (m_aa M) x) M r u) (fun u => qW D (va_A (w0 h cA M ++ wO ao cL g) sz) (w0 h cA u.1 ++ wO ao cL u.2)) (va_A (w0 h cA M ++ wO ao cL g) sz)) 1 6 (va_A (w0 h cA M ++ wO ao cL g) sz) := by
  refine va_MetW (cc := cL_amount) (maxL := 4) (ret := (some .int)) (hh := [(0, 9, 12, 21)]) (by decide) rfl ?_
  intro p e s m args below meth c s₁ B hml hv
  obtain ⟨rfl, ⟨⟨hsz, hP, hK, hD0⟩, hE⟩, hN⟩ := hv
  have hx := B.exec
  have hb := B.bytes
  have hr := B.returns
  have hts := atoms_spec (ws := wsL_amount) B.pre
  have hown : s.vm.findClass RL = some m.cls := findClass_of_methodNamed B.named
  have hTab := vx_table (x := yL_amount) B (hts (.codeWith yL_amount cL_amount 4 (some .int) [(0, 9, 12, 21)]) List.mem_cons_self)
  have kc21 := hts (.classLink RL 21 "java/lang/IndexOutOfBoundsException") (by decide +kernel)
  subst hsz
  have hD := hD0.self (sz := s.heap.size)
  generalize hAe : va_A (w0 h cA M ++ wO ao cL g) s.heap.size = A at hD ⊢
  have hA : ∀ q : Nat, s.heap.size ≤ q → A q := fun q h => by rw [← hAe]; exact Or.inr h
  have hS : va_S A s.heap s.heap [] := va_S.rf
  have hP : va_P D vwCl (w0 h cA M ++ wO ao cL g) s.heap := hP
  have hl := lv_entry ([.ref (h 0), .int x, .ref ao]) (n := 4) (Nat.le_of_ble_eq_true rfl)
  rw [lg_entry_eq]
  generalize (lg_sl ([.ref (h 0), .int x, .ref ao]) ++ List.replicate (4 - (lg_sl ([.ref (h 0), .int x, .ref ao])).length) Slot.unset).toArray = ls at hl ⊢
  have hl : lv_has ls 4 [(0, .ref (h 0)), (1, .int x), (2, .ref ao)] := hl
  refine w_abs (fun Q hQ => ?_)
  refine lv_aload_n hx hb dL_amount_0 rfl (lv_at hl 2 rfl) ?_
  refine lv_iconst (v := 0) hx hb dL_amount_1 (by decide) ?_
  refine lv_aload_n hx hb dL_amount_2 rfl (lv_at hl 0 rfl) ?_
  refine lv_iload_n hx hb dL_amount_3 rfl (lv_at hl 1 rfl) ?_
  refine g_calliX (wl := []) (wc := w0 h cA M) (wr := wO ao cL g) (wf := fun u : MM => w0 h cA u) (vx_runV (As := [.int x]) (rest := [.int 0, .ref ao]) ⟨hx, hb, hml, hown, hts⟩ (c0_amount l hlt D h cA M hM x s.heap.size) (cwV 1 hts gL_amount_X0_amount rfl rfl rfl (by decide +kernel) ⟨Nat.le_of_ble_eq_true rfl, Nat.le_of_ble_eq_true rfl⟩) ⟨pE_fb pW_fb, va_recv hK hP (ci := 0) (q0 := 0) rfl rfl, pE_mk rfl (pW_mk (p_left hP) (hK.sub [0] rfl) (d_left hD)) hE⟩ rfl rfl hl.1 rfl (lv_room (Nat.le_of_ble_eq_true rfl)) dL_amount_4 ⟨Nat.le_of_ble_eq_true rfl, Nat.le_of_ble_eq_true rfl⟩) rfl hP hD hS hA (fun E ce q9 H1 locs1 hpx g1 g2 hP1 hS1 hce hcv hcl => ?_) (fun r u H locs qr hP hD hS => ?_)
  · obtain ⟨rfl, hk⟩ := hpx
    refine vx_catch (own := RL) (name := E_io) (E := E_io) hown [] ⟨0, 9, 12, 21⟩ [] (hTab.trans rfl) (fun z hz => absurd hz List.not_mem_nil) (by decide) (by decide) kc21 (va_Nw.use rfl hE.1.1) hce hcv hcl ?_
    refine lv_astore_n (lv' := [(3, .ref q9), (0, .ref (h 0)), (1, .int x), (2, .ref ao)]) hx hb dL_amount_12 rfl hl (by decide) rfl (fun ls hl => ?_)
    refine lv_iconst (v := 1) hx hb dL_amount_13 (by decide) ?_
    subst hQ
    exact W.iret (v := 1) hx hb hr (fun t ht hW => ⟨⟨1, (M, g), rfl, l_no hk (by decide) rfl (by decide), by rw [ht]; exact hP1, hD⟩, hS1.F ht⟩) hS1.2.2 dL_amount_14
  · have hP : va_P D vwCl (w0 h cA u ++ wO ao cL g) H := hP
    have hD : va_D A (w0 h cA u ++ wO ao cL g) := hD
    refine lv_i2l (v := r.toInt64) hx hb dL_amount_7 rfl ?_
    refine va_last (f := g) (x := r.toInt64) hx hb hK hP hD hS 12 1 rfl rfl (vp_in_nI (n := 0) (N := 1) (by decide) (by decide)) dL_amount_8 (fun H locs hP hD hS => ?_)
    have hP : va_P D vwCl (w0 h cA u ++ wO ao cL (vp_updL g 0 r.toInt64)) H := hP
    have hD : va_D A (w0 h cA u ++ wO ao cL (vp_updL g 0 r.toInt64)) := hD
    refine lv_goto (tgt := 15) hx hb dL_amount_9 (by decide) ?_
    refine lv_iconst (v := 0) hx hb dL_amount_15 (by decide) ?_
    subst hQ
    exact W.iret (v := 0) hx hb hr (fun t ht hW => ⟨⟨0, (u, vp_updL g 0 r.toInt64), rfl, l_ok qr, by rw [ht]; exact hP, hD⟩, hS.F ht⟩) hS.2.2 dL_amount_16
set_option maxHeartbeats 4000000 in
set_option maxRecDepth 100000 in
theorem eL_billedBehind (l : Launch) (hlt : l.stackTraces = false) (D : va_G) (h : Nat → Nat) (cA cL : ClassId) (M : MM) (hM : OKM M) (ao : Nat) (g : Nat → Int64) (x : Int32) (sz : Nat) : Met l yL_billedBehind wsL_billedBehind ({ frames := 8, cells := 1, slots := 6, locals := 132 } : Room) (va_Pc [.ref (h 0), .int x, .ref ao] (l_pre D cA cL (w0 h cA M ++ wO ao cL g) sz)) (va_Qi (fun (r : Int32) (u : MM × (Nat → Int64)) => l_post (o_row M (m_an M) (m_ab M) x) M r u) (fun u => qW D (va_A (w0 h cA M ++ wO ao cL g) sz) (w0 h cA u.1 ++ wO ao cL u.2)) (va_A (w0 h cA M ++ wO ao cL g) sz)) 1 6 (va_A (w0 h cA M ++ wO ao cL g) sz) := by
  refine va_MetW (cc := cL_billedBehind) (maxL := 4) (ret := (some .int)) (hh := [(0, 9, 12, 21)]) (by decide) rfl ?_
  intro p e s m args below meth c s₁ B hml hv
  obtain ⟨rfl, ⟨⟨hsz, hP, hK, hD0⟩, hE⟩, hN⟩ := hv
  have hx := B.exec
  have hb := B.bytes
  have hr := B.returns
  have hts := atoms_spec (ws := wsL_billedBehind) B.pre
  have hown : s.vm.findClass RL = some m.cls := findClass_of_methodNamed B.named
  have hTab := vx_table (x := yL_billedBehind) B (hts (.codeWith yL_billedBehind cL_billedBehind 4 (some .int) [(0, 9, 12, 21)]) List.mem_cons_self)
  have kc21 := hts (.classLink RL 21 "java/lang/IndexOutOfBoundsException") (by decide +kernel)
  subst hsz
  have hD := hD0.self (sz := s.heap.size)
  generalize hAe : va_A (w0 h cA M ++ wO ao cL g) s.heap.size = A at hD ⊢
  have hA : ∀ q : Nat, s.heap.size ≤ q → A q := fun q h => by rw [← hAe]; exact Or.inr h
  have hS : va_S A s.heap s.heap [] := va_S.rf
  have hP : va_P D vwCl (w0 h cA M ++ wO ao cL g) s.heap := hP
  have hl := lv_entry ([.ref (h 0), .int x, .ref ao]) (n := 4) (Nat.le_of_ble_eq_true rfl)
  rw [lg_entry_eq]
  generalize (lg_sl ([.ref (h 0), .int x, .ref ao]) ++ List.replicate (4 - (lg_sl ([.ref (h 0), .int x, .ref ao])).length) Slot.unset).toArray = ls at hl ⊢
  have hl : lv_has ls 4 [(0, .ref (h 0)), (1, .int x), (2, .ref ao)] := hl
  refine w_abs (fun Q hQ => ?_)
  refine lv_aload_n hx hb dL_billedBehind_0 rfl (lv_at hl 2 rfl) ?_
  refine lv_iconst (v := 0) hx hb dL_billedBehind_1 (by decide) ?_
  refine lv_aload_n hx hb dL_billedBehind_2 rfl (lv_at hl 0 rfl) ?_
  refine lv_iload_n hx hb dL_billedBehind_3 rfl (lv_at hl 1 rfl) ?_
  refine g_calliX (wl := []) (wc := w0 h cA M) (wr := wO ao cL g) (wf := fun u : MM => w0 h cA u) (vx_runV (As := [.int x]) (rest := [.int 0, .ref ao]) ⟨hx, hb, hml, hown, hts⟩ (c0_billedBehind l hlt D h cA M hM x s.heap.size) (cwV 1 hts gL_billedBehind_X0_billedBehind rfl rfl rfl (by decide +kernel) ⟨Nat.le_of_ble_eq_true rfl, Nat.le_of_ble_eq_true rfl⟩) ⟨pE_fb pW_fb, va_recv hK hP (ci := 0) (q0 := 0) rfl rfl, pE_mk rfl (pW_mk (p_left hP) (hK.sub [0] rfl) (d_left hD)) hE⟩ rfl rfl hl.1 rfl (lv_room (Nat.le_of_ble_eq_true rfl)) dL_billedBehind_4 ⟨Nat.le_of_ble_eq_true rfl, Nat.le_of_ble_eq_true rfl⟩) rfl hP hD hS hA (fun E ce q9 H1 locs1 hpx g1 g2 hP1 hS1 hce hcv hcl => ?_) (fun r u H locs qr hP hD hS => ?_)
  · obtain ⟨rfl, hk⟩ := hpx
    refine vx_catch (own := RL) (name := E_io) (E := E_io) hown [] ⟨0, 9, 12, 21⟩ [] (hTab.trans rfl) (fun z hz => absurd hz List.not_mem_nil) (by decide) (by decide) kc21 (va_Nw.use rfl hE.1.1) hce hcv hcl ?_
    refine lv_astore_n (lv' := [(3, .ref q9), (0, .ref (h 0)), (1, .int x), (2, .ref ao)]) hx hb dL_billedBehind_12 rfl hl (by decide) rfl (fun ls hl => ?_)
    refine lv_iconst (v := 1) hx hb dL_billedBehind_13 (by decide) ?_
    subst hQ
    exact W.iret (v := 1) hx hb hr (fun t ht hW => ⟨⟨1, (M, g), rfl, l_no hk (by decide) rfl (by decide), by rw [ht]; exact hP1, hD⟩, hS1.F ht⟩) hS1.2.2 dL_billedBehind_14
  · have hP : va_P D vwCl (w0 h cA u ++ wO ao cL g) H := hP
    have hD : va_D A (w0 h cA u ++ wO ao cL g) := hD
    refine lv_i2l (v := r.toInt64) hx hb dL_billedBehind_7 rfl ?_
    refine va_last (f := g) (x := r.toInt64) hx hb hK hP hD hS 12 1 rfl rfl (vp_in_nI (n := 0) (N := 1) (by decide) (by decide)) dL_billedBehind_8 (fun H locs hP hD hS => ?_)
    have hP : va_P D vwCl (w0 h cA u ++ wO ao cL (vp_updL g 0 r.toInt64)) H := hP
    have hD : va_D A (w0 h cA u ++ wO ao cL (vp_updL g 0 r.toInt64)) := hD
    refine lv_goto (tgt := 15) hx hb dL_billedBehind_9 (by decide) ?_
    refine lv_iconst (v := 0) hx hb dL_billedBehind_15 (by decide) ?_
    subst hQ
    exact W.iret (v := 0) hx hb hr (fun t ht hW => ⟨⟨0, (u, vp_updL g 0 r.toInt64), rfl, l_ok qr, by rw [ht]; exact hP, hD⟩, hS.F ht⟩) hS.2.2 dL_billedBehind_16
set_option maxHeartbeats 4000000 in
set_option maxRecDepth 100000 in
theorem eL_heldBehind (l : Launch) (hlt : l.stackTraces = false) (D : va_G) (h : Nat → Nat) (cA cL : ClassId) (M : MM) (hM : OKM M) (ao : Nat) (g : Nat → Int64) (x : Int32) (sz : Nat) : Met l yL_heldBehind wsL_heldBehind ({ frames := 8, cells := 1, slots := 6, locals := 132 } : Room) (va_Pc [.ref (h 0), .int x, .ref ao] (l_pre D cA cL (w0 h cA M ++ wO ao cL g) sz)) (va_Qi (fun (r : Int32) (u : MM × (Nat → Int64)) => l_post (o_row M (m_an M) (m_ah M) x) M r u) (fun u => qW D (va_A (w0 h cA M ++ wO ao cL g) sz) (w0 h cA u.1 ++ wO ao cL u.2)) (va_A (w0 h cA M ++ wO ao cL g) sz)) 1 6 (va_A (w0 h cA M ++ wO ao cL g) sz) := by
  refine va_MetW (cc := cL_heldBehind) (maxL := 4) (ret := (some .int)) (hh := [(0, 9, 12, 21)]) (by decide) rfl ?_
  intro p e s m args below meth c s₁ B hml hv
  obtain ⟨rfl, ⟨⟨hsz, hP, hK, hD0⟩, hE⟩, hN⟩ := hv
  have hx := B.exec
  have hb := B.bytes
  have hr := B.returns
  have hts := atoms_spec (ws := wsL_heldBehind) B.pre
  have hown : s.vm.findClass RL = some m.cls := findClass_of_methodNamed B.named
  have hTab := vx_table (x := yL_heldBehind) B (hts (.codeWith yL_heldBehind cL_heldBehind 4 (some .int) [(0, 9, 12, 21)]) List.mem_cons_self)
  have kc21 := hts (.classLink RL 21 "java/lang/IndexOutOfBoundsException") (by decide +kernel)
  subst hsz
  have hD := hD0.self (sz := s.heap.size)
  generalize hAe : va_A (w0 h cA M ++ wO ao cL g) s.heap.size = A at hD ⊢
  have hA : ∀ q : Nat, s.heap.size ≤ q → A q := fun q h => by rw [← hAe]; exact Or.inr h
  have hS : va_S A s.heap s.heap [] := va_S.rf
  have hP : va_P D vwCl (w0 h cA M ++ wO ao cL g) s.heap := hP
  have hl := lv_entry ([.ref (h 0), .int x, .ref ao]) (n := 4) (Nat.le_of_ble_eq_true rfl)
  rw [lg_entry_eq]
  generalize (lg_sl ([.ref (h 0), .int x, .ref ao]) ++ List.replicate (4 - (lg_sl ([.ref (h 0), .int x, .ref ao])).length) Slot.unset).toArray = ls at hl ⊢
  have hl : lv_has ls 4 [(0, .ref (h 0)), (1, .int x), (2, .ref ao)] := hl
  refine w_abs (fun Q hQ => ?_)
  refine lv_aload_n hx hb dL_heldBehind_0 rfl (lv_at hl 2 rfl) ?_
  refine lv_iconst (v := 0) hx hb dL_heldBehind_1 (by decide) ?_
  refine lv_aload_n hx hb dL_heldBehind_2 rfl (lv_at hl 0 rfl) ?_
  refine lv_iload_n hx hb dL_heldBehind_3 rfl (lv_at hl 1 rfl) ?_
  refine g_calliX (wl := []) (wc := w0 h cA M) (wr := wO ao cL g) (wf := fun u : MM => w0 h cA u) (vx_runV (As := [.int x]) (rest := [.int 0, .ref ao]) ⟨hx, hb, hml, hown, hts⟩ (c0_heldBehind l hlt D h cA M hM x s.heap.size) (cwV 1 hts gL_heldBehind_X0_heldBehind rfl rfl rfl (by decide +kernel) ⟨Nat.le_of_ble_eq_true rfl, Nat.le_of_ble_eq_true rfl⟩) ⟨pE_fb pW_fb, va_recv hK hP (ci := 0) (q0 := 0) rfl rfl, pE_mk rfl (pW_mk (p_left hP) (hK.sub [0] rfl) (d_left hD)) hE⟩ rfl rfl hl.1 rfl (lv_room (Nat.le_of_ble_eq_true rfl)) dL_heldBehind_4 ⟨Nat.le_of_ble_eq_true rfl, Nat.le_of_ble_eq_true rfl⟩) rfl hP hD hS hA (fun E ce q9 H1 locs1 hpx g1 g2 hP1 hS1 hce hcv hcl => ?_) (fun r u H locs qr hP hD hS => ?_)
  · obtain ⟨rfl, hk⟩ := hpx
    refine vx_catch (own := RL) (name := E_io) (E := E_io) hown [] ⟨0, 9, 12, 21⟩ [] (hTab.trans rfl) (fun z hz => absurd hz List.not_mem_nil) (by decide) (by decide) kc21 (va_Nw.use rfl hE.1.1) hce hcv hcl ?_
    refine lv_astore_n (lv' := [(3, .ref q9), (0, .ref (h 0)), (1, .int x), (2, .ref ao)]) hx hb dL_heldBehind_12 rfl hl (by decide) rfl (fun ls hl => ?_)
    refine lv_iconst (v := 1) hx hb dL_heldBehind_13 (by decide) ?_
    subst hQ
    exact W.iret (v := 1) hx hb hr (fun t ht hW => ⟨⟨1, (M, g), rfl, l_no hk (by decide) rfl (by decide), by rw [ht]; exact hP1, hD⟩, hS1.F ht⟩) hS1.2.2 dL_heldBehind_14
  · have hP : va_P D vwCl (w0 h cA u ++ wO ao cL g) H := hP
    have hD : va_D A (w0 h cA u ++ wO ao cL g) := hD
    refine lv_i2l (v := r.toInt64) hx hb dL_heldBehind_7 rfl ?_
    refine va_last (f := g) (x := r.toInt64) hx hb hK hP hD hS 12 1 rfl rfl (vp_in_nI (n := 0) (N := 1) (by decide) (by decide)) dL_heldBehind_8 (fun H locs hP hD hS => ?_)
    have hP : va_P D vwCl (w0 h cA u ++ wO ao cL (vp_updL g 0 r.toInt64)) H := hP
    have hD : va_D A (w0 h cA u ++ wO ao cL (vp_updL g 0 r.toInt64)) := hD
    refine lv_goto (tgt := 15) hx hb dL_heldBehind_9 (by decide) ?_
    refine lv_iconst (v := 0) hx hb dL_heldBehind_15 (by decide) ?_
    subst hQ
    exact W.iret (v := 0) hx hb hr (fun t ht hW => ⟨⟨0, (u, vp_updL g 0 r.toInt64), rfl, l_ok qr, by rw [ht]; exact hP, hD⟩, hS.F ht⟩) hS.2.2 dL_heldBehind_16
set_option maxHeartbeats 4000000 in
set_option maxRecDepth 100000 in
theorem eL_value (l : Launch) (hlt : l.stackTraces = false) (D : va_G) (h : Nat → Nat) (cA cL : ClassId) (M : MM) (hM : OKM M) (ao : Nat) (g : Nat → Int64) (x : Int32) (sz : Nat) : Met l yL_value wsL_value ({ frames := 8, cells := 1, slots := 6, locals := 132 } : Room) (va_Pc [.ref (h 0), .int x, .ref ao] (l_pre D cA cL (w0 h cA M ++ wO ao cL g) sz)) (va_Qi (fun (r : Int32) (u : MM × (Nat → Int64)) => l_post (o_row M (m_ln M) (m_lv M) x) M r u) (fun u => qW D (va_A (w0 h cA M ++ wO ao cL g) sz) (w0 h cA u.1 ++ wO ao cL u.2)) (va_A (w0 h cA M ++ wO ao cL g) sz)) 1 6 (va_A (w0 h cA M ++ wO ao cL g) sz) := by
  refine va_MetW (cc := cL_value) (maxL := 4) (ret := (some .int)) (hh := [(0, 9, 12, 21)]) (by decide) rfl ?_
  intro p e s m args below meth c s₁ B hml hv
  obtain ⟨rfl, ⟨⟨hsz, hP, hK, hD0⟩, hE⟩, hN⟩ := hv
  have hx := B.exec
  have hb := B.bytes
  have hr := B.returns
  have hts := atoms_spec (ws := wsL_value) B.pre
  have hown : s.vm.findClass RL = some m.cls := findClass_of_methodNamed B.named
  have hTab := vx_table (x := yL_value) B (hts (.codeWith yL_value cL_value 4 (some .int) [(0, 9, 12, 21)]) List.mem_cons_self)
  have kc21 := hts (.classLink RL 21 "java/lang/IndexOutOfBoundsException") (by decide +kernel)
  subst hsz
  have hD := hD0.self (sz := s.heap.size)
  generalize hAe : va_A (w0 h cA M ++ wO ao cL g) s.heap.size = A at hD ⊢
  have hA : ∀ q : Nat, s.heap.size ≤ q → A q := fun q h => by rw [← hAe]; exact Or.inr h
  have hS : va_S A s.heap s.heap [] := va_S.rf
  have hP : va_P D vwCl (w0 h cA M ++ wO ao cL g) s.heap := hP
  have hl := lv_entry ([.ref (h 0), .int x, .ref ao]) (n := 4) (Nat.le_of_ble_eq_true rfl)
  rw [lg_entry_eq]
  generalize (lg_sl ([.ref (h 0), .int x, .ref ao]) ++ List.replicate (4 - (lg_sl ([.ref (h 0), .int x, .ref ao])).length) Slot.unset).toArray = ls at hl ⊢
  have hl : lv_has ls 4 [(0, .ref (h 0)), (1, .int x), (2, .ref ao)] := hl
  refine w_abs (fun Q hQ => ?_)
  refine lv_aload_n hx hb dL_value_0 rfl (lv_at hl 2 rfl) ?_
  refine lv_iconst (v := 0) hx hb dL_value_1 (by decide) ?_
  refine lv_aload_n hx hb dL_value_2 rfl (lv_at hl 0 rfl) ?_
  refine lv_iload_n hx hb dL_value_3 rfl (lv_at hl 1 rfl) ?_
  refine g_calliX (wl := []) (wc := w0 h cA M) (wr := wO ao cL g) (wf := fun u : MM => w0 h cA u) (vx_runV (As := [.int x]) (rest := [.int 0, .ref ao]) ⟨hx, hb, hml, hown, hts⟩ (c0_value l hlt D h cA M hM x s.heap.size) (cwV 1 hts gL_value_X0_value rfl rfl rfl (by decide +kernel) ⟨Nat.le_of_ble_eq_true rfl, Nat.le_of_ble_eq_true rfl⟩) ⟨pE_fb pW_fb, va_recv hK hP (ci := 0) (q0 := 0) rfl rfl, pE_mk rfl (pW_mk (p_left hP) (hK.sub [0] rfl) (d_left hD)) hE⟩ rfl rfl hl.1 rfl (lv_room (Nat.le_of_ble_eq_true rfl)) dL_value_4 ⟨Nat.le_of_ble_eq_true rfl, Nat.le_of_ble_eq_true rfl⟩) rfl hP hD hS hA (fun E ce q9 H1 locs1 hpx g1 g2 hP1 hS1 hce hcv hcl => ?_) (fun r u H locs qr hP hD hS => ?_)
  · obtain ⟨rfl, hk⟩ := hpx
    refine vx_catch (own := RL) (name := E_io) (E := E_io) hown [] ⟨0, 9, 12, 21⟩ [] (hTab.trans rfl) (fun z hz => absurd hz List.not_mem_nil) (by decide) (by decide) kc21 (va_Nw.use rfl hE.1.1) hce hcv hcl ?_
    refine lv_astore_n (lv' := [(3, .ref q9), (0, .ref (h 0)), (1, .int x), (2, .ref ao)]) hx hb dL_value_12 rfl hl (by decide) rfl (fun ls hl => ?_)
    refine lv_iconst (v := 1) hx hb dL_value_13 (by decide) ?_
    subst hQ
    exact W.iret (v := 1) hx hb hr (fun t ht hW => ⟨⟨1, (M, g), rfl, l_no hk (by decide) rfl (by decide), by rw [ht]; exact hP1, hD⟩, hS1.F ht⟩) hS1.2.2 dL_value_14
  · have hP : va_P D vwCl (w0 h cA u ++ wO ao cL g) H := hP
    have hD : va_D A (w0 h cA u ++ wO ao cL g) := hD
    refine lv_i2l (v := r.toInt64) hx hb dL_value_7 rfl ?_
    refine va_last (f := g) (x := r.toInt64) hx hb hK hP hD hS 12 1 rfl rfl (vp_in_nI (n := 0) (N := 1) (by decide) (by decide)) dL_value_8 (fun H locs hP hD hS => ?_)
    have hP : va_P D vwCl (w0 h cA u ++ wO ao cL (vp_updL g 0 r.toInt64)) H := hP
    have hD : va_D A (w0 h cA u ++ wO ao cL (vp_updL g 0 r.toInt64)) := hD
    refine lv_goto (tgt := 15) hx hb dL_value_9 (by decide) ?_
    refine lv_iconst (v := 0) hx hb dL_value_15 (by decide) ?_
    subst hQ
    exact W.iret (v := 0) hx hb hr (fun t ht hW => ⟨⟨0, (u, vp_updL g 0 r.toInt64), rfl, l_ok qr, by rw [ht]; exact hP, hD⟩, hS.F ht⟩) hS.2.2 dL_value_16
set_option maxHeartbeats 4000000 in
set_option maxRecDepth 100000 in
theorem eL_work (l : Launch) (hlt : l.stackTraces = false) (D : va_G) (h : Nat → Nat) (cA cL : ClassId) (M : MM) (hM : OKM M) (ao : Nat) (g : Nat → Int64) (x : Int32) (sz : Nat) : Met l yL_work wsL_work ({ frames := 8, cells := 1, slots := 6, locals := 132 } : Room) (va_Pc [.ref (h 0), .int x, .ref ao] (l_pre D cA cL (w0 h cA M ++ wO ao cL g) sz)) (va_Qi (fun (r : Int32) (u : MM × (Nat → Int64)) => l_post (o_row M (m_ln M) (m_lw M) x) M r u) (fun u => qW D (va_A (w0 h cA M ++ wO ao cL g) sz) (w0 h cA u.1 ++ wO ao cL u.2)) (va_A (w0 h cA M ++ wO ao cL g) sz)) 1 6 (va_A (w0 h cA M ++ wO ao cL g) sz) := by
  refine va_MetW (cc := cL_work) (maxL := 4) (ret := (some .int)) (hh := [(0, 9, 12, 21)]) (by decide) rfl ?_
  intro p e s m args below meth c s₁ B hml hv
  obtain ⟨rfl, ⟨⟨hsz, hP, hK, hD0⟩, hE⟩, hN⟩ := hv
  have hx := B.exec
  have hb := B.bytes
  have hr := B.returns
  have hts := atoms_spec (ws := wsL_work) B.pre
  have hown : s.vm.findClass RL = some m.cls := findClass_of_methodNamed B.named
  have hTab := vx_table (x := yL_work) B (hts (.codeWith yL_work cL_work 4 (some .int) [(0, 9, 12, 21)]) List.mem_cons_self)
  have kc21 := hts (.classLink RL 21 "java/lang/IndexOutOfBoundsException") (by decide +kernel)
  subst hsz
  have hD := hD0.self (sz := s.heap.size)
  generalize hAe : va_A (w0 h cA M ++ wO ao cL g) s.heap.size = A at hD ⊢
  have hA : ∀ q : Nat, s.heap.size ≤ q → A q := fun q h => by rw [← hAe]; exact Or.inr h
  have hS : va_S A s.heap s.heap [] := va_S.rf
  have hP : va_P D vwCl (w0 h cA M ++ wO ao cL g) s.heap := hP
  have hl := lv_entry ([.ref (h 0), .int x, .ref ao]) (n := 4) (Nat.le_of_ble_eq_true rfl)
  rw [lg_entry_eq]
  generalize (lg_sl ([.ref (h 0), .int x, .ref ao]) ++ List.replicate (4 - (lg_sl ([.ref (h 0), .int x, .ref ao])).length) Slot.unset).toArray = ls at hl ⊢
  have hl : lv_has ls 4 [(0, .ref (h 0)), (1, .int x), (2, .ref ao)] := hl
  refine w_abs (fun Q hQ => ?_)
  refine lv_aload_n hx hb dL_work_0 rfl (lv_at hl 2 rfl) ?_
  refine lv_iconst (v := 0) hx hb dL_work_1 (by decide) ?_
  refine lv_aload_n hx hb dL_work_2 rfl (lv_at hl 0 rfl) ?_
  refine lv_iload_n hx hb dL_work_3 rfl (lv_at hl 1 rfl) ?_
  refine g_calliX (wl := []) (wc := w0 h cA M) (wr := wO ao cL g) (wf := fun u : MM => w0 h cA u) (vx_runV (As := [.int x]) (rest := [.int 0, .ref ao]) ⟨hx, hb, hml, hown, hts⟩ (c0_work l hlt D h cA M hM x s.heap.size) (cwV 1 hts gL_work_X0_work rfl rfl rfl (by decide +kernel) ⟨Nat.le_of_ble_eq_true rfl, Nat.le_of_ble_eq_true rfl⟩) ⟨pE_fb pW_fb, va_recv hK hP (ci := 0) (q0 := 0) rfl rfl, pE_mk rfl (pW_mk (p_left hP) (hK.sub [0] rfl) (d_left hD)) hE⟩ rfl rfl hl.1 rfl (lv_room (Nat.le_of_ble_eq_true rfl)) dL_work_4 ⟨Nat.le_of_ble_eq_true rfl, Nat.le_of_ble_eq_true rfl⟩) rfl hP hD hS hA (fun E ce q9 H1 locs1 hpx g1 g2 hP1 hS1 hce hcv hcl => ?_) (fun r u H locs qr hP hD hS => ?_)
  · obtain ⟨rfl, hk⟩ := hpx
    refine vx_catch (own := RL) (name := E_io) (E := E_io) hown [] ⟨0, 9, 12, 21⟩ [] (hTab.trans rfl) (fun z hz => absurd hz List.not_mem_nil) (by decide) (by decide) kc21 (va_Nw.use rfl hE.1.1) hce hcv hcl ?_
    refine lv_astore_n (lv' := [(3, .ref q9), (0, .ref (h 0)), (1, .int x), (2, .ref ao)]) hx hb dL_work_12 rfl hl (by decide) rfl (fun ls hl => ?_)
    refine lv_iconst (v := 1) hx hb dL_work_13 (by decide) ?_
    subst hQ
    exact W.iret (v := 1) hx hb hr (fun t ht hW => ⟨⟨1, (M, g), rfl, l_no hk (by decide) rfl (by decide), by rw [ht]; exact hP1, hD⟩, hS1.F ht⟩) hS1.2.2 dL_work_14
  · have hP : va_P D vwCl (w0 h cA u ++ wO ao cL g) H := hP
    have hD : va_D A (w0 h cA u ++ wO ao cL g) := hD
    refine lv_i2l (v := r.toInt64) hx hb dL_work_7 rfl ?_
    refine va_last (f := g) (x := r.toInt64) hx hb hK hP hD hS 12 1 rfl rfl (vp_in_nI (n := 0) (N := 1) (by decide) (by decide)) dL_work_8 (fun H locs hP hD hS => ?_)
    have hP : va_P D vwCl (w0 h cA u ++ wO ao cL (vp_updL g 0 r.toInt64)) H := hP
    have hD : va_D A (w0 h cA u ++ wO ao cL (vp_updL g 0 r.toInt64)) := hD
    refine lv_goto (tgt := 15) hx hb dL_work_9 (by decide) ?_
    refine lv_iconst (v := 0) hx hb dL_work_15 (by decide) ?_
    subst hQ
    exact W.iret (v := 0) hx hb hr (fun t ht hW => ⟨⟨0, (u, vp_updL g 0 r.toInt64), rfl, l_ok qr, by rw [ht]; exact hP, hD⟩, hS.F ht⟩) hS.2.2 dL_work_16
set_option maxHeartbeats 4000000 in
set_option maxRecDepth 100000 in
theorem eL_goods (l : Launch) (hlt : l.stackTraces = false) (D : va_G) (h : Nat → Nat) (cA cL : ClassId) (M : MM) (hM : OKM M) (ao : Nat) (g : Nat → Int64) (x : Int32) (sz : Nat) : Met l yL_goods wsL_goods ({ frames := 8, cells := 1, slots := 6, locals := 132 } : Room) (va_Pc [.ref (h 0), .int x, .ref ao] (l_pre D cA cL (w0 h cA M ++ wO ao cL g) sz)) (va_Qi (fun (r : Int32) (u : MM × (Nat → Int64)) => l_post (o_row M (m_ln M) (fun i => m_le M i - m_lw M i) x) M r u) (fun u => qW D (va_A (w0 h cA M ++ wO ao cL g) sz) (w0 h cA u.1 ++ wO ao cL u.2)) (va_A (w0 h cA M ++ wO ao cL g) sz)) 1 6 (va_A (w0 h cA M ++ wO ao cL g) sz) := by
  refine va_MetW (cc := cL_goods) (maxL := 4) (ret := (some .int)) (hh := [(0, 9, 12, 21)]) (by decide) rfl ?_
  intro p e s m args below meth c s₁ B hml hv
  obtain ⟨rfl, ⟨⟨hsz, hP, hK, hD0⟩, hE⟩, hN⟩ := hv
  have hx := B.exec
  have hb := B.bytes
  have hr := B.returns
  have hts := atoms_spec (ws := wsL_goods) B.pre
  have hown : s.vm.findClass RL = some m.cls := findClass_of_methodNamed B.named
  have hTab := vx_table (x := yL_goods) B (hts (.codeWith yL_goods cL_goods 4 (some .int) [(0, 9, 12, 21)]) List.mem_cons_self)
  have kc21 := hts (.classLink RL 21 "java/lang/IndexOutOfBoundsException") (by decide +kernel)
  subst hsz
  have hD := hD0.self (sz := s.heap.size)
  generalize hAe : va_A (w0 h cA M ++ wO ao cL g) s.heap.size = A at hD ⊢
  have hA : ∀ q : Nat, s.heap.size ≤ q → A q := fun q h => by rw [← hAe]; exact Or.inr h
  have hS : va_S A s.heap s.heap [] := va_S.rf
  have hP : va_P D vwCl (w0 h cA M ++ wO ao cL g) s.heap := hP
  have hl := lv_entry ([.ref (h 0), .int x, .ref ao]) (n := 4) (Nat.le_of_ble_eq_true rfl)
  rw [lg_entry_eq]
  generalize (lg_sl ([.ref (h 0), .int x, .ref ao]) ++ List.replicate (4 - (lg_sl ([.ref (h 0), .int x, .ref ao])).length) Slot.unset).toArray = ls at hl ⊢
  have hl : lv_has ls 4 [(0, .ref (h 0)), (1, .int x), (2, .ref ao)] := hl
  refine w_abs (fun Q hQ => ?_)
  refine lv_aload_n hx hb dL_goods_0 rfl (lv_at hl 2 rfl) ?_
  refine lv_iconst (v := 0) hx hb dL_goods_1 (by decide) ?_
  refine lv_aload_n hx hb dL_goods_2 rfl (lv_at hl 0 rfl) ?_
  refine lv_iload_n hx hb dL_goods_3 rfl (lv_at hl 1 rfl) ?_
  refine g_calliX (wl := []) (wc := w0 h cA M) (wr := wO ao cL g) (wf := fun u : MM => w0 h cA u) (vx_runV (As := [.int x]) (rest := [.int 0, .ref ao]) ⟨hx, hb, hml, hown, hts⟩ (c0_goods l hlt D h cA M hM x s.heap.size) (cwV 1 hts gL_goods_X0_goods rfl rfl rfl (by decide +kernel) ⟨Nat.le_of_ble_eq_true rfl, Nat.le_of_ble_eq_true rfl⟩) ⟨pE_fb pW_fb, va_recv hK hP (ci := 0) (q0 := 0) rfl rfl, pE_mk rfl (pW_mk (p_left hP) (hK.sub [0] rfl) (d_left hD)) hE⟩ rfl rfl hl.1 rfl (lv_room (Nat.le_of_ble_eq_true rfl)) dL_goods_4 ⟨Nat.le_of_ble_eq_true rfl, Nat.le_of_ble_eq_true rfl⟩) rfl hP hD hS hA (fun E ce q9 H1 locs1 hpx g1 g2 hP1 hS1 hce hcv hcl => ?_) (fun r u H locs qr hP hD hS => ?_)
  · obtain ⟨rfl, hk⟩ := hpx
    refine vx_catch (own := RL) (name := E_io) (E := E_io) hown [] ⟨0, 9, 12, 21⟩ [] (hTab.trans rfl) (fun z hz => absurd hz List.not_mem_nil) (by decide) (by decide) kc21 (va_Nw.use rfl hE.1.1) hce hcv hcl ?_
    refine lv_astore_n (lv' := [(3, .ref q9), (0, .ref (h 0)), (1, .int x), (2, .ref ao)]) hx hb dL_goods_12 rfl hl (by decide) rfl (fun ls hl => ?_)
    refine lv_iconst (v := 1) hx hb dL_goods_13 (by decide) ?_
    subst hQ
    exact W.iret (v := 1) hx hb hr (fun t ht hW => ⟨⟨1, (M, g), rfl, l_no hk (by decide) rfl (by decide), by rw [ht]; exact hP1, hD⟩, hS1.F ht⟩) hS1.2.2 dL_goods_14
  · have hP : va_P D vwCl (w0 h cA u ++ wO ao cL g) H := hP
    have hD : va_D A (w0 h cA u ++ wO ao cL g) := hD
    refine lv_i2l (v := r.toInt64) hx hb dL_goods_7 rfl ?_
    refine va_last (f := g) (x := r.toInt64) hx hb hK hP hD hS 12 1 rfl rfl (vp_in_nI (n := 0) (N := 1) (by decide) (by decide)) dL_goods_8 (fun H locs hP hD hS => ?_)
    have hP : va_P D vwCl (w0 h cA u ++ wO ao cL (vp_updL g 0 r.toInt64)) H := hP
    have hD : va_D A (w0 h cA u ++ wO ao cL (vp_updL g 0 r.toInt64)) := hD
    refine lv_goto (tgt := 15) hx hb dL_goods_9 (by decide) ?_
    refine lv_iconst (v := 0) hx hb dL_goods_15 (by decide) ?_
    subst hQ
    exact W.iret (v := 0) hx hb hr (fun t ht hW => ⟨⟨0, (u, vp_updL g 0 r.toInt64), rfl, l_ok qr, by rw [ht]; exact hP, hD⟩, hS.F ht⟩) hS.2.2 dL_goods_16
set_option maxHeartbeats 4000000 in
set_option maxRecDepth 100000 in
theorem eL_billed (l : Launch) (hlt : l.stackTraces = false) (D : va_G) (h : Nat → Nat) (cA cL : ClassId) (M : MM) (hM : OKM M) (ao : Nat) (g : Nat → Int64) (x : Int32) (sz : Nat) : Met l yL_billed wsL_billed ({ frames := 8, cells := 1, slots := 6, locals := 132 } : Room) (va_Pc [.ref (h 0), .int x, .ref ao] (l_pre D cA cL (w0 h cA M ++ wO ao cL g) sz)) (va_Qi (fun (r : Int32) (u : MM × (Nat → Int64)) => l_post (o_row M (m_ln M) (m_lb M) x) M r u) (fun u => qW D (va_A (w0 h cA M ++ wO ao cL g) sz) (w0 h cA u.1 ++ wO ao cL u.2)) (va_A (w0 h cA M ++ wO ao cL g) sz)) 1 6 (va_A (w0 h cA M ++ wO ao cL g) sz) := by
  refine va_MetW (cc := cL_billed) (maxL := 4) (ret := (some .int)) (hh := [(0, 9, 12, 21)]) (by decide) rfl ?_
  intro p e s m args below meth c s₁ B hml hv
  obtain ⟨rfl, ⟨⟨hsz, hP, hK, hD0⟩, hE⟩, hN⟩ := hv
  have hx := B.exec
  have hb := B.bytes
  have hr := B.returns
  have hts := atoms_spec (ws := wsL_billed) B.pre
  have hown : s.vm.findClass RL = some m.cls := findClass_of_methodNamed B.named
  have hTab := vx_table (x := yL_billed) B (hts (.codeWith yL_billed cL_billed 4 (some .int) [(0, 9, 12, 21)]) List.mem_cons_self)
  have kc21 := hts (.classLink RL 21 "java/lang/IndexOutOfBoundsException") (by decide +kernel)
  subst hsz
  have hD := hD0.self (sz := s.heap.size)
  generalize hAe : va_A (w0 h cA M ++ wO ao cL g) s.heap.size = A at hD ⊢
  have hA : ∀ q : Nat, s.heap.size ≤ q → A q := fun q h => by rw [← hAe]; exact Or.inr h
  have hS : va_S A s.heap s.heap [] := va_S.rf
  have hP : va_P D vwCl (w0 h cA M ++ wO ao cL g) s.heap := hP
  have hl := lv_entry ([.ref (h 0), .int x, .ref ao]) (n := 4) (Nat.le_of_ble_eq_true rfl)
  rw [lg_entry_eq]
  generalize (lg_sl ([.ref (h 0), .int x, .ref ao]) ++ List.replicate (4 - (lg_sl ([.ref (h 0), .int x, .ref ao])).length) Slot.unset).toArray = ls at hl ⊢
  have hl : lv_has ls 4 [(0, .ref (h 0)), (1, .int x), (2, .ref ao)] := hl
  refine w_abs (fun Q hQ => ?_)
  refine lv_aload_n hx hb dL_billed_0 rfl (lv_at hl 2 rfl) ?_
  refine lv_iconst (v := 0) hx hb dL_billed_1 (by decide) ?_
  refine lv_aload_n hx hb dL_billed_2 rfl (lv_at hl 0 rfl) ?_
  refine lv_iload_n hx hb dL_billed_3 rfl (lv_at hl 1 rfl) ?_
  refine g_calliX (wl := []) (wc := w0 h cA M) (wr := wO ao cL g) (wf := fun u : MM => w0 h cA u) (vx_runV (As := [.int x]) (rest := [.int 0, .ref ao]) ⟨hx, hb, hml, hown, hts⟩ (c0_billed l hlt D h cA M hM x s.heap.size) (cwV 1 hts gL_billed_X0_billed rfl rfl rfl (by decide +kernel) ⟨Nat.le_of_ble_eq_true rfl, Nat.le_of_ble_eq_true rfl⟩) ⟨pE_fb pW_fb, va_recv hK hP (ci := 0) (q0 := 0) rfl rfl, pE_mk rfl (pW_mk (p_left hP) (hK.sub [0] rfl) (d_left hD)) hE⟩ rfl rfl hl.1 rfl (lv_room (Nat.le_of_ble_eq_true rfl)) dL_billed_4 ⟨Nat.le_of_ble_eq_true rfl, Nat.le_of_ble_eq_true rfl⟩) rfl hP hD hS hA (fun E ce q9 H1 locs1 hpx g1 g2 hP1 hS1 hce hcv hcl => ?_) (fun r u H locs qr hP hD hS => ?_)
  · obtain ⟨rfl, hk⟩ := hpx
    refine vx_catch (own := RL) (name := E_io) (E := E_io) hown [] ⟨0, 9, 12, 21⟩ [] (hTab.trans rfl) (fun z hz => absurd hz List.not_mem_nil) (by decide) (by decide) kc21 (va_Nw.use rfl hE.1.1) hce hcv hcl ?_
    refine lv_astore_n (lv' := [(3, .ref q9), (0, .ref (h 0)), (1, .int x), (2, .ref ao)]) hx hb dL_billed_12 rfl hl (by decide) rfl (fun ls hl => ?_)
    refine lv_iconst (v := 1) hx hb dL_billed_13 (by decide) ?_
    subst hQ
    exact W.iret (v := 1) hx hb hr (fun t ht hW => ⟨⟨1, (M, g), rfl, l_no hk (by decide) rfl (by decide), by rw [ht]; exact hP1, hD⟩, hS1.F ht⟩) hS1.2.2 dL_billed_14
  · have hP : va_P D vwCl (w0 h cA u ++ wO ao cL g) H := hP
    have hD : va_D A (w0 h cA u ++ wO ao cL g) := hD
    refine lv_i2l (v := r.toInt64) hx hb dL_billed_7 rfl ?_
    refine va_last (f := g) (x := r.toInt64) hx hb hK hP hD hS 12 1 rfl rfl (vp_in_nI (n := 0) (N := 1) (by decide) (by decide)) dL_billed_8 (fun H locs hP hD hS => ?_)
    have hP : va_P D vwCl (w0 h cA u ++ wO ao cL (vp_updL g 0 r.toInt64)) H := hP
    have hD : va_D A (w0 h cA u ++ wO ao cL (vp_updL g 0 r.toInt64)) := hD
    refine lv_goto (tgt := 15) hx hb dL_billed_9 (by decide) ?_
    refine lv_iconst (v := 0) hx hb dL_billed_15 (by decide) ?_
    subst hQ
    exact W.iret (v := 0) hx hb hr (fun t ht hW => ⟨⟨0, (u, vp_updL g 0 r.toInt64), rfl, l_ok qr, by rw [ht]; exact hP, hD⟩, hS.F ht⟩) hS.2.2 dL_billed_16
set_option maxHeartbeats 4000000 in
set_option maxRecDepth 100000 in
theorem eL_held (l : Launch) (hlt : l.stackTraces = false) (D : va_G) (h : Nat → Nat) (cA cL : ClassId) (M : MM) (hM : OKM M) (ao : Nat) (g : Nat → Int64) (x : Int32) (sz : Nat) : Met l yL_held wsL_held ({ frames := 8, cells := 1, slots := 6, locals := 132 } : Room) (va_Pc [.ref (h 0), .int x, .ref ao] (l_pre D cA cL (w0 h cA M ++ wO ao cL g) sz)) (va_Qi (fun (r : Int32) (u : MM × (Nat → Int64)) => l_post (o_row M (m_ln M) (m_lh M) x) M r u) (fun u => qW D (va_A (w0 h cA M ++ wO ao cL g) sz) (w0 h cA u.1 ++ wO ao cL u.2)) (va_A (w0 h cA M ++ wO ao cL g) sz)) 1 6 (va_A (w0 h cA M ++ wO ao cL g) sz) := by
  refine va_MetW (cc := cL_held) (maxL := 4) (ret := (some .int)) (hh := [(0, 9, 12, 21)]) (by decide) rfl ?_
  intro p e s m args below meth c s₁ B hml hv
  obtain ⟨rfl, ⟨⟨hsz, hP, hK, hD0⟩, hE⟩, hN⟩ := hv
  have hx := B.exec
  have hb := B.bytes
  have hr := B.returns
  have hts := atoms_spec (ws := wsL_held) B.pre
  have hown : s.vm.findClass RL = some m.cls := findClass_of_methodNamed B.named
  have hTab := vx_table (x := yL_held) B (hts (.codeWith yL_held cL_held 4 (some .int) [(0, 9, 12, 21)]) List.mem_cons_self)
  have kc21 := hts (.classLink RL 21 "java/lang/IndexOutOfBoundsException") (by decide +kernel)
  subst hsz
  have hD := hD0.self (sz := s.heap.size)
  generalize hAe : va_A (w0 h cA M ++ wO ao cL g) s.heap.size = A at hD ⊢
  have hA : ∀ q : Nat, s.heap.size ≤ q → A q := fun q h => by rw [← hAe]; exact Or.inr h
  have hS : va_S A s.heap s.heap [] := va_S.rf
  have hP : va_P D vwCl (w0 h cA M ++ wO ao cL g) s.heap := hP
  have hl := lv_entry ([.ref (h 0), .int x, .ref ao]) (n := 4) (Nat.le_of_ble_eq_true rfl)
  rw [lg_entry_eq]
  generalize (lg_sl ([.ref (h 0), .int x, .ref ao]) ++ List.replicate (4 - (lg_sl ([.ref (h 0), .int x, .ref ao])).length) Slot.unset).toArray = ls at hl ⊢
  have hl : lv_has ls 4 [(0, .ref (h 0)), (1, .int x), (2, .ref ao)] := hl
  refine w_abs (fun Q hQ => ?_)
  refine lv_aload_n hx hb dL_held_0 rfl (lv_at hl 2 rfl) ?_
  refine lv_iconst (v := 0) hx hb dL_held_1 (by decide) ?_
  refine lv_aload_n hx hb dL_held_2 rfl (lv_at hl 0 rfl) ?_
  refine lv_iload_n hx hb dL_held_3 rfl (lv_at hl 1 rfl) ?_
  refine g_calliX (wl := []) (wc := w0 h cA M) (wr := wO ao cL g) (wf := fun u : MM => w0 h cA u) (vx_runV (As := [.int x]) (rest := [.int 0, .ref ao]) ⟨hx, hb, hml, hown, hts⟩ (c0_held l hlt D h cA M hM x s.heap.size) (cwV 1 hts gL_held_X0_held rfl rfl rfl (by decide +kernel) ⟨Nat.le_of_ble_eq_true rfl, Nat.le_of_ble_eq_true rfl⟩) ⟨pE_fb pW_fb, va_recv hK hP (ci := 0) (q0 := 0) rfl rfl, pE_mk rfl (pW_mk (p_left hP) (hK.sub [0] rfl) (d_left hD)) hE⟩ rfl rfl hl.1 rfl (lv_room (Nat.le_of_ble_eq_true rfl)) dL_held_4 ⟨Nat.le_of_ble_eq_true rfl, Nat.le_of_ble_eq_true rfl⟩) rfl hP hD hS hA (fun E ce q9 H1 locs1 hpx g1 g2 hP1 hS1 hce hcv hcl => ?_) (fun r u H locs qr hP hD hS => ?_)
  · obtain ⟨rfl, hk⟩ := hpx
    refine vx_catch (own := RL) (name := E_io) (E := E_io) hown [] ⟨0, 9, 12, 21⟩ [] (hTab.trans rfl) (fun z hz => absurd hz List.not_mem_nil) (by decide) (by decide) kc21 (va_Nw.use rfl hE.1.1) hce hcv hcl ?_
    refine lv_astore_n (lv' := [(3, .ref q9), (0, .ref (h 0)), (1, .int x), (2, .ref ao)]) hx hb dL_held_12 rfl hl (by decide) rfl (fun ls hl => ?_)
    refine lv_iconst (v := 1) hx hb dL_held_13 (by decide) ?_
    subst hQ
    exact W.iret (v := 1) hx hb hr (fun t ht hW => ⟨⟨1, (M, g), rfl, l_no hk (by decide) rfl (by decide), by rw [ht]; exact hP1, hD⟩, hS1.F ht⟩) hS1.2.2 dL_held_14
  · have hP : va_P D vwCl (w0 h cA u ++ wO ao cL g) H := hP
    have hD : va_D A (w0 h cA u ++ wO ao cL g) := hD
    refine lv_i2l (v := r.toInt64) hx hb dL_held_7 rfl ?_
    refine va_last (f := g) (x := r.toInt64) hx hb hK hP hD hS 12 1 rfl rfl (vp_in_nI (n := 0) (N := 1) (by decide) (by decide)) dL_held_8 (fun H locs hP hD hS => ?_)
    have hP : va_P D vwCl (w0 h cA u ++ wO ao cL (vp_updL g 0 r.toInt64)) H := hP
    have hD : va_D A (w0 h cA u ++ wO ao cL (vp_updL g 0 r.toInt64)) := hD
    refine lv_goto (tgt := 15) hx hb dL_held_9 (by decide) ?_
    refine lv_iconst (v := 0) hx hb dL_held_15 (by decide) ?_
    subst hQ
    exact W.iret (v := 0) hx hb hr (fun t ht hW => ⟨⟨0, (u, vp_updL g 0 r.toInt64), rfl, l_ok qr, by rw [ht]; exact hP, hD⟩, hS.F ht⟩) hS.2.2 dL_held_16
set_option maxHeartbeats 4000000 in
set_option maxRecDepth 100000 in
theorem eL_lineByShare (l : Launch) (hlt : l.stackTraces = false) (D : va_G) (h : Nat → Nat) (cA cL : ClassId) (M : MM) (hM : OKM M) (ao : Nat) (g : Nat → Int64) (x : Int32) (sz : Nat) : Met l yL_lineByShare wsL_lineByShare ({ frames := 8, cells := 1, slots := 6, locals := 133 } : Room) (va_Pc [.ref (h 0), .int x, .ref ao] (l_pre D cA cL (w0 h cA M ++ wO ao cL g) sz)) (va_Qi (fun (r : Int32) (u : MM × (Nat → Int64)) => l_post (x_lbs M x) M r u) (fun u => qW D (va_A (w0 h cA M ++ wO ao cL g) sz) (w0 h cA u.1 ++ wO ao cL u.2)) (va_A (w0 h cA M ++ wO ao cL g) sz)) 1 6 (va_A (w0 h cA M ++ wO ao cL g) sz) := by
  refine va_MetW (cc := cL_lineByShare) (maxL := 4) (ret := (some .int)) (hh := [(0, 9, 12, 21)]) (by decide) rfl ?_
  intro p e s m args below meth c s₁ B hml hv
  obtain ⟨rfl, ⟨⟨hsz, hP, hK, hD0⟩, hE⟩, hN⟩ := hv
  have hx := B.exec
  have hb := B.bytes
  have hr := B.returns
  have hts := atoms_spec (ws := wsL_lineByShare) B.pre
  have hown : s.vm.findClass RL = some m.cls := findClass_of_methodNamed B.named
  have hTab := vx_table (x := yL_lineByShare) B (hts (.codeWith yL_lineByShare cL_lineByShare 4 (some .int) [(0, 9, 12, 21)]) List.mem_cons_self)
  have kc21 := hts (.classLink RL 21 "java/lang/IndexOutOfBoundsException") (by decide +kernel)
  subst hsz
  have hD := hD0.self (sz := s.heap.size)
  generalize hAe : va_A (w0 h cA M ++ wO ao cL g) s.heap.size = A at hD ⊢
  have hA : ∀ q : Nat, s.heap.size ≤ q → A q := fun q h => by rw [← hAe]; exact Or.inr h
  have hS : va_S A s.heap s.heap [] := va_S.rf
  have hP : va_P D vwCl (w0 h cA M ++ wO ao cL g) s.heap := hP
  have hl := lv_entry ([.ref (h 0), .int x, .ref ao]) (n := 4) (Nat.le_of_ble_eq_true rfl)
  rw [lg_entry_eq]
  generalize (lg_sl ([.ref (h 0), .int x, .ref ao]) ++ List.replicate (4 - (lg_sl ([.ref (h 0), .int x, .ref ao])).length) Slot.unset).toArray = ls at hl ⊢
  have hl : lv_has ls 4 [(0, .ref (h 0)), (1, .int x), (2, .ref ao)] := hl
  refine w_abs (fun Q hQ => ?_)
  refine lv_aload_n hx hb dL_lineByShare_0 rfl (lv_at hl 2 rfl) ?_
  refine lv_iconst (v := 0) hx hb dL_lineByShare_1 (by decide) ?_
  refine lv_aload_n hx hb dL_lineByShare_2 rfl (lv_at hl 0 rfl) ?_
  refine lv_iload_n hx hb dL_lineByShare_3 rfl (lv_at hl 1 rfl) ?_
  refine g_calliX (wl := []) (wc := w0 h cA M) (wr := wO ao cL g) (wf := fun u : MM => w0 h cA u) (vx_runV (As := [.int x]) (rest := [.int 0, .ref ao]) ⟨hx, hb, hml, hown, hts⟩ (c0_lineByShare l hlt D h cA M hM x s.heap.size) (cwV 1 hts gL_lineByShare_X0_lineByShare rfl rfl rfl (by decide +kernel) ⟨Nat.le_of_ble_eq_true rfl, Nat.le_of_ble_eq_true rfl⟩) ⟨pE_fb pW_fb, va_recv hK hP (ci := 0) (q0 := 0) rfl rfl, pE_mk rfl (pW_mk (p_left hP) (hK.sub [0] rfl) (d_left hD)) hE⟩ rfl rfl hl.1 rfl (lv_room (Nat.le_of_ble_eq_true rfl)) dL_lineByShare_4 ⟨Nat.le_of_ble_eq_true rfl, Nat.le_of_ble_eq_true rfl⟩) rfl hP hD hS hA (fun E ce q9 H1 locs1 hpx g1 g2 hP1 hS1 hce hcv hcl => ?_) (fun r u H locs qr hP hD hS => ?_)
  · obtain ⟨rfl, hk⟩ := hpx
    refine vx_catch (own := RL) (name := E_io) (E := E_io) hown [] ⟨0, 9, 12, 21⟩ [] (hTab.trans rfl) (fun z hz => absurd hz List.not_mem_nil) (by decide) (by decide) kc21 (va_Nw.use rfl hE.1.1) hce hcv hcl ?_
    refine lv_astore_n (lv' := [(3, .ref q9), (0, .ref (h 0)), (1, .int x), (2, .ref ao)]) hx hb dL_lineByShare_12 rfl hl (by decide) rfl (fun ls hl => ?_)
    refine lv_iconst (v := 1) hx hb dL_lineByShare_13 (by decide) ?_
    subst hQ
    exact W.iret (v := 1) hx hb hr (fun t ht hW => ⟨⟨1, (M, g), rfl, l_no hk (by decide) rfl (by decide), by rw [ht]; exact hP1, hD⟩, hS1.F ht⟩) hS1.2.2 dL_lineByShare_14
  · have hP : va_P D vwCl (w0 h cA u ++ wO ao cL g) H := hP
    have hD : va_D A (w0 h cA u ++ wO ao cL g) := hD
    refine lv_i2l (v := r.toInt64) hx hb dL_lineByShare_7 rfl ?_
    refine va_last (f := g) (x := r.toInt64) hx hb hK hP hD hS 12 1 rfl rfl (vp_in_nI (n := 0) (N := 1) (by decide) (by decide)) dL_lineByShare_8 (fun H locs hP hD hS => ?_)
    have hP : va_P D vwCl (w0 h cA u ++ wO ao cL (vp_updL g 0 r.toInt64)) H := hP
    have hD : va_D A (w0 h cA u ++ wO ao cL (vp_updL g 0 r.toInt64)) := hD
    refine lv_goto (tgt := 15) hx hb dL_lineByShare_9 (by decide) ?_
    refine lv_iconst (v := 0) hx hb dL_lineByShare_15 (by decide) ?_
    subst hQ
    exact W.iret (v := 0) hx hb hr (fun t ht hW => ⟨⟨0, (u, vp_updL g 0 r.toInt64), rfl, l_ok qr, by rw [ht]; exact hP, hD⟩, hS.F ht⟩) hS.2.2 dL_lineByShare_16
