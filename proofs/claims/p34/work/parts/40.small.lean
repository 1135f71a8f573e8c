/-! THE LAW'S SMALL METHODS where the class refuses: one new cell each, no old one is written -/
abbrev M0 : MM := m0 z0
theorem ok0 : OKM M0 := ⟨by decide, by decide, by decide, by decide⟩
/-- so many cells are new at least -/
def tN (sz n : Nat) : Unit → State → Prop := fun _ t => sz + n ≤ t.heap.size
section REF
variable {p : Program} {l : Launch} {e : Env} {R : Room} {s : State} {m : MethodId} {args : Array Value} {below : List Frame} {meth : Method} {c : Code} {H : Heap} {locs : List Loc} {cells slots : Nat} {Q : State → Prop}
variable {mc ms : Nat} {A0 : Nat → Prop} {D : va_G} {a : Array Value} {pc : Nat} {ls : Array Slot} {st0 rest : List Value}
theorem st_clean {T : State} (X : Stand p l e R s m args below meth c T locs cells slots) (h : ∀ q : Nat, q < s.heap.size → T.heap[q]? = s.heap[q]?) : Stand p l e R s m args below meth c T [] cells slots := by
  obtain ⟨a1, a2, a3, a4, a5, a6⟩ := X.same
  refine { X with same := ⟨a1, a2, a3, a4, a5, fun a9 c9 hc9 => ⟨c9, ?_, rfl, rfl, fun i _ => rfl⟩⟩ }
  exact (h a9 (Array.getElem?_eq_some_iff.mp hc9).1).trans hc9
theorem w_clean {g : JFrame} (h : ∀ q : Nat, q < s.heap.size → H[q]? = s.heap[q]?) (kk : W p l e R s m args below meth c H [] cells slots Q g) : W p l e R s m args below meth c H locs cells slots Q g := fun T hT X => kk T hT (st_clean X (fun q hq => by rw [hT]; exact h q hq))
theorem w_cleanX {g : JFrame} {q9 : Addr} (h : ∀ q : Nat, q < s.heap.size → H[q]? = s.heap[q]?) (kk : vx_W p l e R s m args below meth c H [] cells slots Q g q9) : vx_W p l e R s m args below meth c H locs cells slots Q g q9 := fun T hT X => kk T hT (st_clean X (fun q hq => by rw [hT]; exact h q hq))
theorem nA_no {sz q : Nat} (h : q < sz) : ¬ va_A ([] : va_W) sz q := fun z => z.elim (fun ⟨k9, e9, h9⟩ => by simp at h9) (fun z => absurd h (Nat.not_lt.mpr z))
theorem nA_of {sz q : Nat} (z : va_A ([] : va_W) sz q) : sz ≤ q := z.elim (fun ⟨k9, e9, h9⟩ => by simp at h9) id
/-- a callee that makes n cells at least and writes no old one -/
theorem g_new {n k : Nat} {post : Int32 → Prop} {ws : va_W} (hr : va_Run p l e R s m args below meth c H locs cells slots mc ms (F0 m pc ls st0) rest (va_Qi (fun (r : Int32) (_ : Unit) => post r) (tN H.size n) (va_A [] H.size) a) (va_A [] H.size))
    (hP : va_P D vwCl ws H) (hS : va_S A0 s.heap H locs) (hA : ∀ q, s.heap.size ≤ q → A0 q) (hG : s.heap.size + k ≤ H.size)
    (kk : ∀ (r : Int32) (H : Heap) (locs : List Loc), post r → va_P D vwCl ws H → va_S A0 s.heap H locs → s.heap.size + (k + n) ≤ H.size → W p l e R s m args below meth c H locs (cells + mc) (slots + ms) Q (F0 m (pc + 3) ls (.int r :: rest))) : W p l e R s m args below meth c H locs cells slots Q (F0 m pc ls st0) := by
  have hF : ∀ q, va_A ([] : va_W) H.size q → A0 q := fun q h => hA q (Nat.le_trans hS.1 (nA_of h))
  refine va_calli hr hS (fun q _ h => hF q h) hF (fun r u t H1 locs1 ht hvm hw hB hz hk hS1 => ?_)
  have hB : H.size + n ≤ t.heap.size := hB
  rw [ht] at hB
  exact kk r H1 locs1 hw (g_growP hP (fun q hq => hk q hq (nA_no hq))) hS1 (by omega)
end REF
theorem e_mk {D : va_G} {cA : ClassId} {wc : va_W} {av : List Value} {s : State} {H : Heap} {A0 : Nat → Prop} {locs : List Loc} (hP : va_P D vwCl wc H) (hK : va_K D vwCl [(cA, .int)] s) (hD : va_D A0 wc) (hE : x_En s) (hS : va_S (va_A [] s.heap.size) s.heap H locs) : ∀ U : State, U.heap = H → s.WarmedH U.vm → va_Pc av (fun U => pW D [(cA, .int)] wc H.size U ∧ x_En U) av.toArray U := fun U hU hW =>
  ⟨rfl, (pW_mk (av := av) hP hK hD U hU hW).2, hE.1.warm hW, by rw [hU]; exact (hE.2.kept (fun a h1 _ => hS.2.1 a h1 (nA_no h1))).moved hW.alike⟩
theorem e_mkL {D : va_G} {cA : ClassId} {wc : va_W} {av : List Value} {s : State} {H : Heap} {A A0 : Nat → Prop} {locs : List Loc} (hP : va_P D vwCl wc H) (hK : va_K D vwCl [(cA, .int)] s) (hD : va_D A0 wc) (hE : x_Ev s) (hZ : x_Zz A s s.heap) (hS : va_S A s.heap H locs) : ∀ U : State, U.heap = H → s.WarmedH U.vm → va_Pc av (fun U => pW D [(cA, .int)] wc H.size U ∧ x_En U) av.toArray U := fun U hU hW =>
  ⟨rfl, (pW_mk (av := av) hP hK hD U hU hW).2, hE.warm hW, by rw [hU]; exact ((hZ.kept hS.2.1).narrow (fun _ h => h.elim)).moved hW.alike⟩
set_option maxHeartbeats 4000000 in
set_option maxRecDepth 100000 in
theorem eL_adds (l : Launch) (hlt : l.stackTraces = false) (D : va_G) (h : Nat → Nat) (cA : ClassId) (v : Int32) (hv9 : (o_addLine M0 v).1 = 1) (sz : Nat) : Met l yL_adds wsL_adds ({ frames := 8, cells := 1, slots := 6, locals := 134 } : Room) (va_Pc [.ref (h 0), .int v] (fun U => pW D [(cA, .int)] (w0 h cA M0) sz U ∧ x_En U)) (va_Qi (fun (r : Int32) (_ : Unit) => r = (-2000000002)) (tN sz 1) (va_A [] sz)) 1 6 (va_A [] sz) := by
  refine va_MetW (cc := cL_adds) (maxL := 3) (ret := (some .int)) (hh := [(0, 5, 6, 13), (0, 5, 10, 16)]) (by decide) rfl ?_
  intro p e s m args below meth c s₁ B hml hv
  obtain ⟨rfl, ⟨hsz, hP, hK, hD0⟩, hE⟩ := hv
  have hx := B.exec
  have hb := B.bytes
  have hr := B.returns
  have hts := atoms_spec (ws := wsL_adds) B.pre
  have hown : s.vm.findClass RL = some m.cls := findClass_of_methodNamed B.named
  have hTab := vx_table (x := yL_adds) B (hts (.codeWith yL_adds cL_adds 3 (some .int) [(0, 5, 6, 13), (0, 5, 10, 16)]) List.mem_cons_self)
  have kc0 := hts (.classLink RL 13 "java/lang/IllegalArgumentException") (by decide +kernel)
  have kw0 := hts (.constant RL 15 (-2000000002)) (by decide +kernel)
  subst hsz
  have hD := hD0.self (sz := s.heap.size)
  have hA : ∀ q : Nat, s.heap.size ≤ q → va_A (w0 h cA M0) s.heap.size q := fun q h => Or.inr h
  have hS : va_S (va_A (w0 h cA M0) s.heap.size) s.heap s.heap [] := va_S.rf
  have hl := lv_entry ([.ref (h 0), .int v]) (n := 3) (Nat.le_of_ble_eq_true rfl)
  rw [lg_entry_eq]
  generalize (lg_sl ([.ref (h 0), .int v]) ++ List.replicate (3 - (lg_sl ([.ref (h 0), .int v])).length) Slot.unset).toArray = ls at hl ⊢
  have hl : lv_has ls 3 [(0, .ref (h 0)), (1, .int v)] := hl
  refine w_abs (fun Q hQ => ?_)
  refine lv_aload_n hx hb dL_adds_0 rfl (lv_at hl 0 rfl) ?_
  refine lv_iload_n hx hb dL_adds_1 rfl (lv_at hl 1 rfl) ?_
  refine g_calliX (wl := []) (wc := w0 h cA M0) (wr := []) (wf := fun u : MM => w0 h cA u) (vx_runV (As := [.int v]) (rest := []) ⟨hx, hb, hml, hown, hts⟩ (c0_addLine l hlt D h cA M0 ok0 v s.heap.size) (cwV 1 hts gL_adds_X0_addLine rfl rfl rfl (by decide +kernel) ⟨Nat.le_of_ble_eq_true rfl, Nat.le_of_ble_eq_true rfl⟩) ⟨pE_fb pW_fb, va_recv hK hP (ci := 0) (q0 := 0) rfl rfl, pE_mk rfl (pW_mk hP hK hD) hE⟩ rfl rfl hl.1 rfl (lv_room (Nat.le_of_ble_eq_true rfl)) dL_adds_2 ⟨Nat.le_of_ble_eq_true rfl, Nat.le_of_ble_eq_true rfl⟩) (List.append_nil _).symm hP hD hS hA (fun E ce q9 H1 locs1 hpx g1 g2 hP1 hS1 hce hcv hcl => ?_) (fun r u H locs qr hP hD hS => ?_)
  · rcases hpx with ⟨rfl, hk⟩ | ⟨rfl, hk⟩
    · refine vx_catch (own := RL) (name := E_ia) (E := E_ia) hown [] ⟨0, 5, 6, 13⟩ [⟨0, 5, 10, 16⟩] (hTab.trans rfl) (fun z hz => absurd hz List.not_mem_nil) (by decide) (by decide) kc0 (va_Nw.use rfl hE.1.2.1) hce hcv hcl ?_
      refine w_clean g2 ?_
      have hS9 : va_S (va_A [] s.heap.size) s.heap H1 [] := ⟨Nat.le_of_succ_le g1, fun q h1 _ => g2 q h1, fun _ h => by cases h⟩
      refine lv_astore_n (lv' := [(2, .ref q9), (0, .ref (h 0)), (1, .int v)]) hx hb dL_adds_6 rfl hl (by decide) rfl (fun ls hl => ?_)
      refine lv_ldc hx hb hown kw0 dL_adds_7 ?_
      subst hQ
      exact W.iret (v := (-2000000002)) hx hb hr (fun t ht hW => ⟨⟨(-2000000002), (), rfl, rfl, by unfold tN; rw [ht]; exact g1⟩, hS9.F ht⟩) hS9.2.2 dL_adds_9
    · exact absurd (hv9.symm.trans hk) (by decide)
  · rw [qr] at hv9
    exact absurd (show (0 : Nat) = 1 from hv9) (by decide)
set_option maxHeartbeats 4000000 in
set_option maxRecDepth 100000 in
theorem eL_changes (l : Launch) (hlt : l.stackTraces = false) (D : va_G) (h : Nat → Nat) (cA : ClassId) (x v : Int32) (hv9 : (o_changeValue M0 x v).1 = 1) (sz : Nat) : Met l yL_changes wsL_changes ({ frames := 8, cells := 1, slots := 6, locals := 135 } : Room) (va_Pc [.ref (h 0), .int x, .int v] (fun U => pW D [(cA, .int)] (w0 h cA M0) sz U ∧ x_En U)) (va_Qi (fun (r : Int32) (_ : Unit) => r = (-2000000001)) (tN sz 1) (va_A [] sz)) 1 6 (va_A [] sz) := by
  refine va_MetW (cc := cL_changes) (maxL := 4) (ret := (some .int)) (hh := [(0, 6, 7, 23), (0, 6, 11, 13), (0, 6, 15, 16)]) (by decide) rfl ?_
  intro p e s m args below meth c s₁ B hml hv
  obtain ⟨rfl, ⟨hsz, hP, hK, hD0⟩, hE⟩ := hv
  have hx := B.exec
  have hb := B.bytes
  have hr := B.returns
  have hts := atoms_spec (ws := wsL_changes) B.pre
  have hown : s.vm.findClass RL = some m.cls := findClass_of_methodNamed B.named
  have hTab := vx_table (x := yL_changes) B (hts (.codeWith yL_changes cL_changes 4 (some .int) [(0, 6, 7, 23), (0, 6, 11, 13), (0, 6, 15, 16)]) List.mem_cons_self)
  have kc0 := hts (.classLink RL 23 "java/lang/IndexOutOfBoundsException") (by decide +kernel)
  have kw0 := hts (.constant RL 25 (-2000000001)) (by decide +kernel)
  subst hsz
  have hD := hD0.self (sz := s.heap.size)
  have hA : ∀ q : Nat, s.heap.size ≤ q → va_A (w0 h cA M0) s.heap.size q := fun q h => Or.inr h
  have hS : va_S (va_A (w0 h cA M0) s.heap.size) s.heap s.heap [] := va_S.rf
  have hl := lv_entry ([.ref (h 0), .int x, .int v]) (n := 4) (Nat.le_of_ble_eq_true rfl)
  rw [lg_entry_eq]
  generalize (lg_sl ([.ref (h 0), .int x, .int v]) ++ List.replicate (4 - (lg_sl ([.ref (h 0), .int x, .int v])).length) Slot.unset).toArray = ls at hl ⊢
  have hl : lv_has ls 4 [(0, .ref (h 0)), (1, .int x), (2, .int v)] := hl
  refine w_abs (fun Q hQ => ?_)
  refine lv_aload_n hx hb dL_changes_0 rfl (lv_at hl 0 rfl) ?_
  refine lv_iload_n hx hb dL_changes_1 rfl (lv_at hl 1 rfl) ?_
  refine lv_iload_n hx hb dL_changes_2 rfl (lv_at hl 2 rfl) ?_
  refine g_calliX (wl := []) (wc := w0 h cA M0) (wr := []) (wf := fun u : MM => w0 h cA u) (vx_runV (As := [.int x, .int v]) (rest := []) ⟨hx, hb, hml, hown, hts⟩ (c0_changeValue l hlt D h cA M0 ok0 x v s.heap.size) (cwV 2 hts gL_changes_X0_changeValue rfl rfl rfl (by decide +kernel) ⟨Nat.le_of_ble_eq_true rfl, Nat.le_of_ble_eq_true rfl⟩) ⟨pE_fb pW_fb, va_recv hK hP (ci := 0) (q0 := 0) rfl rfl, pE_mk rfl (pW_mk hP hK hD) hE⟩ rfl rfl hl.1 rfl (lv_room (Nat.le_of_ble_eq_true rfl)) dL_changes_3 ⟨Nat.le_of_ble_eq_true rfl, Nat.le_of_ble_eq_true rfl⟩) (List.append_nil _).symm hP hD hS hA (fun E ce q9 H1 locs1 hpx g1 g2 hP1 hS1 hce hcv hcl => ?_) (fun r u H locs qr hP hD hS => ?_)
  · rcases hpx with ⟨rfl, hk⟩ | ⟨rfl, hk⟩ | ⟨rfl, hk⟩
    · refine vx_catch (own := RL) (name := E_io) (E := E_io) hown [] ⟨0, 6, 7, 23⟩ [⟨0, 6, 11, 13⟩, ⟨0, 6, 15, 16⟩] (hTab.trans rfl) (fun z hz => absurd hz List.not_mem_nil) (by decide) (by decide) kc0 (va_Nw.use rfl hE.1.1) hce hcv hcl ?_
      refine w_clean g2 ?_
      have hS9 : va_S (va_A [] s.heap.size) s.heap H1 [] := ⟨Nat.le_of_succ_le g1, fun q h1 _ => g2 q h1, fun _ h => by cases h⟩
      refine lv_astore_n (lv' := [(3, .ref q9), (0, .ref (h 0)), (1, .int x), (2, .int v)]) hx hb dL_changes_7 rfl hl (by decide) rfl (fun ls hl => ?_)
      refine lv_ldc hx hb hown kw0 dL_changes_8 ?_
      subst hQ
      exact W.iret (v := (-2000000001)) hx hb hr (fun t ht hW => ⟨⟨(-2000000001), (), rfl, rfl, by unfold tN; rw [ht]; exact g1⟩, hS9.F ht⟩) hS9.2.2 dL_changes_10
    · exact absurd (hv9.symm.trans hk) (by decide)
    · exact absurd (hv9.symm.trans hk) (by decide)
  · rw [qr] at hv9
    exact absurd (show (0 : Nat) = 1 from hv9) (by decide)
set_option maxHeartbeats 4000000 in
set_option maxRecDepth 100000 in
theorem eL_splits (l : Launch) (hlt : l.stackTraces = false) (D : va_G) (h : Nat → Nat) (cA : ClassId) (x p9 : Int32) (hv9 : (x_split M0 x p9).1 = 1) (sz : Nat) : Met l yL_splits wsL_splits ({ frames := 8, cells := 1, slots := 6, locals := 136 } : Room) (va_Pc [.ref (h 0), .int x, .int p9] (fun U => pW D [(cA, .int)] (w0 h cA M0) sz U ∧ x_En U)) (va_Qi (fun (r : Int32) (_ : Unit) => r = (-2000000001)) (tN sz 1) (va_A [] sz)) 1 6 (va_A [] sz) := by
  refine va_MetW (cc := cL_splits) (maxL := 4) (ret := (some .int)) (hh := [(0, 6, 7, 23), (0, 6, 11, 13), (0, 6, 15, 16)]) (by decide) rfl ?_
  intro p e s m args below meth c s₁ B hml hv
  obtain ⟨rfl, ⟨hsz, hP, hK, hD0⟩, hE⟩ := hv
  have hx := B.exec
  have hb := B.bytes
  have hr := B.returns
  have hts := atoms_spec (ws := wsL_splits) B.pre
  have hown : s.vm.findClass RL = some m.cls := findClass_of_methodNamed B.named
  have hTab := vx_table (x := yL_splits) B (hts (.codeWith yL_splits cL_splits 4 (some .int) [(0, 6, 7, 23), (0, 6, 11, 13), (0, 6, 15, 16)]) List.mem_cons_self)
  have kc0 := hts (.classLink RL 23 "java/lang/IndexOutOfBoundsException") (by decide +kernel)
  have kw0 := hts (.constant RL 25 (-2000000001)) (by decide +kernel)
  subst hsz
  have hD := hD0.self (sz := s.heap.size)
  have hA : ∀ q : Nat, s.heap.size ≤ q → va_A (w0 h cA M0) s.heap.size q := fun q h => Or.inr h
  have hS : va_S (va_A (w0 h cA M0) s.heap.size) s.heap s.heap [] := va_S.rf
  have hl := lv_entry ([.ref (h 0), .int x, .int p9]) (n := 4) (Nat.le_of_ble_eq_true rfl)
  rw [lg_entry_eq]
  generalize (lg_sl ([.ref (h 0), .int x, .int p9]) ++ List.replicate (4 - (lg_sl ([.ref (h 0), .int x, .int p9])).length) Slot.unset).toArray = ls at hl ⊢
  have hl : lv_has ls 4 [(0, .ref (h 0)), (1, .int x), (2, .int p9)] := hl
  refine w_abs (fun Q hQ => ?_)
  refine lv_aload_n hx hb dL_splits_0 rfl (lv_at hl 0 rfl) ?_
  refine lv_iload_n hx hb dL_splits_1 rfl (lv_at hl 1 rfl) ?_
  refine lv_iload_n hx hb dL_splits_2 rfl (lv_at hl 2 rfl) ?_
  refine g_calliX (wl := []) (wc := w0 h cA M0) (wr := []) (wf := fun u : MM => w0 h cA u) (vx_runV (As := [.int x, .int p9]) (rest := []) ⟨hx, hb, hml, hown, hts⟩ (c0_split l hlt D h cA M0 ok0 x p9 s.heap.size) (cwV 2 hts gL_splits_X0_split rfl rfl rfl (by decide +kernel) ⟨Nat.le_of_ble_eq_true rfl, Nat.le_of_ble_eq_true rfl⟩) ⟨pE_fb pW_fb, va_recv hK hP (ci := 0) (q0 := 0) rfl rfl, pE_mk rfl (pW_mk hP hK hD) hE⟩ rfl rfl hl.1 rfl (lv_room (Nat.le_of_ble_eq_true rfl)) dL_splits_3 ⟨Nat.le_of_ble_eq_true rfl, Nat.le_of_ble_eq_true rfl⟩) (List.append_nil _).symm hP hD hS hA (fun E ce q9 H1 locs1 hpx g1 g2 hP1 hS1 hce hcv hcl => ?_) (fun r u H locs qr hP hD hS => ?_)
  · rcases hpx with ⟨rfl, hk⟩ | ⟨rfl, hk⟩ | ⟨rfl, hk⟩
    · refine vx_catch (own := RL) (name := E_io) (E := E_io) hown [] ⟨0, 6, 7, 23⟩ [⟨0, 6, 11, 13⟩, ⟨0, 6, 15, 16⟩] (hTab.trans rfl) (fun z hz => absurd hz List.not_mem_nil) (by decide) (by decide) kc0 (va_Nw.use rfl hE.1.1) hce hcv hcl ?_
      refine w_clean g2 ?_
      have hS9 : va_S (va_A [] s.heap.size) s.heap H1 [] := ⟨Nat.le_of_succ_le g1, fun q h1 _ => g2 q h1, fun _ h => by cases h⟩
      refine lv_astore_n (lv' := [(3, .ref q9), (0, .ref (h 0)), (1, .int x), (2, .int p9)]) hx hb dL_splits_7 rfl hl (by decide) rfl (fun ls hl => ?_)
      refine lv_ldc hx hb hown kw0 dL_splits_8 ?_
      subst hQ
      exact W.iret (v := (-2000000001)) hx hb hr (fun t ht hW => ⟨⟨(-2000000001), (), rfl, rfl, by unfold tN; rw [ht]; exact g1⟩, hS9.F ht⟩) hS9.2.2 dL_splits_10
    · exact absurd (hv9.symm.trans hk) (by decide)
    · exact absurd (hv9.symm.trans hk) (by decide)
  · rw [qr] at hv9
    exact absurd (show (0 : Nat) = 1 from hv9) (by decide)
set_option maxHeartbeats 4000000 in
set_option maxRecDepth 100000 in
theorem eL_works (l : Launch) (hlt : l.stackTraces = false) (D : va_G) (h : Nat → Nat) (cA : ClassId) (x s9 : Int32) (hv9 : (x_setWork M0 x s9).1 = 1) (sz : Nat) : Met l yL_works wsL_works ({ frames := 8, cells := 1, slots := 6, locals := 135 } : Room) (va_Pc [.ref (h 0), .int x, .int s9] (fun U => pW D [(cA, .int)] (w0 h cA M0) sz U ∧ x_En U)) (va_Qi (fun (r : Int32) (_ : Unit) => r = (-2000000001)) (tN sz 1) (va_A [] sz)) 1 6 (va_A [] sz) := by
  refine va_MetW (cc := cL_works) (maxL := 4) (ret := (some .int)) (hh := [(0, 6, 7, 23), (0, 6, 11, 13), (0, 6, 15, 16)]) (by decide) rfl ?_
  intro p e s m args below meth c s₁ B hml hv
  obtain ⟨rfl, ⟨hsz, hP, hK, hD0⟩, hE⟩ := hv
  have hx := B.exec
  have hb := B.bytes
  have hr := B.returns
  have hts := atoms_spec (ws := wsL_works) B.pre
  have hown : s.vm.findClass RL = some m.cls := findClass_of_methodNamed B.named
  have hTab := vx_table (x := yL_works) B (hts (.codeWith yL_works cL_works 4 (some .int) [(0, 6, 7, 23), (0, 6, 11, 13), (0, 6, 15, 16)]) List.mem_cons_self)
  have kc0 := hts (.classLink RL 23 "java/lang/IndexOutOfBoundsException") (by decide +kernel)
  have kw0 := hts (.constant RL 25 (-2000000001)) (by decide +kernel)
  subst hsz
  have hD := hD0.self (sz := s.heap.size)
  have hA : ∀ q : Nat, s.heap.size ≤ q → va_A (w0 h cA M0) s.heap.size q := fun q h => Or.inr h
  have hS : va_S (va_A (w0 h cA M0) s.heap.size) s.heap s.heap [] := va_S.rf
  have hl := lv_entry ([.ref (h 0), .int x, .int s9]) (n := 4) (Nat.le_of_ble_eq_true rfl)
  rw [lg_entry_eq]
  generalize (lg_sl ([.ref (h 0), .int x, .int s9]) ++ List.replicate (4 - (lg_sl ([.ref (h 0), .int x, .int s9])).length) Slot.unset).toArray = ls at hl ⊢
  have hl : lv_has ls 4 [(0, .ref (h 0)), (1, .int x), (2, .int s9)] := hl
  refine w_abs (fun Q hQ => ?_)
  refine lv_aload_n hx hb dL_works_0 rfl (lv_at hl 0 rfl) ?_
  refine lv_iload_n hx hb dL_works_1 rfl (lv_at hl 1 rfl) ?_
  refine lv_iload_n hx hb dL_works_2 rfl (lv_at hl 2 rfl) ?_
  refine g_calliX (wl := []) (wc := w0 h cA M0) (wr := []) (wf := fun u : MM => w0 h cA u) (vx_runV (As := [.int x, .int s9]) (rest := []) ⟨hx, hb, hml, hown, hts⟩ (c0_setWork l hlt D h cA M0 ok0 x s9 s.heap.size) (cwV 2 hts gL_works_X0_setWork rfl rfl rfl (by decide +kernel) ⟨Nat.le_of_ble_eq_true rfl, Nat.le_of_ble_eq_true rfl⟩) ⟨pE_fb pW_fb, va_recv hK hP (ci := 0) (q0 := 0) rfl rfl, pE_mk rfl (pW_mk hP hK hD) hE⟩ rfl rfl hl.1 rfl (lv_room (Nat.le_of_ble_eq_true rfl)) dL_works_3 ⟨Nat.le_of_ble_eq_true rfl, Nat.le_of_ble_eq_true rfl⟩) (List.append_nil _).symm hP hD hS hA (fun E ce q9 H1 locs1 hpx g1 g2 hP1 hS1 hce hcv hcl => ?_) (fun r u H locs qr hP hD hS => ?_)
  · rcases hpx with ⟨rfl, hk⟩ | ⟨rfl, hk⟩ | ⟨rfl, hk⟩
    · refine vx_catch (own := RL) (name := E_io) (E := E_io) hown [] ⟨0, 6, 7, 23⟩ [⟨0, 6, 11, 13⟩, ⟨0, 6, 15, 16⟩] (hTab.trans rfl) (fun z hz => absurd hz List.not_mem_nil) (by decide) (by decide) kc0 (va_Nw.use rfl hE.1.1) hce hcv hcl ?_
      refine w_clean g2 ?_
      have hS9 : va_S (va_A [] s.heap.size) s.heap H1 [] := ⟨Nat.le_of_succ_le g1, fun q h1 _ => g2 q h1, fun _ h => by cases h⟩
      refine lv_astore_n (lv' := [(3, .ref q9), (0, .ref (h 0)), (1, .int x), (2, .int s9)]) hx hb dL_works_7 rfl hl (by decide) rfl (fun ls hl => ?_)
      refine lv_ldc hx hb hown kw0 dL_works_8 ?_
      subst hQ
      exact W.iret (v := (-2000000001)) hx hb hr (fun t ht hW => ⟨⟨(-2000000001), (), rfl, rfl, by unfold tN; rw [ht]; exact g1⟩, hS9.F ht⟩) hS9.2.2 dL_works_10
    · exact absurd (hv9.symm.trans hk) (by decide)
    · exact absurd (hv9.symm.trans hk) (by decide)
  · rw [qr] at hv9
    exact absurd (show (0 : Nat) = 1 from hv9) (by decide)
set_option maxHeartbeats 4000000 in
set_option maxRecDepth 100000 in
theorem eL_stores (l : Launch) (hlt : l.stackTraces = false) (D : va_G) (h : Nat → Nat) (cA : ClassId) (x c9 : Int32) (hv9 : (x_store M0 x c9).1 = 1) (sz : Nat) : Met l yL_stores wsL_stores ({ frames := 8, cells := 1, slots := 6, locals := 134 } : Room) (va_Pc [.ref (h 0), .int x, .int c9] (fun U => pW D [(cA, .int)] (w0 h cA M0) sz U ∧ x_En U)) (va_Qi (fun (r : Int32) (_ : Unit) => r = (-2000000001)) (tN sz 1) (va_A [] sz)) 1 6 (va_A [] sz) := by
  refine va_MetW (cc := cL_stores) (maxL := 4) (ret := (some .int)) (hh := [(0, 6, 7, 23), (0, 6, 11, 13), (0, 6, 15, 16)]) (by decide) rfl ?_
  intro p e s m args below meth c s₁ B hml hv
  obtain ⟨rfl, ⟨hsz, hP, hK, hD0⟩, hE⟩ := hv
  have hx := B.exec
  have hb := B.bytes
  have hr := B.returns
  have hts := atoms_spec (ws := wsL_stores) B.pre
  have hown : s.vm.findClass RL = some m.cls := findClass_of_methodNamed B.named
  have hTab := vx_table (x := yL_stores) B (hts (.codeWith yL_stores cL_stores 4 (some .int) [(0, 6, 7, 23), (0, 6, 11, 13), (0, 6, 15, 16)]) List.mem_cons_self)
  have kc0 := hts (.classLink RL 23 "java/lang/IndexOutOfBoundsException") (by decide +kernel)
  have kw0 := hts (.constant RL 25 (-2000000001)) (by decide +kernel)
  subst hsz
  have hD := hD0.self (sz := s.heap.size)
  have hA : ∀ q : Nat, s.heap.size ≤ q → va_A (w0 h cA M0) s.heap.size q := fun q h => Or.inr h
  have hS : va_S (va_A (w0 h cA M0) s.heap.size) s.heap s.heap [] := va_S.rf
  have hl := lv_entry ([.ref (h 0), .int x, .int c9]) (n := 4) (Nat.le_of_ble_eq_true rfl)
  rw [lg_entry_eq]
  generalize (lg_sl ([.ref (h 0), .int x, .int c9]) ++ List.replicate (4 - (lg_sl ([.ref (h 0), .int x, .int c9])).length) Slot.unset).toArray = ls at hl ⊢
  have hl : lv_has ls 4 [(0, .ref (h 0)), (1, .int x), (2, .int c9)] := hl
  refine w_abs (fun Q hQ => ?_)
  refine lv_aload_n hx hb dL_stores_0 rfl (lv_at hl 0 rfl) ?_
  refine lv_iload_n hx hb dL_stores_1 rfl (lv_at hl 1 rfl) ?_
  refine lv_iload_n hx hb dL_stores_2 rfl (lv_at hl 2 rfl) ?_
  refine g_calliX (wl := []) (wc := w0 h cA M0) (wr := []) (wf := fun u : MM => w0 h cA u) (vx_runV (As := [.int x, .int c9]) (rest := []) ⟨hx, hb, hml, hown, hts⟩ (c0_store l hlt D h cA M0 ok0 x c9 s.heap.size) (cwV 2 hts gL_stores_X0_store rfl rfl rfl (by decide +kernel) ⟨Nat.le_of_ble_eq_true rfl, Nat.le_of_ble_eq_true rfl⟩) ⟨pE_fb pW_fb, va_recv hK hP (ci := 0) (q0 := 0) rfl rfl, pE_mk rfl (pW_mk hP hK hD) hE⟩ rfl rfl hl.1 rfl (lv_room (Nat.le_of_ble_eq_true rfl)) dL_stores_3 ⟨Nat.le_of_ble_eq_true rfl, Nat.le_of_ble_eq_true rfl⟩) (List.append_nil _).symm hP hD hS hA (fun E ce q9 H1 locs1 hpx g1 g2 hP1 hS1 hce hcv hcl => ?_) (fun r u H locs qr hP hD hS => ?_)
  · rcases hpx with ⟨rfl, hk⟩ | ⟨rfl, hk⟩ | ⟨rfl, hk⟩
    · refine vx_catch (own := RL) (name := E_io) (E := E_io) hown [] ⟨0, 6, 7, 23⟩ [⟨0, 6, 11, 13⟩, ⟨0, 6, 15, 16⟩] (hTab.trans rfl) (fun z hz => absurd hz List.not_mem_nil) (by decide) (by decide) kc0 (va_Nw.use rfl hE.1.1) hce hcv hcl ?_
      refine w_clean g2 ?_
      have hS9 : va_S (va_A [] s.heap.size) s.heap H1 [] := ⟨Nat.le_of_succ_le g1, fun q h1 _ => g2 q h1, fun _ h => by cases h⟩
      refine lv_astore_n (lv' := [(3, .ref q9), (0, .ref (h 0)), (1, .int x), (2, .int c9)]) hx hb dL_stores_7 rfl hl (by decide) rfl (fun ls hl => ?_)
      refine lv_ldc hx hb hown kw0 dL_stores_8 ?_
      subst hQ
      exact W.iret (v := (-2000000001)) hx hb hr (fun t ht hW => ⟨⟨(-2000000001), (), rfl, rfl, by unfold tN; rw [ht]; exact g1⟩, hS9.F ht⟩) hS9.2.2 dL_stores_10
    · exact absurd (hv9.symm.trans hk) (by decide)
    · exact absurd (hv9.symm.trans hk) (by decide)
  · rw [qr] at hv9
    exact absurd (show (0 : Nat) = 1 from hv9) (by decide)
set_option maxHeartbeats 4000000 in
set_option maxRecDepth 100000 in
theorem eL_places (l : Launch) (hlt : l.stackTraces = false) (D : va_G) (h : Nat → Nat) (cA : ClassId) (x c9 : Int32) (hv9 : (o_place M0 x c9).1 = 1) (sz : Nat) : Met l yL_places wsL_places ({ frames := 8, cells := 1, slots := 6, locals := 134 } : Room) (va_Pc [.ref (h 0), .int x, .int c9] (fun U => pW D [(cA, .int)] (w0 h cA M0) sz U ∧ x_En U)) (va_Qi (fun (r : Int32) (_ : Unit) => r = (-2000000001)) (tN sz 1) (va_A [] sz)) 1 6 (va_A [] sz) := by
  refine va_MetW (cc := cL_places) (maxL := 4) (ret := (some .int)) (hh := [(0, 6, 7, 23), (0, 6, 11, 13), (0, 6, 15, 16)]) (by decide) rfl ?_
  intro p e s m args below meth c s₁ B hml hv
  obtain ⟨rfl, ⟨hsz, hP, hK, hD0⟩, hE⟩ := hv
  have hx := B.exec
  have hb := B.bytes
  have hr := B.returns
  have hts := atoms_spec (ws := wsL_places) B.pre
  have hown : s.vm.findClass RL = some m.cls := findClass_of_methodNamed B.named
  have hTab := vx_table (x := yL_places) B (hts (.codeWith yL_places cL_places 4 (some .int) [(0, 6, 7, 23), (0, 6, 11, 13), (0, 6, 15, 16)]) List.mem_cons_self)
  have kc0 := hts (.classLink RL 23 "java/lang/IndexOutOfBoundsException") (by decide +kernel)
  have kw0 := hts (.constant RL 25 (-2000000001)) (by decide +kernel)
  subst hsz
  have hD := hD0.self (sz := s.heap.size)
  have hA : ∀ q : Nat, s.heap.size ≤ q → va_A (w0 h cA M0) s.heap.size q := fun q h => Or.inr h
  have hS : va_S (va_A (w0 h cA M0) s.heap.size) s.heap s.heap [] := va_S.rf
  have hl := lv_entry ([.ref (h 0), .int x, .int c9]) (n := 4) (Nat.le_of_ble_eq_true rfl)
  rw [lg_entry_eq]
  generalize (lg_sl ([.ref (h 0), .int x, .int c9]) ++ List.replicate (4 - (lg_sl ([.ref (h 0), .int x, .int c9])).length) Slot.unset).toArray = ls at hl ⊢
  have hl : lv_has ls 4 [(0, .ref (h 0)), (1, .int x), (2, .int c9)] := hl
  refine w_abs (fun Q hQ => ?_)
  refine lv_aload_n hx hb dL_places_0 rfl (lv_at hl 0 rfl) ?_
  refine lv_iload_n hx hb dL_places_1 rfl (lv_at hl 1 rfl) ?_
  refine lv_iload_n hx hb dL_places_2 rfl (lv_at hl 2 rfl) ?_
  refine g_calliX (wl := []) (wc := w0 h cA M0) (wr := []) (wf := fun u : MM => w0 h cA u) (vx_runV (As := [.int x, .int c9]) (rest := []) ⟨hx, hb, hml, hown, hts⟩ (c0_place l hlt D h cA M0 ok0 x c9 s.heap.size) (cwV 2 hts gL_places_X0_place rfl rfl rfl (by decide +kernel) ⟨Nat.le_of_ble_eq_true rfl, Nat.le_of_ble_eq_true rfl⟩) ⟨pE_fb pW_fb, va_recv hK hP (ci := 0) (q0 := 0) rfl rfl, pE_mk rfl (pW_mk hP hK hD) hE⟩ rfl rfl hl.1 rfl (lv_room (Nat.le_of_ble_eq_true rfl)) dL_places_3 ⟨Nat.le_of_ble_eq_true rfl, Nat.le_of_ble_eq_true rfl⟩) (List.append_nil _).symm hP hD hS hA (fun E ce q9 H1 locs1 hpx g1 g2 hP1 hS1 hce hcv hcl => ?_) (fun r u H locs qr hP hD hS => ?_)
  · rcases hpx with ⟨rfl, hk⟩ | ⟨rfl, hk⟩ | ⟨rfl, hk⟩
    · refine vx_catch (own := RL) (name := E_io) (E := E_io) hown [] ⟨0, 6, 7, 23⟩ [⟨0, 6, 11, 13⟩, ⟨0, 6, 15, 16⟩] (hTab.trans rfl) (fun z hz => absurd hz List.not_mem_nil) (by decide) (by decide) kc0 (va_Nw.use rfl hE.1.1) hce hcv hcl ?_
      refine w_clean g2 ?_
      have hS9 : va_S (va_A [] s.heap.size) s.heap H1 [] := ⟨Nat.le_of_succ_le g1, fun q h1 _ => g2 q h1, fun _ h => by cases h⟩
      refine lv_astore_n (lv' := [(3, .ref q9), (0, .ref (h 0)), (1, .int x), (2, .int c9)]) hx hb dL_places_7 rfl hl (by decide) rfl (fun ls hl => ?_)
      refine lv_ldc hx hb hown kw0 dL_places_8 ?_
      subst hQ
      exact W.iret (v := (-2000000001)) hx hb hr (fun t ht hW => ⟨⟨(-2000000001), (), rfl, rfl, by unfold tN; rw [ht]; exact g1⟩, hS9.F ht⟩) hS9.2.2 dL_places_10
    · exact absurd (hv9.symm.trans hk) (by decide)
    · exact absurd (hv9.symm.trans hk) (by decide)
  · rw [qr] at hv9
    exact absurd (show (0 : Nat) = 1 from hv9) (by decide)
set_option maxHeartbeats 4000000 in
set_option maxRecDepth 100000 in
theorem eL_sets (l : Launch) (hlt : l.stackTraces = false) (D : va_G) (h : Nat → Nat) (cA : ClassId) (t9 r9 : Int32) (hv9 : (x_setStep M0 t9 r9).1 = 1) (sz : Nat) : Met l yL_sets wsL_sets ({ frames := 8, cells := 1, slots := 6, locals := 136 } : Room) (va_Pc [.ref (h 0), .int t9, .int r9] (fun U => pW D [(cA, .int)] (w0 h cA M0) sz U ∧ x_En U)) (va_Qi (fun (r : Int32) (_ : Unit) => r = (-2000000002)) (tN sz 1) (va_A [] sz)) 1 6 (va_A [] sz) := by
  refine va_MetW (cc := cL_sets) (maxL := 4) (ret := (some .int)) (hh := [(0, 6, 7, 13), (0, 6, 11, 16)]) (by decide) rfl ?_
  intro p e s m args below meth c s₁ B hml hv
  obtain ⟨rfl, ⟨hsz, hP, hK, hD0⟩, hE⟩ := hv
  have hx := B.exec
  have hb := B.bytes
  have hr := B.returns
  have hts := atoms_spec (ws := wsL_sets) B.pre
  have hown : s.vm.findClass RL = some m.cls := findClass_of_methodNamed B.named
  have hTab := vx_table (x := yL_sets) B (hts (.codeWith yL_sets cL_sets 4 (some .int) [(0, 6, 7, 13), (0, 6, 11, 16)]) List.mem_cons_self)
  have kc0 := hts (.classLink RL 13 "java/lang/IllegalArgumentException") (by decide +kernel)
  have kw0 := hts (.constant RL 15 (-2000000002)) (by decide +kernel)
  subst hsz
  have hD := hD0.self (sz := s.heap.size)
  have hA : ∀ q : Nat, s.heap.size ≤ q → va_A (w0 h cA M0) s.heap.size q := fun q h => Or.inr h
  have hS : va_S (va_A (w0 h cA M0) s.heap.size) s.heap s.heap [] := va_S.rf
  have hl := lv_entry ([.ref (h 0), .int t9, .int r9]) (n := 4) (Nat.le_of_ble_eq_true rfl)
  rw [lg_entry_eq]
  generalize (lg_sl ([.ref (h 0), .int t9, .int r9]) ++ List.replicate (4 - (lg_sl ([.ref (h 0), .int t9, .int r9])).length) Slot.unset).toArray = ls at hl ⊢
  have hl : lv_has ls 4 [(0, .ref (h 0)), (1, .int t9), (2, .int r9)] := hl
  refine w_abs (fun Q hQ => ?_)
  refine lv_aload_n hx hb dL_sets_0 rfl (lv_at hl 0 rfl) ?_
  refine lv_iload_n hx hb dL_sets_1 rfl (lv_at hl 1 rfl) ?_
  refine lv_iload_n hx hb dL_sets_2 rfl (lv_at hl 2 rfl) ?_
  refine g_calliX (wl := []) (wc := w0 h cA M0) (wr := []) (wf := fun u : MM => w0 h cA u) (vx_runV (As := [.int t9, .int r9]) (rest := []) ⟨hx, hb, hml, hown, hts⟩ (c0_setStep l hlt D h cA M0 ok0 t9 r9 s.heap.size) (cwV 2 hts gL_sets_X0_setStep rfl rfl rfl (by decide +kernel) ⟨Nat.le_of_ble_eq_true rfl, Nat.le_of_ble_eq_true rfl⟩) ⟨pE_fb pW_fb, va_recv hK hP (ci := 0) (q0 := 0) rfl rfl, pE_mk rfl (pW_mk hP hK hD) hE⟩ rfl rfl hl.1 rfl (lv_room (Nat.le_of_ble_eq_true rfl)) dL_sets_3 ⟨Nat.le_of_ble_eq_true rfl, Nat.le_of_ble_eq_true rfl⟩) (List.append_nil _).symm hP hD hS hA (fun E ce q9 H1 locs1 hpx g1 g2 hP1 hS1 hce hcv hcl => ?_) (fun r u H locs qr hP hD hS => ?_)
  · rcases hpx with ⟨rfl, hk⟩ | ⟨rfl, hk⟩
    · refine vx_catch (own := RL) (name := E_ia) (E := E_ia) hown [] ⟨0, 6, 7, 13⟩ [⟨0, 6, 11, 16⟩] (hTab.trans rfl) (fun z hz => absurd hz List.not_mem_nil) (by decide) (by decide) kc0 (va_Nw.use rfl hE.1.2.1) hce hcv hcl ?_
      refine w_clean g2 ?_
      have hS9 : va_S (va_A [] s.heap.size) s.heap H1 [] := ⟨Nat.le_of_succ_le g1, fun q h1 _ => g2 q h1, fun _ h => by cases h⟩
      refine lv_astore_n (lv' := [(3, .ref q9), (0, .ref (h 0)), (1, .int t9), (2, .int r9)]) hx hb dL_sets_7 rfl hl (by decide) rfl (fun ls hl => ?_)
      refine lv_ldc hx hb hown kw0 dL_sets_8 ?_
      subst hQ
      exact W.iret (v := (-2000000002)) hx hb hr (fun t ht hW => ⟨⟨(-2000000002), (), rfl, rfl, by unfold tN; rw [ht]; exact g1⟩, hS9.F ht⟩) hS9.2.2 dL_sets_10
    · exact absurd (hv9.symm.trans hk) (by decide)
  · rw [qr] at hv9
    exact absurd (show (0 : Nat) = 1 from hv9) (by decide)
set_option maxHeartbeats 4000000 in
set_option maxRecDepth 100000 in
theorem eL_drops (l : Launch) (hlt : l.stackTraces = false) (D : va_G) (h : Nat → Nat) (cA : ClassId) (t9 : Int32) (hv9 : (x_dropStep M0 t9).1 = 1) (sz : Nat) : Met l yL_drops wsL_drops ({ frames := 8, cells := 1, slots := 6, locals := 136 } : Room) (va_Pc [.ref (h 0), .int t9] (fun U => pW D [(cA, .int)] (w0 h cA M0) sz U ∧ x_En U)) (va_Qi (fun (r : Int32) (_ : Unit) => r = (-2000000002)) (tN sz 1) (va_A [] sz)) 1 6 (va_A [] sz) := by
  refine va_MetW (cc := cL_drops) (maxL := 3) (ret := (some .int)) (hh := [(0, 5, 6, 13), (0, 5, 10, 16)]) (by decide) rfl ?_
  intro p e s m args below meth c s₁ B hml hv
  obtain ⟨rfl, ⟨hsz, hP, hK, hD0⟩, hE⟩ := hv
  have hx := B.exec
  have hb := B.bytes
  have hr := B.returns
  have hts := atoms_spec (ws := wsL_drops) B.pre
  have hown : s.vm.findClass RL = some m.cls := findClass_of_methodNamed B.named
  have hTab := vx_table (x := yL_drops) B (hts (.codeWith yL_drops cL_drops 3 (some .int) [(0, 5, 6, 13), (0, 5, 10, 16)]) List.mem_cons_self)
  have kc0 := hts (.classLink RL 13 "java/lang/IllegalArgumentException") (by decide +kernel)
  have kw0 := hts (.constant RL 15 (-2000000002)) (by decide +kernel)
  subst hsz
  have hD := hD0.self (sz := s.heap.size)
  have hA : ∀ q : Nat, s.heap.size ≤ q → va_A (w0 h cA M0) s.heap.size q := fun q h => Or.inr h
  have hS : va_S (va_A (w0 h cA M0) s.heap.size) s.heap s.heap [] := va_S.rf
  have hl := lv_entry ([.ref (h 0), .int t9]) (n := 3) (Nat.le_of_ble_eq_true rfl)
  rw [lg_entry_eq]
  generalize (lg_sl ([.ref (h 0), .int t9]) ++ List.replicate (3 - (lg_sl ([.ref (h 0), .int t9])).length) Slot.unset).toArray = ls at hl ⊢
  have hl : lv_has ls 3 [(0, .ref (h 0)), (1, .int t9)] := hl
  refine w_abs (fun Q hQ => ?_)
  refine lv_aload_n hx hb dL_drops_0 rfl (lv_at hl 0 rfl) ?_
  refine lv_iload_n hx hb dL_drops_1 rfl (lv_at hl 1 rfl) ?_
  refine g_calliX (wl := []) (wc := w0 h cA M0) (wr := []) (wf := fun u : MM => w0 h cA u) (vx_runV (As := [.int t9]) (rest := []) ⟨hx, hb, hml, hown, hts⟩ (c0_dropStep l hlt D h cA M0 ok0 t9 s.heap.size) (cwV 1 hts gL_drops_X0_dropStep rfl rfl rfl (by decide +kernel) ⟨Nat.le_of_ble_eq_true rfl, Nat.le_of_ble_eq_true rfl⟩) ⟨pE_fb pW_fb, va_recv hK hP (ci := 0) (q0 := 0) rfl rfl, pE_mk rfl (pW_mk hP hK hD) hE⟩ rfl rfl hl.1 rfl (lv_room (Nat.le_of_ble_eq_true rfl)) dL_drops_2 ⟨Nat.le_of_ble_eq_true rfl, Nat.le_of_ble_eq_true rfl⟩) (List.append_nil _).symm hP hD hS hA (fun E ce q9 H1 locs1 hpx g1 g2 hP1 hS1 hce hcv hcl => ?_) (fun r u H locs qr hP hD hS => ?_)
  · rcases hpx with ⟨rfl, hk⟩ | ⟨rfl, hk⟩
    · refine vx_catch (own := RL) (name := E_ia) (E := E_ia) hown [] ⟨0, 5, 6, 13⟩ [⟨0, 5, 10, 16⟩] (hTab.trans rfl) (fun z hz => absurd hz List.not_mem_nil) (by decide) (by decide) kc0 (va_Nw.use rfl hE.1.2.1) hce hcv hcl ?_
      refine w_clean g2 ?_
      have hS9 : va_S (va_A [] s.heap.size) s.heap H1 [] := ⟨Nat.le_of_succ_le g1, fun q h1 _ => g2 q h1, fun _ h => by cases h⟩
      refine lv_astore_n (lv' := [(2, .ref q9), (0, .ref (h 0)), (1, .int t9)]) hx hb dL_drops_6 rfl hl (by decide) rfl (fun ls hl => ?_)
      refine lv_ldc hx hb hown kw0 dL_drops_7 ?_
      subst hQ
      exact W.iret (v := (-2000000002)) hx hb hr (fun t ht hW => ⟨⟨(-2000000002), (), rfl, rfl, by unfold tN; rw [ht]; exact g1⟩, hS9.F ht⟩) hS9.2.2 dL_drops_9
    · exact absurd (hv9.symm.trans hk) (by decide)
  · rw [qr] at hv9
    exact absurd (show (0 : Nat) = 1 from hv9) (by decide)
set_option maxHeartbeats 4000000 in
set_option maxRecDepth 100000 in
theorem eL_closes (l : Launch) (hlt : l.stackTraces = false) (D : va_G) (h : Nat → Nat) (cA : ClassId) (hv9 : (x_close M0).1 = 1) (sz : Nat) : Met l yL_closes wsL_closes ({ frames := 7, cells := 1, slots := 6, locals := 134 } : Room) (va_Pc [.ref (h 0)] (fun U => pW D [(cA, .int)] (w0 h cA M0) sz U ∧ x_En U)) (va_Qi (fun (r : Int32) (_ : Unit) => r = (-2000000003)) (tN sz 1) (va_A [] sz)) 1 6 (va_A [] sz) := by
  refine va_MetW (cc := cL_closes) (maxL := 2) (ret := (some .int)) (hh := [(0, 4, 5, 16)]) (by decide) rfl ?_
  intro p e s m args below meth c s₁ B hml hv
  obtain ⟨rfl, ⟨hsz, hP, hK, hD0⟩, hE⟩ := hv
  have hx := B.exec
  have hb := B.bytes
  have hr := B.returns
  have hts := atoms_spec (ws := wsL_closes) B.pre
  have hown : s.vm.findClass RL = some m.cls := findClass_of_methodNamed B.named
  have hTab := vx_table (x := yL_closes) B (hts (.codeWith yL_closes cL_closes 2 (some .int) [(0, 4, 5, 16)]) List.mem_cons_self)
  have kc0 := hts (.classLink RL 16 "java/lang/IllegalStateException") (by decide +kernel)
  have kw0 := hts (.constant RL 18 (-2000000003)) (by decide +kernel)
  subst hsz
  have hD := hD0.self (sz := s.heap.size)
  have hA : ∀ q : Nat, s.heap.size ≤ q → va_A (w0 h cA M0) s.heap.size q := fun q h => Or.inr h
  have hS : va_S (va_A (w0 h cA M0) s.heap.size) s.heap s.heap [] := va_S.rf
  have hl := lv_entry ([.ref (h 0)]) (n := 2) (Nat.le_of_ble_eq_true rfl)
  rw [lg_entry_eq]
  generalize (lg_sl ([.ref (h 0)]) ++ List.replicate (2 - (lg_sl ([.ref (h 0)])).length) Slot.unset).toArray = ls at hl ⊢
  have hl : lv_has ls 2 [(0, .ref (h 0))] := hl
  refine w_abs (fun Q hQ => ?_)
  refine lv_aload_n hx hb dL_closes_0 rfl (lv_at hl 0 rfl) ?_
  refine g_calliX (wl := []) (wc := w0 h cA M0) (wr := []) (wf := fun u : MM => w0 h cA u) (vx_runV (As := []) (rest := []) ⟨hx, hb, hml, hown, hts⟩ (c0_close l hlt D h cA M0 ok0 s.heap.size) (cwV 0 hts gL_closes_X0_close rfl rfl rfl (by decide +kernel) ⟨Nat.le_of_ble_eq_true rfl, Nat.le_of_ble_eq_true rfl⟩) ⟨pE_fb pW_fb, va_recv hK hP (ci := 0) (q0 := 0) rfl rfl, pE_mk rfl (pW_mk hP hK hD) hE⟩ rfl rfl hl.1 rfl (lv_room (Nat.le_of_ble_eq_true rfl)) dL_closes_1 ⟨Nat.le_of_ble_eq_true rfl, Nat.le_of_ble_eq_true rfl⟩) (List.append_nil _).symm hP hD hS hA (fun E ce q9 H1 locs1 hpx g1 g2 hP1 hS1 hce hcv hcl => ?_) (fun r u H locs qr hP hD hS => ?_)
  · obtain ⟨rfl, hk⟩ := hpx
    refine vx_catch (own := RL) (name := E_is) (E := E_is) hown [] ⟨0, 4, 5, 16⟩ [] (hTab.trans rfl) (fun z hz => absurd hz List.not_mem_nil) (by decide) (by decide) kc0 (va_Nw.use rfl hE.1.2.2.1) hce hcv hcl ?_
    refine w_clean g2 ?_
    have hS9 : va_S (va_A [] s.heap.size) s.heap H1 [] := ⟨Nat.le_of_succ_le g1, fun q h1 _ => g2 q h1, fun _ h => by cases h⟩
    refine lv_astore_n (lv' := [(1, .ref q9), (0, .ref (h 0))]) hx hb dL_closes_5 rfl hl (by decide) rfl (fun ls hl => ?_)
    refine lv_ldc hx hb hown kw0 dL_closes_6 ?_
    subst hQ
    exact W.iret (v := (-2000000003)) hx hb hr (fun t ht hW => ⟨⟨(-2000000003), (), rfl, rfl, by unfold tN; rw [ht]; exact g1⟩, hS9.F ht⟩) hS9.2.2 dL_closes_8
  · rw [qr] at hv9
    exact absurd (show (0 : Nat) = 1 from hv9) (by decide)
set_option maxHeartbeats 4000000 in
set_option maxRecDepth 100000 in
theorem eL_pays (l : Launch) (hlt : l.stackTraces = false) (D : va_G) (h : Nat → Nat) (cA : ClassId) (x : Int32) (hv9 : (x_pay M0 x).1 = 1) (sz : Nat) : Met l yL_pays wsL_pays ({ frames := 8, cells := 1, slots := 6, locals := 132 } : Room) (va_Pc [.ref (h 0), .int x] (fun U => pW D [(cA, .int)] (w0 h cA M0) sz U ∧ x_En U)) (va_Qi (fun (r : Int32) (_ : Unit) => r = (-2000000001)) (tN sz 1) (va_A [] sz)) 1 6 (va_A [] sz) := by
  refine va_MetW (cc := cL_pays) (maxL := 3) (ret := (some .int)) (hh := [(0, 5, 6, 23), (0, 5, 10, 16)]) (by decide) rfl ?_
  intro p e s m args below meth c s₁ B hml hv
  obtain ⟨rfl, ⟨hsz, hP, hK, hD0⟩, hE⟩ := hv
  have hx := B.exec
  have hb := B.bytes
  have hr := B.returns
  have hts := atoms_spec (ws := wsL_pays) B.pre
  have hown : s.vm.findClass RL = some m.cls := findClass_of_methodNamed B.named
  have hTab := vx_table (x := yL_pays) B (hts (.codeWith yL_pays cL_pays 3 (some .int) [(0, 5, 6, 23), (0, 5, 10, 16)]) List.mem_cons_self)
  have kc0 := hts (.classLink RL 23 "java/lang/IndexOutOfBoundsException") (by decide +kernel)
  have kw0 := hts (.constant RL 25 (-2000000001)) (by decide +kernel)
  subst hsz
  have hD := hD0.self (sz := s.heap.size)
  have hA : ∀ q : Nat, s.heap.size ≤ q → va_A (w0 h cA M0) s.heap.size q := fun q h => Or.inr h
  have hS : va_S (va_A (w0 h cA M0) s.heap.size) s.heap s.heap [] := va_S.rf
  have hl := lv_entry ([.ref (h 0), .int x]) (n := 3) (Nat.le_of_ble_eq_true rfl)
  rw [lg_entry_eq]
  generalize (lg_sl ([.ref (h 0), .int x]) ++ List.replicate (3 - (lg_sl ([.ref (h 0), .int x])).length) Slot.unset).toArray = ls at hl ⊢
  have hl : lv_has ls 3 [(0, .ref (h 0)), (1, .int x)] := hl
  refine w_abs (fun Q hQ => ?_)
  refine lv_aload_n hx hb dL_pays_0 rfl (lv_at hl 0 rfl) ?_
  refine lv_iload_n hx hb dL_pays_1 rfl (lv_at hl 1 rfl) ?_
  refine g_calliX (wl := []) (wc := w0 h cA M0) (wr := []) (wf := fun u : MM => w0 h cA u) (vx_runV (As := [.int x]) (rest := []) ⟨hx, hb, hml, hown, hts⟩ (c0_pay l hlt D h cA M0 ok0 x s.heap.size) (cwV 1 hts gL_pays_X0_pay rfl rfl rfl (by decide +kernel) ⟨Nat.le_of_ble_eq_true rfl, Nat.le_of_ble_eq_true rfl⟩) ⟨pE_fb pW_fb, va_recv hK hP (ci := 0) (q0 := 0) rfl rfl, pE_mk rfl (pW_mk hP hK hD) hE⟩ rfl rfl hl.1 rfl (lv_room (Nat.le_of_ble_eq_true rfl)) dL_pays_2 ⟨Nat.le_of_ble_eq_true rfl, Nat.le_of_ble_eq_true rfl⟩) (List.append_nil _).symm hP hD hS hA (fun E ce q9 H1 locs1 hpx g1 g2 hP1 hS1 hce hcv hcl => ?_) (fun r u H locs qr hP hD hS => ?_)
  · rcases hpx with ⟨rfl, hk⟩ | ⟨rfl, hk⟩
    · refine vx_catch (own := RL) (name := E_io) (E := E_io) hown [] ⟨0, 5, 6, 23⟩ [⟨0, 5, 10, 16⟩] (hTab.trans rfl) (fun z hz => absurd hz List.not_mem_nil) (by decide) (by decide) kc0 (va_Nw.use rfl hE.1.1) hce hcv hcl ?_
      refine w_clean g2 ?_
      have hS9 : va_S (va_A [] s.heap.size) s.heap H1 [] := ⟨Nat.le_of_succ_le g1, fun q h1 _ => g2 q h1, fun _ h => by cases h⟩
      refine lv_astore_n (lv' := [(2, .ref q9), (0, .ref (h 0)), (1, .int x)]) hx hb dL_pays_6 rfl hl (by decide) rfl (fun ls hl => ?_)
      refine lv_ldc hx hb hown kw0 dL_pays_7 ?_
      subst hQ
      exact W.iret (v := (-2000000001)) hx hb hr (fun t ht hW => ⟨⟨(-2000000001), (), rfl, rfl, by unfold tN; rw [ht]; exact g1⟩, hS9.F ht⟩) hS9.2.2 dL_pays_9
    · exact absurd (hv9.symm.trans hk) (by decide)
  · rw [qr] at hv9
    exact absurd (show (0 : Nat) = 1 from hv9) (by decide)
set_option maxHeartbeats 4000000 in
set_option maxRecDepth 100000 in
theorem eL_waives (l : Launch) (hlt : l.stackTraces = false) (D : va_G) (h : Nat → Nat) (cA : ClassId) (x : Int32) (hv9 : (x_waive M0 x).1 = 1) (sz : Nat) : Met l yL_waives wsL_waives ({ frames := 8, cells := 1, slots := 6, locals := 132 } : Room) (va_Pc [.ref (h 0), .int x] (fun U => pW D [(cA, .int)] (w0 h cA M0) sz U ∧ x_En U)) (va_Qi (fun (r : Int32) (_ : Unit) => r = (-2000000001)) (tN sz 1) (va_A [] sz)) 1 6 (va_A [] sz) := by
  refine va_MetW (cc := cL_waives) (maxL := 3) (ret := (some .int)) (hh := [(0, 5, 6, 23), (0, 5, 10, 16)]) (by decide) rfl ?_
  intro p e s m args below meth c s₁ B hml hv
  obtain ⟨rfl, ⟨hsz, hP, hK, hD0⟩, hE⟩ := hv
  have hx := B.exec
  have hb := B.bytes
  have hr := B.returns
  have hts := atoms_spec (ws := wsL_waives) B.pre
  have hown : s.vm.findClass RL = some m.cls := findClass_of_methodNamed B.named
  have hTab := vx_table (x := yL_waives) B (hts (.codeWith yL_waives cL_waives 3 (some .int) [(0, 5, 6, 23), (0, 5, 10, 16)]) List.mem_cons_self)
  have kc0 := hts (.classLink RL 23 "java/lang/IndexOutOfBoundsException") (by decide +kernel)
  have kw0 := hts (.constant RL 25 (-2000000001)) (by decide +kernel)
  subst hsz
  have hD := hD0.self (sz := s.heap.size)
  have hA : ∀ q : Nat, s.heap.size ≤ q → va_A (w0 h cA M0) s.heap.size q := fun q h => Or.inr h
  have hS : va_S (va_A (w0 h cA M0) s.heap.size) s.heap s.heap [] := va_S.rf
  have hl := lv_entry ([.ref (h 0), .int x]) (n := 3) (Nat.le_of_ble_eq_true rfl)
  rw [lg_entry_eq]
  generalize (lg_sl ([.ref (h 0), .int x]) ++ List.replicate (3 - (lg_sl ([.ref (h 0), .int x])).length) Slot.unset).toArray = ls at hl ⊢
  have hl : lv_has ls 3 [(0, .ref (h 0)), (1, .int x)] := hl
  refine w_abs (fun Q hQ => ?_)
  refine lv_aload_n hx hb dL_waives_0 rfl (lv_at hl 0 rfl) ?_
  refine lv_iload_n hx hb dL_waives_1 rfl (lv_at hl 1 rfl) ?_
  refine g_calliX (wl := []) (wc := w0 h cA M0) (wr := []) (wf := fun u : MM => w0 h cA u) (vx_runV (As := [.int x]) (rest := []) ⟨hx, hb, hml, hown, hts⟩ (c0_waive l hlt D h cA M0 ok0 x s.heap.size) (cwV 1 hts gL_waives_X0_waive rfl rfl rfl (by decide +kernel) ⟨Nat.le_of_ble_eq_true rfl, Nat.le_of_ble_eq_true rfl⟩) ⟨pE_fb pW_fb, va_recv hK hP (ci := 0) (q0 := 0) rfl rfl, pE_mk rfl (pW_mk hP hK hD) hE⟩ rfl rfl hl.1 rfl (lv_room (Nat.le_of_ble_eq_true rfl)) dL_waives_2 ⟨Nat.le_of_ble_eq_true rfl, Nat.le_of_ble_eq_true rfl⟩) (List.append_nil _).symm hP hD hS hA (fun E ce q9 H1 locs1 hpx g1 g2 hP1 hS1 hce hcv hcl => ?_) (fun r u H locs qr hP hD hS => ?_)
  · rcases hpx with ⟨rfl, hk⟩ | ⟨rfl, hk⟩
    · refine vx_catch (own := RL) (name := E_io) (E := E_io) hown [] ⟨0, 5, 6, 23⟩ [⟨0, 5, 10, 16⟩] (hTab.trans rfl) (fun z hz => absurd hz List.not_mem_nil) (by decide) (by decide) kc0 (va_Nw.use rfl hE.1.1) hce hcv hcl ?_
      refine w_clean g2 ?_
      have hS9 : va_S (va_A [] s.heap.size) s.heap H1 [] := ⟨Nat.le_of_succ_le g1, fun q h1 _ => g2 q h1, fun _ h => by cases h⟩
      refine lv_astore_n (lv' := [(2, .ref q9), (0, .ref (h 0)), (1, .int x)]) hx hb dL_waives_6 rfl hl (by decide) rfl (fun ls hl => ?_)
      refine lv_ldc hx hb hown kw0 dL_waives_7 ?_
      subst hQ
      exact W.iret (v := (-2000000001)) hx hb hr (fun t ht hW => ⟨⟨(-2000000001), (), rfl, rfl, by unfold tN; rw [ht]; exact g1⟩, hS9.F ht⟩) hS9.2.2 dL_waives_9
    · exact absurd (hv9.symm.trans hk) (by decide)
  · rw [qr] at hv9
    exact absurd (show (0 : Nat) = 1 from hv9) (by decide)
set_option maxHeartbeats 4000000 in
set_option maxRecDepth 100000 in
theorem eL_state (l : Launch) (hlt : l.stackTraces = false) (D : va_G) (h : Nat → Nat) (cA : ClassId) (x : Int32) (hv9 : (o_row M0 (m_an M0) (m_as M0) x).1 = 1) (sz : Nat) : Met l yL_state wsL_state ({ frames := 8, cells := 1, slots := 6, locals := 132 } : Room) (va_Pc [.ref (h 0), .int x] (fun U => pW D [(cA, .int)] (w0 h cA M0) sz U ∧ x_En U)) (va_Qi (fun (r : Int32) (_ : Unit) => r = (-2000000001)) (tN sz 1) (va_A [] sz)) 1 6 (va_A [] sz) := by
  refine va_MetW (cc := cL_state) (maxL := 3) (ret := (some .int)) (hh := [(0, 5, 6, 23)]) (by decide) rfl ?_
  intro p e s m args below meth c s₁ B hml hv
  obtain ⟨rfl, ⟨hsz, hP, hK, hD0⟩, hE⟩ := hv
  have hx := B.exec
  have hb := B.bytes
  have hr := B.returns
  have hts := atoms_spec (ws := wsL_state) B.pre
  have hown : s.vm.findClass RL = some m.cls := findClass_of_methodNamed B.named
  have hTab := vx_table (x := yL_state) B (hts (.codeWith yL_state cL_state 3 (some .int) [(0, 5, 6, 23)]) List.mem_cons_self)
  have kc0 := hts (.classLink RL 23 "java/lang/IndexOutOfBoundsException") (by decide +kernel)
  have kw0 := hts (.constant RL 25 (-2000000001)) (by decide +kernel)
  subst hsz
  have hD := hD0.self (sz := s.heap.size)
  have hA : ∀ q : Nat, s.heap.size ≤ q → va_A (w0 h cA M0) s.heap.size q := fun q h => Or.inr h
  have hS : va_S (va_A (w0 h cA M0) s.heap.size) s.heap s.heap [] := va_S.rf
  have hl := lv_entry ([.ref (h 0), .int x]) (n := 3) (Nat.le_of_ble_eq_true rfl)
  rw [lg_entry_eq]
  generalize (lg_sl ([.ref (h 0), .int x]) ++ List.replicate (3 - (lg_sl ([.ref (h 0), .int x])).length) Slot.unset).toArray = ls at hl ⊢
  have hl : lv_has ls 3 [(0, .ref (h 0)), (1, .int x)] := hl
  refine w_abs (fun Q hQ => ?_)
  refine lv_aload_n hx hb dL_state_0 rfl (lv_at hl 0 rfl) ?_
  refine lv_iload_n hx hb dL_state_1 rfl (lv_at hl 1 rfl) ?_
  refine g_calliX (wl := []) (wc := w0 h cA M0) (wr := []) (wf := fun u : MM => w0 h cA u) (vx_runV (As := [.int x]) (rest := []) ⟨hx, hb, hml, hown, hts⟩ (c0_state l hlt D h cA M0 ok0 x s.heap.size) (cwV 1 hts gL_state_X0_state rfl rfl rfl (by decide +kernel) ⟨Nat.le_of_ble_eq_true rfl, Nat.le_of_ble_eq_true rfl⟩) ⟨pE_fb pW_fb, va_recv hK hP (ci := 0) (q0 := 0) rfl rfl, pE_mk rfl (pW_mk hP hK hD) hE⟩ rfl rfl hl.1 rfl (lv_room (Nat.le_of_ble_eq_true rfl)) dL_state_2 ⟨Nat.le_of_ble_eq_true rfl, Nat.le_of_ble_eq_true rfl⟩) (List.append_nil _).symm hP hD hS hA (fun E ce q9 H1 locs1 hpx g1 g2 hP1 hS1 hce hcv hcl => ?_) (fun r u H locs qr hP hD hS => ?_)
  · obtain ⟨rfl, hk⟩ := hpx
    refine vx_catch (own := RL) (name := E_io) (E := E_io) hown [] ⟨0, 5, 6, 23⟩ [] (hTab.trans rfl) (fun z hz => absurd hz List.not_mem_nil) (by decide) (by decide) kc0 (va_Nw.use rfl hE.1.1) hce hcv hcl ?_
    refine w_clean g2 ?_
    have hS9 : va_S (va_A [] s.heap.size) s.heap H1 [] := ⟨Nat.le_of_succ_le g1, fun q h1 _ => g2 q h1, fun _ h => by cases h⟩
    refine lv_astore_n (lv' := [(2, .ref q9), (0, .ref (h 0)), (1, .int x)]) hx hb dL_state_6 rfl hl (by decide) rfl (fun ls hl => ?_)
    refine lv_ldc hx hb hown kw0 dL_state_7 ?_
    subst hQ
    exact W.iret (v := (-2000000001)) hx hb hr (fun t ht hW => ⟨⟨(-2000000001), (), rfl, rfl, by unfold tN; rw [ht]; exact g1⟩, hS9.F ht⟩) hS9.2.2 dL_state_9
  · rw [qr] at hv9
    exact absurd (show (0 : Nat) = 1 from hv9) (by decide)
set_option maxHeartbeats 4000000 in
set_option maxRecDepth 100000 in
theorem eL_amount (l : Launch) (hlt : l.stackTraces = false) (D : va_G) (h : Nat → Nat) (cA : ClassId) (x : Int32) (hv9 : (o_row M0 (m_an M0) (m_aa M0) x).1 = 1) (sz : Nat) : Met l yL_amount wsL_amount ({ frames := 8, cells := 1, slots := 6, locals := 132 } : Room) (va_Pc [.ref (h 0), .int x] (fun U => pW D [(cA, .int)] (w0 h cA M0) sz U ∧ x_En U)) (va_Qi (fun (r : Int32) (_ : Unit) => r = (-2000000001)) (tN sz 1) (va_A [] sz)) 1 6 (va_A [] sz) := by
  refine va_MetW (cc := cL_amount) (maxL := 3) (ret := (some .int)) (hh := [(0, 5, 6, 23)]) (by decide) rfl ?_
  intro p e s m args below meth c s₁ B hml hv
  obtain ⟨rfl, ⟨hsz, hP, hK, hD0⟩, hE⟩ := hv
  have hx := B.exec
  have hb := B.bytes
  have hr := B.returns
  have hts := atoms_spec (ws := wsL_amount) B.pre
  have hown : s.vm.findClass RL = some m.cls := findClass_of_methodNamed B.named
  have hTab := vx_table (x := yL_amount) B (hts (.codeWith yL_amount cL_amount 3 (some .int) [(0, 5, 6, 23)]) List.mem_cons_self)
  have kc0 := hts (.classLink RL 23 "java/lang/IndexOutOfBoundsException") (by decide +kernel)
  have kw0 := hts (.constant RL 25 (-2000000001)) (by decide +kernel)
  subst hsz
  have hD := hD0.self (sz := s.heap.size)
  have hA : ∀ q : Nat, s.heap.size ≤ q → va_A (w0 h cA M0) s.heap.size q := fun q h => Or.inr h
  have hS : va_S (va_A (w0 h cA M0) s.heap.size) s.heap s.heap [] := va_S.rf
  have hl := lv_entry ([.ref (h 0), .int x]) (n := 3) (Nat.le_of_ble_eq_true rfl)
  rw [lg_entry_eq]
  generalize (lg_sl ([.ref (h 0), .int x]) ++ List.replicate (3 - (lg_sl ([.ref (h 0), .int x])).length) Slot.unset).toArray = ls at hl ⊢
  have hl : lv_has ls 3 [(0, .ref (h 0)), (1, .int x)] := hl
  refine w_abs (fun Q hQ => ?_)
  refine lv_aload_n hx hb dL_amount_0 rfl (lv_at hl 0 rfl) ?_
  refine lv_iload_n hx hb dL_amount_1 rfl (lv_at hl 1 rfl) ?_
  refine g_calliX (wl := []) (wc := w0 h cA M0) (wr := []) (wf := fun u : MM => w0 h cA u) (vx_runV (As := [.int x]) (rest := []) ⟨hx, hb, hml, hown, hts⟩ (c0_amount l hlt D h cA M0 ok0 x s.heap.size) (cwV 1 hts gL_amount_X0_amount rfl rfl rfl (by decide +kernel) ⟨Nat.le_of_ble_eq_true rfl, Nat.le_of_ble_eq_true rfl⟩) ⟨pE_fb pW_fb, va_recv hK hP (ci := 0) (q0 := 0) rfl rfl, pE_mk rfl (pW_mk hP hK hD) hE⟩ rfl rfl hl.1 rfl (lv_room (Nat.le_of_ble_eq_true rfl)) dL_amount_2 ⟨Nat.le_of_ble_eq_true rfl, Nat.le_of_ble_eq_true rfl⟩) (List.append_nil _).symm hP hD hS hA (fun E ce q9 H1 locs1 hpx g1 g2 hP1 hS1 hce hcv hcl => ?_) (fun r u H locs qr hP hD hS => ?_)
  · obtain ⟨rfl, hk⟩ := hpx
    refine vx_catch (own := RL) (name := E_io) (E := E_io) hown [] ⟨0, 5, 6, 23⟩ [] (hTab.trans rfl) (fun z hz => absurd hz List.not_mem_nil) (by decide) (by decide) kc0 (va_Nw.use rfl hE.1.1) hce hcv hcl ?_
    refine w_clean g2 ?_
    have hS9 : va_S (va_A [] s.heap.size) s.heap H1 [] := ⟨Nat.le_of_succ_le g1, fun q h1 _ => g2 q h1, fun _ h => by cases h⟩
    refine lv_astore_n (lv' := [(2, .ref q9), (0, .ref (h 0)), (1, .int x)]) hx hb dL_amount_6 rfl hl (by decide) rfl (fun ls hl => ?_)
    refine lv_ldc hx hb hown kw0 dL_amount_7 ?_
    subst hQ
    exact W.iret (v := (-2000000001)) hx hb hr (fun t ht hW => ⟨⟨(-2000000001), (), rfl, rfl, by unfold tN; rw [ht]; exact g1⟩, hS9.F ht⟩) hS9.2.2 dL_amount_9
  · rw [qr] at hv9
    exact absurd (show (0 : Nat) = 1 from hv9) (by decide)
set_option maxHeartbeats 4000000 in
set_option maxRecDepth 100000 in
theorem eL_billedBehind (l : Launch) (hlt : l.stackTraces = false) (D : va_G) (h : Nat → Nat) (cA : ClassId) (x : Int32) (hv9 : (o_row M0 (m_an M0) (m_ab M0) x).1 = 1) (sz : Nat) : Met l yL_billedBehind wsL_billedBehind ({ frames := 8, cells := 1, slots := 6, locals := 132 } : Room) (va_Pc [.ref (h 0), .int x] (fun U => pW D [(cA, .int)] (w0 h cA M0) sz U ∧ x_En U)) (va_Qi (fun (r : Int32) (_ : Unit) => r = (-2000000001)) (tN sz 1) (va_A [] sz)) 1 6 (va_A [] sz) := by
  refine va_MetW (cc := cL_billedBehind) (maxL := 3) (ret := (some .int)) (hh := [(0, 5, 6, 23)]) (by decide) rfl ?_
  intro p e s m args below meth c s₁ B hml hv
  obtain ⟨rfl, ⟨hsz, hP, hK, hD0⟩, hE⟩ := hv
  have hx := B.exec
  have hb := B.bytes
  have hr := B.returns
  have hts := atoms_spec (ws := wsL_billedBehind) B.pre
  have hown : s.vm.findClass RL = some m.cls := findClass_of_methodNamed B.named
  have hTab := vx_table (x := yL_billedBehind) B (hts (.codeWith yL_billedBehind cL_billedBehind 3 (some .int) [(0, 5, 6, 23)]) List.mem_cons_self)
  have kc0 := hts (.classLink RL 23 "java/lang/IndexOutOfBoundsException") (by decide +kernel)
  have kw0 := hts (.constant RL 25 (-2000000001)) (by decide +kernel)
  subst hsz
  have hD := hD0.self (sz := s.heap.size)
  have hA : ∀ q : Nat, s.heap.size ≤ q → va_A (w0 h cA M0) s.heap.size q := fun q h => Or.inr h
  have hS : va_S (va_A (w0 h cA M0) s.heap.size) s.heap s.heap [] := va_S.rf
  have hl := lv_entry ([.ref (h 0), .int x]) (n := 3) (Nat.le_of_ble_eq_true rfl)
  rw [lg_entry_eq]
  generalize (lg_sl ([.ref (h 0), .int x]) ++ List.replicate (3 - (lg_sl ([.ref (h 0), .int x])).length) Slot.unset).toArray = ls at hl ⊢
  have hl : lv_has ls 3 [(0, .ref (h 0)), (1, .int x)] := hl
  refine w_abs (fun Q hQ => ?_)
  refine lv_aload_n hx hb dL_billedBehind_0 rfl (lv_at hl 0 rfl) ?_
  refine lv_iload_n hx hb dL_billedBehind_1 rfl (lv_at hl 1 rfl) ?_
  refine g_calliX (wl := []) (wc := w0 h cA M0) (wr := []) (wf := fun u : MM => w0 h cA u) (vx_runV (As := [.int x]) (rest := []) ⟨hx, hb, hml, hown, hts⟩ (c0_billedBehind l hlt D h cA M0 ok0 x s.heap.size) (cwV 1 hts gL_billedBehind_X0_billedBehind rfl rfl rfl (by decide +kernel) ⟨Nat.le_of_ble_eq_true rfl, Nat.le_of_ble_eq_true rfl⟩) ⟨pE_fb pW_fb, va_recv hK hP (ci := 0) (q0 := 0) rfl rfl, pE_mk rfl (pW_mk hP hK hD) hE⟩ rfl rfl hl.1 rfl (lv_room (Nat.le_of_ble_eq_true rfl)) dL_billedBehind_2 ⟨Nat.le_of_ble_eq_true rfl, Nat.le_of_ble_eq_true rfl⟩) (List.append_nil _).symm hP hD hS hA (fun E ce q9 H1 locs1 hpx g1 g2 hP1 hS1 hce hcv hcl => ?_) (fun r u H locs qr hP hD hS => ?_)
  · obtain ⟨rfl, hk⟩ := hpx
    refine vx_catch (own := RL) (name := E_io) (E := E_io) hown [] ⟨0, 5, 6, 23⟩ [] (hTab.trans rfl) (fun z hz => absurd hz List.not_mem_nil) (by decide) (by decide) kc0 (va_Nw.use rfl hE.1.1) hce hcv hcl ?_
    refine w_clean g2 ?_
    have hS9 : va_S (va_A [] s.heap.size) s.heap H1 [] := ⟨Nat.le_of_succ_le g1, fun q h1 _ => g2 q h1, fun _ h => by cases h⟩
    refine lv_astore_n (lv' := [(2, .ref q9), (0, .ref (h 0)), (1, .int x)]) hx hb dL_billedBehind_6 rfl hl (by decide) rfl (fun ls hl => ?_)
    refine lv_ldc hx hb hown kw0 dL_billedBehind_7 ?_
    subst hQ
    exact W.iret (v := (-2000000001)) hx hb hr (fun t ht hW => ⟨⟨(-2000000001), (), rfl, rfl, by unfold tN; rw [ht]; exact g1⟩, hS9.F ht⟩) hS9.2.2 dL_billedBehind_9
  · rw [qr] at hv9
    exact absurd (show (0 : Nat) = 1 from hv9) (by decide)
set_option maxHeartbeats 4000000 in
set_option maxRecDepth 100000 in
theorem eL_heldBehind (l : Launch) (hlt : l.stackTraces = false) (D : va_G) (h : Nat → Nat) (cA : ClassId) (x : Int32) (hv9 : (o_row M0 (m_an M0) (m_ah M0) x).1 = 1) (sz : Nat) : Met l yL_heldBehind wsL_heldBehind ({ frames := 8, cells := 1, slots := 6, locals := 132 } : Room) (va_Pc [.ref (h 0), .int x] (fun U => pW D [(cA, .int)] (w0 h cA M0) sz U ∧ x_En U)) (va_Qi (fun (r : Int32) (_ : Unit) => r = (-2000000001)) (tN sz 1) (va_A [] sz)) 1 6 (va_A [] sz) := by
  refine va_MetW (cc := cL_heldBehind) (maxL := 3) (ret := (some .int)) (hh := [(0, 5, 6, 23)]) (by decide) rfl ?_
  intro p e s m args below meth c s₁ B hml hv
  obtain ⟨rfl, ⟨hsz, hP, hK, hD0⟩, hE⟩ := hv
  have hx := B.exec
  have hb := B.bytes
  have hr := B.returns
  have hts := atoms_spec (ws := wsL_heldBehind) B.pre
  have hown : s.vm.findClass RL = some m.cls := findClass_of_methodNamed B.named
  have hTab := vx_table (x := yL_heldBehind) B (hts (.codeWith yL_heldBehind cL_heldBehind 3 (some .int) [(0, 5, 6, 23)]) List.mem_cons_self)
  have kc0 := hts (.classLink RL 23 "java/lang/IndexOutOfBoundsException") (by decide +kernel)
  have kw0 := hts (.constant RL 25 (-2000000001)) (by decide +kernel)
  subst hsz
  have hD := hD0.self (sz := s.heap.size)
  have hA : ∀ q : Nat, s.heap.size ≤ q → va_A (w0 h cA M0) s.heap.size q := fun q h => Or.inr h
  have hS : va_S (va_A (w0 h cA M0) s.heap.size) s.heap s.heap [] := va_S.rf
  have hl := lv_entry ([.ref (h 0), .int x]) (n := 3) (Nat.le_of_ble_eq_true rfl)
  rw [lg_entry_eq]
  generalize (lg_sl ([.ref (h 0), .int x]) ++ List.replicate (3 - (lg_sl ([.ref (h 0), .int x])).length) Slot.unset).toArray = ls at hl ⊢
  have hl : lv_has ls 3 [(0, .ref (h 0)), (1, .int x)] := hl
  refine w_abs (fun Q hQ => ?_)
  refine lv_aload_n hx hb dL_heldBehind_0 rfl (lv_at hl 0 rfl) ?_
  refine lv_iload_n hx hb dL_heldBehind_1 rfl (lv_at hl 1 rfl) ?_
  refine g_calliX (wl := []) (wc := w0 h cA M0) (wr := []) (wf := fun u : MM => w0 h cA u) (vx_runV (As := [.int x]) (rest := []) ⟨hx, hb, hml, hown, hts⟩ (c0_heldBehind l hlt D h cA M0 ok0 x s.heap.size) (cwV 1 hts gL_heldBehind_X0_heldBehind rfl rfl rfl (by decide +kernel) ⟨Nat.le_of_ble_eq_true rfl, Nat.le_of_ble_eq_true rfl⟩) ⟨pE_fb pW_fb, va_recv hK hP (ci := 0) (q0 := 0) rfl rfl, pE_mk rfl (pW_mk hP hK hD) hE⟩ rfl rfl hl.1 rfl (lv_room (Nat.le_of_ble_eq_true rfl)) dL_heldBehind_2 ⟨Nat.le_of_ble_eq_true rfl, Nat.le_of_ble_eq_true rfl⟩) (List.append_nil _).symm hP hD hS hA (fun E ce q9 H1 locs1 hpx g1 g2 hP1 hS1 hce hcv hcl => ?_) (fun r u H locs qr hP hD hS => ?_)
  · obtain ⟨rfl, hk⟩ := hpx
    refine vx_catch (own := RL) (name := E_io) (E := E_io) hown [] ⟨0, 5, 6, 23⟩ [] (hTab.trans rfl) (fun z hz => absurd hz List.not_mem_nil) (by decide) (by decide) kc0 (va_Nw.use rfl hE.1.1) hce hcv hcl ?_
    refine w_clean g2 ?_
    have hS9 : va_S (va_A [] s.heap.size) s.heap H1 [] := ⟨Nat.le_of_succ_le g1, fun q h1 _ => g2 q h1, fun _ h => by cases h⟩
    refine lv_astore_n (lv' := [(2, .ref q9), (0, .ref (h 0)), (1, .int x)]) hx hb dL_heldBehind_6 rfl hl (by decide) rfl (fun ls hl => ?_)
    refine lv_ldc hx hb hown kw0 dL_heldBehind_7 ?_
    subst hQ
    exact W.iret (v := (-2000000001)) hx hb hr (fun t ht hW => ⟨⟨(-2000000001), (), rfl, rfl, by unfold tN; rw [ht]; exact g1⟩, hS9.F ht⟩) hS9.2.2 dL_heldBehind_9
  · rw [qr] at hv9
    exact absurd (show (0 : Nat) = 1 from hv9) (by decide)
set_option maxHeartbeats 4000000 in
set_option maxRecDepth 100000 in
theorem eL_value (l : Launch) (hlt : l.stackTraces = false) (D : va_G) (h : Nat → Nat) (cA : ClassId) (x : Int32) (hv9 : (o_row M0 (m_ln M0) (m_lv M0) x).1 = 1) (sz : Nat) : Met l yL_value wsL_value ({ frames := 8, cells := 1, slots := 6, locals := 132 } : Room) (va_Pc [.ref (h 0), .int x] (fun U => pW D [(cA, .int)] (w0 h cA M0) sz U ∧ x_En U)) (va_Qi (fun (r : Int32) (_ : Unit) => r = (-2000000001)) (tN sz 1) (va_A [] sz)) 1 6 (va_A [] sz) := by
  refine va_MetW (cc := cL_value) (maxL := 3) (ret := (some .int)) (hh := [(0, 5, 6, 23)]) (by decide) rfl ?_
  intro p e s m args below meth c s₁ B hml hv
  obtain ⟨rfl, ⟨hsz, hP, hK, hD0⟩, hE⟩ := hv
  have hx := B.exec
  have hb := B.bytes
  have hr := B.returns
  have hts := atoms_spec (ws := wsL_value) B.pre
  have hown : s.vm.findClass RL = some m.cls := findClass_of_methodNamed B.named
  have hTab := vx_table (x := yL_value) B (hts (.codeWith yL_value cL_value 3 (some .int) [(0, 5, 6, 23)]) List.mem_cons_self)
  have kc0 := hts (.classLink RL 23 "java/lang/IndexOutOfBoundsException") (by decide +kernel)
  have kw0 := hts (.constant RL 25 (-2000000001)) (by decide +kernel)
  subst hsz
  have hD := hD0.self (sz := s.heap.size)
  have hA : ∀ q : Nat, s.heap.size ≤ q → va_A (w0 h cA M0) s.heap.size q := fun q h => Or.inr h
  have hS : va_S (va_A (w0 h cA M0) s.heap.size) s.heap s.heap [] := va_S.rf
  have hl := lv_entry ([.ref (h 0), .int x]) (n := 3) (Nat.le_of_ble_eq_true rfl)
  rw [lg_entry_eq]
  generalize (lg_sl ([.ref (h 0), .int x]) ++ List.replicate (3 - (lg_sl ([.ref (h 0), .int x])).length) Slot.unset).toArray = ls at hl ⊢
  have hl : lv_has ls 3 [(0, .ref (h 0)), (1, .int x)] := hl
  refine w_abs (fun Q hQ => ?_)
  refine lv_aload_n hx hb dL_value_0 rfl (lv_at hl 0 rfl) ?_
  refine lv_iload_n hx hb dL_value_1 rfl (lv_at hl 1 rfl) ?_
  refine g_calliX (wl := []) (wc := w0 h cA M0) (wr := []) (wf := fun u : MM => w0 h cA u) (vx_runV (As := [.int x]) (rest := []) ⟨hx, hb, hml, hown, hts⟩ (c0_value l hlt D h cA M0 ok0 x s.heap.size) (cwV 1 hts gL_value_X0_value rfl rfl rfl (by decide +kernel) ⟨Nat.le_of_ble_eq_true rfl, Nat.le_of_ble_eq_true rfl⟩) ⟨pE_fb pW_fb, va_recv hK hP (ci := 0) (q0 := 0) rfl rfl, pE_mk rfl (pW_mk hP hK hD) hE⟩ rfl rfl hl.1 rfl (lv_room (Nat.le_of_ble_eq_true rfl)) dL_value_2 ⟨Nat.le_of_ble_eq_true rfl, Nat.le_of_ble_eq_true rfl⟩) (List.append_nil _).symm hP hD hS hA (fun E ce q9 H1 locs1 hpx g1 g2 hP1 hS1 hce hcv hcl => ?_) (fun r u H locs qr hP hD hS => ?_)
  · obtain ⟨rfl, hk⟩ := hpx
    refine vx_catch (own := RL) (name := E_io) (E := E_io) hown [] ⟨0, 5, 6, 23⟩ [] (hTab.trans rfl) (fun z hz => absurd hz List.not_mem_nil) (by decide) (by decide) kc0 (va_Nw.use rfl hE.1.1) hce hcv hcl ?_
    refine w_clean g2 ?_
    have hS9 : va_S (va_A [] s.heap.size) s.heap H1 [] := ⟨Nat.le_of_succ_le g1, fun q h1 _ => g2 q h1, fun _ h => by cases h⟩
    refine lv_astore_n (lv' := [(2, .ref q9), (0, .ref (h 0)), (1, .int x)]) hx hb dL_value_6 rfl hl (by decide) rfl (fun ls hl => ?_)
    refine lv_ldc hx hb hown kw0 dL_value_7 ?_
    subst hQ
    exact W.iret (v := (-2000000001)) hx hb hr (fun t ht hW => ⟨⟨(-2000000001), (), rfl, rfl, by unfold tN; rw [ht]; exact g1⟩, hS9.F ht⟩) hS9.2.2 dL_value_9
  · rw [qr] at hv9
    exact absurd (show (0 : Nat) = 1 from hv9) (by decide)
set_option maxHeartbeats 4000000 in
set_option maxRecDepth 100000 in
theorem eL_work (l : Launch) (hlt : l.stackTraces = false) (D : va_G) (h : Nat → Nat) (cA : ClassId) (x : Int32) (hv9 : (o_row M0 (m_ln M0) (m_lw M0) x).1 = 1) (sz : Nat) : Met l yL_work wsL_work ({ frames := 8, cells := 1, slots := 6, locals := 132 } : Room) (va_Pc [.ref (h 0), .int x] (fun U => pW D [(cA, .int)] (w0 h cA M0) sz U ∧ x_En U)) (va_Qi (fun (r : Int32) (_ : Unit) => r = (-2000000001)) (tN sz 1) (va_A [] sz)) 1 6 (va_A [] sz) := by
  refine va_MetW (cc := cL_work) (maxL := 3) (ret := (some .int)) (hh := [(0, 5, 6, 23)]) (by decide) rfl ?_
  intro p e s m args below meth c s₁ B hml hv
  obtain ⟨rfl, ⟨hsz, hP, hK, hD0⟩, hE⟩ := hv
  have hx := B.exec
  have hb := B.bytes
  have hr := B.returns
  have hts := atoms_spec (ws := wsL_work) B.pre
  have hown : s.vm.findClass RL = some m.cls := findClass_of_methodNamed B.named
  have hTab := vx_table (x := yL_work) B (hts (.codeWith yL_work cL_work 3 (some .int) [(0, 5, 6, 23)]) List.mem_cons_self)
  have kc0 := hts (.classLink RL 23 "java/lang/IndexOutOfBoundsException") (by decide +kernel)
  have kw0 := hts (.constant RL 25 (-2000000001)) (by decide +kernel)
  subst hsz
  have hD := hD0.self (sz := s.heap.size)
  have hA : ∀ q : Nat, s.heap.size ≤ q → va_A (w0 h cA M0) s.heap.size q := fun q h => Or.inr h
  have hS : va_S (va_A (w0 h cA M0) s.heap.size) s.heap s.heap [] := va_S.rf
  have hl := lv_entry ([.ref (h 0), .int x]) (n := 3) (Nat.le_of_ble_eq_true rfl)
  rw [lg_entry_eq]
  generalize (lg_sl ([.ref (h 0), .int x]) ++ List.replicate (3 - (lg_sl ([.ref (h 0), .int x])).length) Slot.unset).toArray = ls at hl ⊢
  have hl : lv_has ls 3 [(0, .ref (h 0)), (1, .int x)] := hl
  refine w_abs (fun Q hQ => ?_)
  refine lv_aload_n hx hb dL_work_0 rfl (lv_at hl 0 rfl) ?_
  refine lv_iload_n hx hb dL_work_1 rfl (lv_at hl 1 rfl) ?_
  refine g_calliX (wl := []) (wc := w0 h cA M0) (wr := []) (wf := fun u : MM => w0 h cA u) (vx_runV (As := [.int x]) (rest := []) ⟨hx, hb, hml, hown, hts⟩ (c0_work l hlt D h cA M0 ok0 x s.heap.size) (cwV 1 hts gL_work_X0_work rfl rfl rfl (by decide +kernel) ⟨Nat.le_of_ble_eq_true rfl, Nat.le_of_ble_eq_true rfl⟩) ⟨pE_fb pW_fb, va_recv hK hP (ci := 0) (q0 := 0) rfl rfl, pE_mk rfl (pW_mk hP hK hD) hE⟩ rfl rfl hl.1 rfl (lv_room (Nat.le_of_ble_eq_true rfl)) dL_work_2 ⟨Nat.le_of_ble_eq_true rfl, Nat.le_of_ble_eq_true rfl⟩) (List.append_nil _).symm hP hD hS hA (fun E ce q9 H1 locs1 hpx g1 g2 hP1 hS1 hce hcv hcl => ?_) (fun r u H locs qr hP hD hS => ?_)
  · obtain ⟨rfl, hk⟩ := hpx
    refine vx_catch (own := RL) (name := E_io) (E := E_io) hown [] ⟨0, 5, 6, 23⟩ [] (hTab.trans rfl) (fun z hz => absurd hz List.not_mem_nil) (by decide) (by decide) kc0 (va_Nw.use rfl hE.1.1) hce hcv hcl ?_
    refine w_clean g2 ?_
    have hS9 : va_S (va_A [] s.heap.size) s.heap H1 [] := ⟨Nat.le_of_succ_le g1, fun q h1 _ => g2 q h1, fun _ h => by cases h⟩
    refine lv_astore_n (lv' := [(2, .ref q9), (0, .ref (h 0)), (1, .int x)]) hx hb dL_work_6 rfl hl (by decide) rfl (fun ls hl => ?_)
    refine lv_ldc hx hb hown kw0 dL_work_7 ?_
    subst hQ
    exact W.iret (v := (-2000000001)) hx hb hr (fun t ht hW => ⟨⟨(-2000000001), (), rfl, rfl, by unfold tN; rw [ht]; exact g1⟩, hS9.F ht⟩) hS9.2.2 dL_work_9
  · rw [qr] at hv9
    exact absurd (show (0 : Nat) = 1 from hv9) (by decide)
set_option maxHeartbeats 4000000 in
set_option maxRecDepth 100000 in
theorem eL_goods (l : Launch) (hlt : l.stackTraces = false) (D : va_G) (h : Nat → Nat) (cA : ClassId) (x : Int32) (hv9 : (o_row M0 (m_ln M0) (fun i => m_le M0 i - m_lw M0 i) x).1 = 1) (sz : Nat) : Met l yL_goods wsL_goods ({ frames := 8, cells := 1, slots := 6, locals := 132 } : Room) (va_Pc [.ref (h 0), .int x] (fun U => pW D [(cA, .int)] (w0 h cA M0) sz U ∧ x_En U)) (va_Qi (fun (r : Int32) (_ : Unit) => r = (-2000000001)) (tN sz 1) (va_A [] sz)) 1 6 (va_A [] sz) := by
  refine va_MetW (cc := cL_goods) (maxL := 3) (ret := (some .int)) (hh := [(0, 5, 6, 23)]) (by decide) rfl ?_
  intro p e s m args below meth c s₁ B hml hv
  obtain ⟨rfl, ⟨hsz, hP, hK, hD0⟩, hE⟩ := hv
  have hx := B.exec
  have hb := B.bytes
  have hr := B.returns
  have hts := atoms_spec (ws := wsL_goods) B.pre
  have hown : s.vm.findClass RL = some m.cls := findClass_of_methodNamed B.named
  have hTab := vx_table (x := yL_goods) B (hts (.codeWith yL_goods cL_goods 3 (some .int) [(0, 5, 6, 23)]) List.mem_cons_self)
  have kc0 := hts (.classLink RL 23 "java/lang/IndexOutOfBoundsException") (by decide +kernel)
  have kw0 := hts (.constant RL 25 (-2000000001)) (by decide +kernel)
  subst hsz
  have hD := hD0.self (sz := s.heap.size)
  have hA : ∀ q : Nat, s.heap.size ≤ q → va_A (w0 h cA M0) s.heap.size q := fun q h => Or.inr h
  have hS : va_S (va_A (w0 h cA M0) s.heap.size) s.heap s.heap [] := va_S.rf
  have hl := lv_entry ([.ref (h 0), .int x]) (n := 3) (Nat.le_of_ble_eq_true rfl)
  rw [lg_entry_eq]
  generalize (lg_sl ([.ref (h 0), .int x]) ++ List.replicate (3 - (lg_sl ([.ref (h 0), .int x])).length) Slot.unset).toArray = ls at hl ⊢
  have hl : lv_has ls 3 [(0, .ref (h 0)), (1, .int x)] := hl
  refine w_abs (fun Q hQ => ?_)
  refine lv_aload_n hx hb dL_goods_0 rfl (lv_at hl 0 rfl) ?_
  refine lv_iload_n hx hb dL_goods_1 rfl (lv_at hl 1 rfl) ?_
  refine g_calliX (wl := []) (wc := w0 h cA M0) (wr := []) (wf := fun u : MM => w0 h cA u) (vx_runV (As := [.int x]) (rest := []) ⟨hx, hb, hml, hown, hts⟩ (c0_goods l hlt D h cA M0 ok0 x s.heap.size) (cwV 1 hts gL_goods_X0_goods rfl rfl rfl (by decide +kernel) ⟨Nat.le_of_ble_eq_true rfl, Nat.le_of_ble_eq_true rfl⟩) ⟨pE_fb pW_fb, va_recv hK hP (ci := 0) (q0 := 0) rfl rfl, pE_mk rfl (pW_mk hP hK hD) hE⟩ rfl rfl hl.1 rfl (lv_room (Nat.le_of_ble_eq_true rfl)) dL_goods_2 ⟨Nat.le_of_ble_eq_true rfl, Nat.le_of_ble_eq_true rfl⟩) (List.append_nil _).symm hP hD hS hA (fun E ce q9 H1 locs1 hpx g1 g2 hP1 hS1 hce hcv hcl => ?_) (fun r u H locs qr hP hD hS => ?_)
  · obtain ⟨rfl, hk⟩ := hpx
    refine vx_catch (own := RL) (name := E_io) (E := E_io) hown [] ⟨0, 5, 6, 23⟩ [] (hTab.trans rfl) (fun z hz => absurd hz List.not_mem_nil) (by decide) (by decide) kc0 (va_Nw.use rfl hE.1.1) hce hcv hcl ?_
    refine w_clean g2 ?_
    have hS9 : va_S (va_A [] s.heap.size) s.heap H1 [] := ⟨Nat.le_of_succ_le g1, fun q h1 _ => g2 q h1, fun _ h => by cases h⟩
    refine lv_astore_n (lv' := [(2, .ref q9), (0, .ref (h 0)), (1, .int x)]) hx hb dL_goods_6 rfl hl (by decide) rfl (fun ls hl => ?_)
    refine lv_ldc hx hb hown kw0 dL_goods_7 ?_
    subst hQ
    exact W.iret (v := (-2000000001)) hx hb hr (fun t ht hW => ⟨⟨(-2000000001), (), rfl, rfl, by unfold tN; rw [ht]; exact g1⟩, hS9.F ht⟩) hS9.2.2 dL_goods_9
  · rw [qr] at hv9
    exact absurd (show (0 : Nat) = 1 from hv9) (by decide)
set_option maxHeartbeats 4000000 in
set_option maxRecDepth 100000 in
theorem eL_billed (l : Launch) (hlt : l.stackTraces = false) (D : va_G) (h : Nat → Nat) (cA : ClassId) (x : Int32) (hv9 : (o_row M0 (m_ln M0) (m_lb M0) x).1 = 1) (sz : Nat) : Met l yL_billed wsL_billed ({ frames := 8, cells := 1, slots := 6, locals := 132 } : Room) (va_Pc [.ref (h 0), .int x] (fun U => pW D [(cA, .int)] (w0 h cA M0) sz U ∧ x_En U)) (va_Qi (fun (r : Int32) (_ : Unit) => r = (-2000000001)) (tN sz 1) (va_A [] sz)) 1 6 (va_A [] sz) := by
  refine va_MetW (cc := cL_billed) (maxL := 3) (ret := (some .int)) (hh := [(0, 5, 6, 23)]) (by decide) rfl ?_
  intro p e s m args below meth c s₁ B hml hv
  obtain ⟨rfl, ⟨hsz, hP, hK, hD0⟩, hE⟩ := hv
  have hx := B.exec
  have hb := B.bytes
  have hr := B.returns
  have hts := atoms_spec (ws := wsL_billed) B.pre
  have hown : s.vm.findClass RL = some m.cls := findClass_of_methodNamed B.named
  have hTab := vx_table (x := yL_billed) B (hts (.codeWith yL_billed cL_billed 3 (some .int) [(0, 5, 6, 23)]) List.mem_cons_self)
  have kc0 := hts (.classLink RL 23 "java/lang/IndexOutOfBoundsException") (by decide +kernel)
  have kw0 := hts (.constant RL 25 (-2000000001)) (by decide +kernel)
  subst hsz
  have hD := hD0.self (sz := s.heap.size)
  have hA : ∀ q : Nat, s.heap.size ≤ q → va_A (w0 h cA M0) s.heap.size q := fun q h => Or.inr h
  have hS : va_S (va_A (w0 h cA M0) s.heap.size) s.heap s.heap [] := va_S.rf
  have hl := lv_entry ([.ref (h 0), .int x]) (n := 3) (Nat.le_of_ble_eq_true rfl)
  rw [lg_entry_eq]
  generalize (lg_sl ([.ref (h 0), .int x]) ++ List.replicate (3 - (lg_sl ([.ref (h 0), .int x])).length) Slot.unset).toArray = ls at hl ⊢
  have hl : lv_has ls 3 [(0, .ref (h 0)), (1, .int x)] := hl
  refine w_abs (fun Q hQ => ?_)
  refine lv_aload_n hx hb dL_billed_0 rfl (lv_at hl 0 rfl) ?_
  refine lv_iload_n hx hb dL_billed_1 rfl (lv_at hl 1 rfl) ?_
  refine g_calliX (wl := []) (wc := w0 h cA M0) (wr := []) (wf := fun u : MM => w0 h cA u) (vx_runV (As := [.int x]) (rest := []) ⟨hx, hb, hml, hown, hts⟩ (c0_billed l hlt D h cA M0 ok0 x s.heap.size) (cwV 1 hts gL_billed_X0_billed rfl rfl rfl (by decide +kernel) ⟨Nat.le_of_ble_eq_true rfl, Nat.le_of_ble_eq_true rfl⟩) ⟨pE_fb pW_fb, va_recv hK hP (ci := 0) (q0 := 0) rfl rfl, pE_mk rfl (pW_mk hP hK hD) hE⟩ rfl rfl hl.1 rfl (lv_room (Nat.le_of_ble_eq_true rfl)) dL_billed_2 ⟨Nat.le_of_ble_eq_true rfl, Nat.le_of_ble_eq_true rfl⟩) (List.append_nil _).symm hP hD hS hA (fun E ce q9 H1 locs1 hpx g1 g2 hP1 hS1 hce hcv hcl => ?_) (fun r u H locs qr hP hD hS => ?_)
  · obtain ⟨rfl, hk⟩ := hpx
    refine vx_catch (own := RL) (name := E_io) (E := E_io) hown [] ⟨0, 5, 6, 23⟩ [] (hTab.trans rfl) (fun z hz => absurd hz List.not_mem_nil) (by decide) (by decide) kc0 (va_Nw.use rfl hE.1.1) hce hcv hcl ?_
    refine w_clean g2 ?_
    have hS9 : va_S (va_A [] s.heap.size) s.heap H1 [] := ⟨Nat.le_of_succ_le g1, fun q h1 _ => g2 q h1, fun _ h => by cases h⟩
    refine lv_astore_n (lv' := [(2, .ref q9), (0, .ref (h 0)), (1, .int x)]) hx hb dL_billed_6 rfl hl (by decide) rfl (fun ls hl => ?_)
    refine lv_ldc hx hb hown kw0 dL_billed_7 ?_
    subst hQ
    exact W.iret (v := (-2000000001)) hx hb hr (fun t ht hW => ⟨⟨(-2000000001), (), rfl, rfl, by unfold tN; rw [ht]; exact g1⟩, hS9.F ht⟩) hS9.2.2 dL_billed_9
  · rw [qr] at hv9
    exact absurd (show (0 : Nat) = 1 from hv9) (by decide)
set_option maxHeartbeats 4000000 in
set_option maxRecDepth 100000 in
theorem eL_held (l : Launch) (hlt : l.stackTraces = false) (D : va_G) (h : Nat → Nat) (cA : ClassId) (x : Int32) (hv9 : (o_row M0 (m_ln M0) (m_lh M0) x).1 = 1) (sz : Nat) : Met l yL_held wsL_held ({ frames := 8, cells := 1, slots := 6, locals := 132 } : Room) (va_Pc [.ref (h 0), .int x] (fun U => pW D [(cA, .int)] (w0 h cA M0) sz U ∧ x_En U)) (va_Qi (fun (r : Int32) (_ : Unit) => r = (-2000000001)) (tN sz 1) (va_A [] sz)) 1 6 (va_A [] sz) := by
  refine va_MetW (cc := cL_held) (maxL := 3) (ret := (some .int)) (hh := [(0, 5, 6, 23)]) (by decide) rfl ?_
  intro p e s m args below meth c s₁ B hml hv
  obtain ⟨rfl, ⟨hsz, hP, hK, hD0⟩, hE⟩ := hv
  have hx := B.exec
  have hb := B.bytes
  have hr := B.returns
  have hts := atoms_spec (ws := wsL_held) B.pre
  have hown : s.vm.findClass RL = some m.cls := findClass_of_methodNamed B.named
  have hTab := vx_table (x := yL_held) B (hts (.codeWith yL_held cL_held 3 (some .int) [(0, 5, 6, 23)]) List.mem_cons_self)
  have kc0 := hts (.classLink RL 23 "java/lang/IndexOutOfBoundsException") (by decide +kernel)
  have kw0 := hts (.constant RL 25 (-2000000001)) (by decide +kernel)
  subst hsz
  have hD := hD0.self (sz := s.heap.size)
  have hA : ∀ q : Nat, s.heap.size ≤ q → va_A (w0 h cA M0) s.heap.size q := fun q h => Or.inr h
  have hS : va_S (va_A (w0 h cA M0) s.heap.size) s.heap s.heap [] := va_S.rf
  have hl := lv_entry ([.ref (h 0), .int x]) (n := 3) (Nat.le_of_ble_eq_true rfl)
  rw [lg_entry_eq]
  generalize (lg_sl ([.ref (h 0), .int x]) ++ List.replicate (3 - (lg_sl ([.ref (h 0), .int x])).length) Slot.unset).toArray = ls at hl ⊢
  have hl : lv_has ls 3 [(0, .ref (h 0)), (1, .int x)] := hl
  refine w_abs (fun Q hQ => ?_)
  refine lv_aload_n hx hb dL_held_0 rfl (lv_at hl 0 rfl) ?_
  refine lv_iload_n hx hb dL_held_1 rfl (lv_at hl 1 rfl) ?_
  refine g_calliX (wl := []) (wc := w0 h cA M0) (wr := []) (wf := fun u : MM => w0 h cA u) (vx_runV (As := [.int x]) (rest := []) ⟨hx, hb, hml, hown, hts⟩ (c0_held l hlt D h cA M0 ok0 x s.heap.size) (cwV 1 hts gL_held_X0_held rfl rfl rfl (by decide +kernel) ⟨Nat.le_of_ble_eq_true rfl, Nat.le_of_ble_eq_true rfl⟩) ⟨pE_fb pW_fb, va_recv hK hP (ci := 0) (q0 := 0) rfl rfl, pE_mk rfl (pW_mk hP hK hD) hE⟩ rfl rfl hl.1 rfl (lv_room (Nat.le_of_ble_eq_true rfl)) dL_held_2 ⟨Nat.le_of_ble_eq_true rfl, Nat.le_of_ble_eq_true rfl⟩) (List.append_nil _).symm hP hD hS hA (fun E ce q9 H1 locs1 hpx g1 g2 hP1 hS1 hce hcv hcl => ?_) (fun r u H locs qr hP hD hS => ?_)
  · obtain ⟨rfl, hk⟩ := hpx
    refine vx_catch (own := RL) (name := E_io) (E := E_io) hown [] ⟨0, 5, 6, 23⟩ [] (hTab.trans rfl) (fun z hz => absurd hz List.not_mem_nil) (by decide) (by decide) kc0 (va_Nw.use rfl hE.1.1) hce hcv hcl ?_
    refine w_clean g2 ?_
    have hS9 : va_S (va_A [] s.heap.size) s.heap H1 [] := ⟨Nat.le_of_succ_le g1, fun q h1 _ => g2 q h1, fun _ h => by cases h⟩
    refine lv_astore_n (lv' := [(2, .ref q9), (0, .ref (h 0)), (1, .int x)]) hx hb dL_held_6 rfl hl (by decide) rfl (fun ls hl => ?_)
    refine lv_ldc hx hb hown kw0 dL_held_7 ?_
    subst hQ
    exact W.iret (v := (-2000000001)) hx hb hr (fun t ht hW => ⟨⟨(-2000000001), (), rfl, rfl, by unfold tN; rw [ht]; exact g1⟩, hS9.F ht⟩) hS9.2.2 dL_held_9
  · rw [qr] at hv9
    exact absurd (show (0 : Nat) = 1 from hv9) (by decide)
set_option maxHeartbeats 4000000 in
set_option maxRecDepth 100000 in
theorem eL_byShare (l : Launch) (hlt : l.stackTraces = false) (D : va_G) (h : Nat → Nat) (cA : ClassId) (x : Int32) (hv9 : (x_lbs M0 x).1 = 1) (sz : Nat) : Met l yL_byShare wsL_byShare ({ frames := 8, cells := 1, slots := 6, locals := 133 } : Room) (va_Pc [.ref (h 0), .int x] (fun U => pW D [(cA, .int)] (w0 h cA M0) sz U ∧ x_En U)) (va_Qi (fun (r : Int32) (_ : Unit) => r = (-2000000001)) (tN sz 1) (va_A [] sz)) 1 6 (va_A [] sz) := by
  refine va_MetW (cc := cL_byShare) (maxL := 3) (ret := (some .int)) (hh := [(0, 5, 6, 23)]) (by decide) rfl ?_
  intro p e s m args below meth c s₁ B hml hv
  obtain ⟨rfl, ⟨hsz, hP, hK, hD0⟩, hE⟩ := hv
  have hx := B.exec
  have hb := B.bytes
  have hr := B.returns
  have hts := atoms_spec (ws := wsL_byShare) B.pre
  have hown : s.vm.findClass RL = some m.cls := findClass_of_methodNamed B.named
  have hTab := vx_table (x := yL_byShare) B (hts (.codeWith yL_byShare cL_byShare 3 (some .int) [(0, 5, 6, 23)]) List.mem_cons_self)
  have kc0 := hts (.classLink RL 23 "java/lang/IndexOutOfBoundsException") (by decide +kernel)
  have kw0 := hts (.constant RL 25 (-2000000001)) (by decide +kernel)
  subst hsz
  have hD := hD0.self (sz := s.heap.size)
  have hA : ∀ q : Nat, s.heap.size ≤ q → va_A (w0 h cA M0) s.heap.size q := fun q h => Or.inr h
  have hS : va_S (va_A (w0 h cA M0) s.heap.size) s.heap s.heap [] := va_S.rf
  have hl := lv_entry ([.ref (h 0), .int x]) (n := 3) (Nat.le_of_ble_eq_true rfl)
  rw [lg_entry_eq]
  generalize (lg_sl ([.ref (h 0), .int x]) ++ List.replicate (3 - (lg_sl ([.ref (h 0), .int x])).length) Slot.unset).toArray = ls at hl ⊢
  have hl : lv_has ls 3 [(0, .ref (h 0)), (1, .int x)] := hl
  refine w_abs (fun Q hQ => ?_)
  refine lv_aload_n hx hb dL_byShare_0 rfl (lv_at hl 0 rfl) ?_
  refine lv_iload_n hx hb dL_byShare_1 rfl (lv_at hl 1 rfl) ?_
  refine g_calliX (wl := []) (wc := w0 h cA M0) (wr := []) (wf := fun u : MM => w0 h cA u) (vx_runV (As := [.int x]) (rest := []) ⟨hx, hb, hml, hown, hts⟩ (c0_lineByShare l hlt D h cA M0 ok0 x s.heap.size) (cwV 1 hts gL_byShare_X0_lineByShare rfl rfl rfl (by decide +kernel) ⟨Nat.le_of_ble_eq_true rfl, Nat.le_of_ble_eq_true rfl⟩) ⟨pE_fb pW_fb, va_recv hK hP (ci := 0) (q0 := 0) rfl rfl, pE_mk rfl (pW_mk hP hK hD) hE⟩ rfl rfl hl.1 rfl (lv_room (Nat.le_of_ble_eq_true rfl)) dL_byShare_2 ⟨Nat.le_of_ble_eq_true rfl, Nat.le_of_ble_eq_true rfl⟩) (List.append_nil _).symm hP hD hS hA (fun E ce q9 H1 locs1 hpx g1 g2 hP1 hS1 hce hcv hcl => ?_) (fun r u H locs qr hP hD hS => ?_)
  · obtain ⟨rfl, hk⟩ := hpx
    refine vx_catch (own := RL) (name := E_io) (E := E_io) hown [] ⟨0, 5, 6, 23⟩ [] (hTab.trans rfl) (fun z hz => absurd hz List.not_mem_nil) (by decide) (by decide) kc0 (va_Nw.use rfl hE.1.1) hce hcv hcl ?_
    refine w_clean g2 ?_
    have hS9 : va_S (va_A [] s.heap.size) s.heap H1 [] := ⟨Nat.le_of_succ_le g1, fun q h1 _ => g2 q h1, fun _ h => by cases h⟩
    refine lv_astore_n (lv' := [(2, .ref q9), (0, .ref (h 0)), (1, .int x)]) hx hb dL_byShare_6 rfl hl (by decide) rfl (fun ls hl => ?_)
    refine lv_ldc hx hb hown kw0 dL_byShare_7 ?_
    subst hQ
    exact W.iret (v := (-2000000001)) hx hb hr (fun t ht hW => ⟨⟨(-2000000001), (), rfl, rfl, by unfold tN; rw [ht]; exact g1⟩, hS9.F ht⟩) hS9.2.2 dL_byShare_9
  · rw [qr] at hv9
    exact absurd (show (0 : Nat) = 1 from hv9) (by decide)
