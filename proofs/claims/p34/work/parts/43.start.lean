/-! THE LAW from its entry -/
set_option maxHeartbeats 4000000 in
set_option maxRecDepth 100000 in
theorem lx_start {p : Program} {e : Env} {s : State} {m : MethodId} {below : List Frame} {meth : Method} {c : Code} {b L : Nat} {xs : Nat → Int32} (l : Launch) (hflags : l.flags = flags0) (hL : L = 17) (hxs : ∀ k : Nat, k < 17 → xs k = if k = 0 then 0 else 11) (C0 : lw_At p s m meth c b L xs) : W p l e R2 s m #[Value.ref b] below meth c s.heap [] 0 0 (lx_Z below #[Value.ref b] s) (entryFrame m ([Value.ref b] : List Value).toArray 10) := by
  obtain ⟨hx, hb, hr, hml, hown, htb, hX, hbl, hlocks, hgv⟩ := id C0
  have hb : c.code = cL_law := hb
  have hown : s.vm.findClass RL = some m.cls := hown
  have hs := flat_of_before _ hgv
  have hts : ∀ w ∈ wsL_law, w.before #[Value.ref b] s = true := fun w h => htb w (wsL_law_in w h)
  have hlt : l.stackTraces = false := by
    unfold Launch.stackTraces
    rw [hflags]
    decide +kernel
  have hE : x_Ev s := x_Ev_of (htb (.castable E_io E_io) (by decide +kernel)) (htb (.castable E_ia E_ia) (by decide +kernel)) (htb (.castable E_is E_is) (by decide +kernel)) (htb (x_dcl "java/lang/RuntimeException") (by decide +kernel)) (htb (x_dcl "java/lang/Exception") (by decide +kernel)) (htb (x_dcl "java/lang/Throwable") (by decide +kernel)) (List.forall_mem_cons.mpr ⟨htb _ (by decide +kernel), List.forall_mem_cons.mpr ⟨htb _ (by decide +kernel), List.forall_mem_cons.mpr ⟨htb _ (by decide +kernel), List.forall_mem_cons.mpr ⟨htb _ (by decide +kernel), List.forall_mem_cons.mpr ⟨htb _ (by decide +kernel), List.forall_mem_cons.mpr ⟨htb _ (by decide +kernel), List.forall_mem_cons.mpr ⟨htb _ (by decide +kernel), List.forall_mem_cons.mpr ⟨htb _ (by decide +kernel), List.forall_mem_cons.mpr ⟨htb _ (by decide +kernel), List.forall_mem_cons.mpr ⟨htb _ (by decide +kernel), List.forall_mem_cons.mpr ⟨htb _ (by decide +kernel), List.forall_mem_cons.mpr ⟨htb _ (by decide +kernel), List.forall_mem_cons.mpr ⟨htb _ (by decide +kernel), List.forall_mem_cons.mpr ⟨htb _ (by decide +kernel), List.forall_mem_cons.mpr ⟨htb _ (by decide +kernel), fun _ h => absurd h List.not_mem_nil⟩⟩⟩⟩⟩⟩⟩⟩⟩⟩⟩⟩⟩⟩⟩) (List.forall_mem_cons.mpr ⟨hs _ (by decide +kernel), List.forall_mem_cons.mpr ⟨hs _ (by decide +kernel), List.forall_mem_cons.mpr ⟨hs _ (by decide +kernel), List.forall_mem_cons.mpr ⟨hs _ (by decide +kernel), List.forall_mem_cons.mpr ⟨hs _ (by decide +kernel), List.forall_mem_cons.mpr ⟨hs _ (by decide +kernel), List.forall_mem_cons.mpr ⟨hs _ (by decide +kernel), List.forall_mem_cons.mpr ⟨hs _ (by decide +kernel), List.forall_mem_cons.mpr ⟨hs _ (by decide +kernel), List.forall_mem_cons.mpr ⟨hs _ (by decide +kernel), List.forall_mem_cons.mpr ⟨hs _ (by decide +kernel), List.forall_mem_cons.mpr ⟨hs _ (by decide +kernel), List.forall_mem_cons.mpr ⟨hs _ (by decide +kernel), List.forall_mem_cons.mpr ⟨hs _ (by decide +kernel), List.forall_mem_cons.mpr ⟨hs _ (by decide +kernel), fun _ h => absurd h List.not_mem_nil⟩⟩⟩⟩⟩⟩⟩⟩⟩⟩⟩⟩⟩⟩⟩)
  have hZ : x_Zz (fun q : Nat => s.heap.size ≤ q) s s.heap := ⟨vx_Zqof (htb _ (by decide +kernel)) (htb _ (by decide +kernel)) (hs _ (by decide +kernel)) (fun a h => Nat.not_le.mpr h), vx_Zqof (htb _ (by decide +kernel)) (htb _ (by decide +kernel)) (hs _ (by decide +kernel)) (fun a h => Nat.not_le.mpr h)⟩
  have hA : ∀ q : Nat, s.heap.size ≤ q → (fun q : Nat => s.heap.size ≤ q) q := fun _ h => h
  have ki0 := (htb (.instantiable RX0 15) (by decide +kernel))
  have kz0 := (htb (.initialized RX0) (by decide +kernel))
  have kl0 := (htb (.classLink RL 8 RX0) (by decide +kernel))
  have km0 := (htb (.methodLink RL 180 yX0_init) (by decide +kernel))
  have kn0 := (htb (.instanceMethod yX0_init) (by decide +kernel))
  obtain ⟨c0, iS0, hKn0⟩ := u_known (C := RX0) (T := TX0) (N := 15) (n := 15) htb inX0 ki0
  obtain ⟨D, hKc⟩ : ∃ D : va_G, ∀ (k : Nat) (q : vw_C), vwCl[k]? = some q → u_Kn s q.1 q.2.1 q.2.2 (D.1 k) (D.2 k) := by
    refine ⟨(fun _ => c0, fun _ => iS0), ?_⟩
    intro k q hq
    match k, hq with
    | 0, hq => cases hq; exact hKn0
    | k + 1, hq => simp [vwCl] at hq
  have hS : va_S (fun q : Nat => s.heap.size ≤ q) s.heap s.heap [] := va_S.rf
  have hK : va_K D vwCl [] s := ⟨hKc, fun k q h => by simp at h⟩
  have hP : va_P D vwCl [] s.heap := fun k q h => by simp at h
  have hD : va_D (fun q : Nat => s.heap.size ≤ q) [] := ⟨fun i j p q h => by simp at h, fun k q h => by simp at h⟩
  have hl := lv_entry ([.ref b]) (n := 10) (Nat.le_of_ble_eq_true rfl)
  rw [lg_entry_eq]
  generalize (lg_sl ([.ref b]) ++ List.replicate (10 - (lg_sl ([.ref b])).length) Slot.unset).toArray = ls at hl ⊢
  have hl : lv_has ls 10 [(0, .ref b)] := hl
  refine va_new (ci := 0) (fs := [.null, .null, .null, .null, .null, .int 0, .null, .null, .int 0, .int 0, .null, .null, .null, .null, .int 0]) (C := RX0) (T := TX0) (N := 15) hx hb htb inX0 tyX0 tyX0_ok hown kl0 ki0 kz0 hK hP hD hS hA rfl (fun j hj => by rcases (show j = 0 ∨ j = 1 ∨ j = 2 ∨ j = 3 ∨ j = 4 ∨ j = 5 ∨ j = 6 ∨ j = 7 ∨ j = 8 ∨ j = 9 ∨ j = 10 ∨ j = 11 ∨ j = 12 ∨ j = 13 ∨ j = 14 by omega) with rfl | rfl | rfl | rfl | rfl | rfl | rfl | rfl | rfl | rfl | rfl | rfl | rfl | rfl | rfl <;> rfl) (Nat.le_of_ble_eq_true rfl) (Nat.le_of_ble_eq_true rfl) dL_law_0 (fun q1 H hP hD hS => ?_)
  have hP : va_P D vwCl [(q1, .inr (0, [.null, .null, .null, .null, .null, .int 0, .null, .null, .int 0, .int 0, .null, .null, .null, .null, .int 0]))] H := hP
  have hD : va_D (fun q : Nat => s.heap.size ≤ q) [(q1, .inr (0, [.null, .null, .null, .null, .null, .int 0, .null, .null, .int 0, .int 0, .null, .null, .null, .null, .int 0]))] := hD
  refine W.widen (k := 1) (n := 15) (by omega) (by omega) ?_
  refine lv_dup hx hb dL_law_3 rfl ?_
  have hF := g_free (wl := []) (wc := [(q1, .inr (0, [.null, .null, .null, .null, .null, .int 0, .null, .null, .int 0, .int 0, .null, .null, .null, .null, .int 0]))]) (wr := []) hD hS hA
  refine va_callv (va_runI (As := []) (rest := [.ref q1]) ⟨hx, hb, hml, hown, hts⟩ (c0_init l D q1 H.size) (cwI 0 hts gL_law_X0_init rfl rfl rfl kz0 km0 kn0 rfl (by decide +kernel) ⟨Nat.le_of_ble_eq_true rfl, Nat.le_of_ble_eq_true rfl⟩) ⟨pW_fb, pW_mk hP hK hD⟩ rfl rfl hl.1 rfl (lv_room (Nat.le_of_ble_eq_true rfl)) dL_law_4 ⟨Nat.le_of_ble_eq_true rfl, Nat.le_of_ble_eq_true rfl⟩) hS (fun q _ h => hF q h) hF (fun u t H1 locs ht hvm hw hB hz1 hk1 hS => ?_)
  obtain ⟨h1, cA⟩ := u
  obtain ⟨hP1, hD1, hK1⟩ := hB
  have hw : h1 0 = q1 := hw
  subst hw
  rw [ht] at hP1
  have hK1 := va_K.moved hvm.symm hK1
  obtain ⟨hP, hD⟩ := g_join (wl := []) (wc := [(h1 0, .inr (0, [.null, .null, .null, .null, .null, .int 0, .null, .null, .int 0, .int 0, .null, .null, .null, .null, .int 0]))]) (wr := []) hP hD hk1 hF hP1 hD1
  have hK : va_K D vwCl [(cA, .int)] s := hK.app hK1
  generalize H1 = H at hP hS ⊢
  rw [List.nil_append, List.append_nil] at hP hD
  have hP : va_P D vwCl (w0 h1 cA M0) H := hP
  have hD : va_D (fun q : Nat => s.heap.size ≤ q) (w0 h1 cA M0) := hD
  refine W.widen (k := 12) (n := 347) (by omega) (by omega) ?_
  refine lv_astore_n (lv' := [(1, .ref (h1 0)), (0, .ref b)]) hx hb dL_law_7 rfl hl (by decide) rfl (fun ls hl => ?_)
  refine va_new (ci := 0) (fs := [.null, .null, .null, .null, .null, .int 0, .null, .null, .int 0, .int 0, .null, .null, .null, .null, .int 0]) (C := RX0) (T := TX0) (N := 15) hx hb htb inX0 tyX0 tyX0_ok hown kl0 ki0 kz0 hK hP hD hS hA rfl (fun j hj => by rcases (show j = 0 ∨ j = 1 ∨ j = 2 ∨ j = 3 ∨ j = 4 ∨ j = 5 ∨ j = 6 ∨ j = 7 ∨ j = 8 ∨ j = 9 ∨ j = 10 ∨ j = 11 ∨ j = 12 ∨ j = 13 ∨ j = 14 by omega) with rfl | rfl | rfl | rfl | rfl | rfl | rfl | rfl | rfl | rfl | rfl | rfl | rfl | rfl | rfl <;> rfl) (Nat.le_of_ble_eq_true rfl) (Nat.le_of_ble_eq_true rfl) dL_law_8 (fun q2 H hP hD hS => ?_)
  refine W.widen (k := 13) (n := 362) (by omega) (by omega) ?_
  refine lv_dup hx hb dL_law_11 rfl ?_
  have hF := g_free (wl := w0 h1 cA M0) (wc := [(q2, .inr (0, [.null, .null, .null, .null, .null, .int 0, .null, .null, .int 0, .int 0, .null, .null, .null, .null, .int 0]))]) (wr := []) hD hS hA
  refine va_callv (va_runI (As := []) (rest := [.ref q2]) ⟨hx, hb, hml, hown, hts⟩ (c0_init l D q2 H.size) (cwI 0 hts gL_law_X0_init rfl rfl rfl kz0 km0 kn0 rfl (by decide +kernel) ⟨Nat.le_of_ble_eq_true rfl, Nat.le_of_ble_eq_true rfl⟩) ⟨pW_fb, pW_mk (p_right hP) (hK.sub [] rfl) (d_right hD)⟩ rfl rfl hl.1 rfl (lv_room (Nat.le_of_ble_eq_true rfl)) dL_law_12 ⟨Nat.le_of_ble_eq_true rfl, Nat.le_of_ble_eq_true rfl⟩) hS (fun q _ h => hF q h) hF (fun u t H1 locs ht hvm hw hB hz1 hk1 hS => ?_)
  obtain ⟨h2, cA2⟩ := u
  obtain ⟨hP1, hD1, hK1⟩ := hB
  have hw : h2 0 = q2 := hw
  subst hw
  rw [ht] at hP1
  have hK1 := va_K.moved hvm.symm hK1
  obtain ⟨hP, hD⟩ := g_join (wl := w0 h1 cA M0) (wc := [(h2 0, .inr (0, [.null, .null, .null, .null, .null, .int 0, .null, .null, .int 0, .int 0, .null, .null, .null, .null, .int 0]))]) (wr := []) hP hD hk1 hF hP1 hD1
  have hK : va_K D vwCl [(cA, .int), (cA2, .int)] s := hK.app hK1
  obtain rfl := k_same hK 0 1 rfl rfl
  have hK : va_K D vwCl [(cA, .int)] s := hK.sub [0] rfl
  generalize H1 = H at hP hS ⊢
  rw [List.append_nil] at hP hD
  have hP : va_P D vwCl (w0 h1 cA M0 ++ w0 h2 cA M0) H := hP
  have hD : va_D (fun q : Nat => s.heap.size ≤ q) (w0 h1 cA M0 ++ w0 h2 cA M0) := hD
  refine W.widen (k := 24) (n := 694) (by omega) (by omega) ?_
  refine lv_astore_n (lv' := [(2, .ref (h2 0)), (1, .ref (h1 0)), (0, .ref b)]) hx hb dL_law_15 rfl hl (by decide) rfl (fun ls hl => ?_)
  refine lv_bipush (v := 16) hx hb dL_law_16 (by decide) ?_
  refine lv_aload_n hx hb dL_law_18 rfl (lv_at hl 2 rfl) ?_
  refine lv_iconst (v := nI 0) hx hb dL_law_19 (by decide) ?_
  refine vp_callSi (W.runS (As := [.ref b, .int (nI 0)]) (rest := [.int 16]) ⟨hx, hb, hml, hown, hts⟩ (eL_drawn l b L xs 0 0 (by omega) (by omega) (by rw [hxs _ (by omega), if_pos rfl]; decide +kernel)) (va_cwS 2 hts gL_law_L_drawn rfl rfl rfl (by decide +kernel) ⟨Nat.le_of_ble_eq_true rfl, Nat.le_of_ble_eq_true rfl⟩) ⟨x_fb, x_mk hX hbl hS⟩ rfl rfl hl.1 rfl (lv_room (Nat.le_of_ble_eq_true rfl)) dL_law_20 ⟨by show _ ≤ 1000; omega, by show _ ≤ 8000; omega⟩) (fun r0 qr0 => ?_)
  obtain rfl : r0 = 0 := qr0
  refine lv_bipush (v := 45) hx hb dL_law_23 (by decide) ?_
  refine lv_irem hx hb dL_law_25 (by decide) ?_
  refine lv_iadd hx hb dL_law_26 ?_
  refine lv_topi (fun y1 ey1 => ?_)
  obtain rfl : y1 = nI 16 := ey1.trans (by decide +kernel)
  refine lv_istore_n (lv' := [(3, .int (nI 16)), (2, .ref (h2 0)), (1, .ref (h1 0)), (0, .ref b)]) hx hb dL_law_27 rfl hl (by decide) rfl (fun ls hl => ?_)
  refine lv_iconst (v := 1) hx hb dL_law_28 (by decide) ?_
  refine lv_istore (lv' := [(4, .int 1), (3, .int (nI 16)), (2, .ref (h2 0)), (1, .ref (h1 0)), (0, .ref b)]) hx hb dL_law_29 hl (by decide) rfl (fun ls hl => ?_)
  refine lv_iconst (v := nI 0) hx hb dL_law_31 (by decide) ?_
  refine lv_istore (lv' := [(5, .int (nI 0)), (4, .int 1), (3, .int (nI 16)), (2, .ref (h2 0)), (1, .ref (h1 0)), (0, .ref b)]) hx hb dL_law_32 hl (by decide) rfl (fun ls hl => ?_)
  have hG : s.heap.size + 54 * 0 ≤ H.size := Nat.le_trans (Nat.le_of_eq (by omega)) hS.1
  exact lx_loop hr hlocks hL hxs ⟨hx, hb, hml, hown, hts, hX, hbl, hlt, hE, hZ, hK⟩ hD 16 0 24 694 (by omega) (by omega) (by omega) H locs ls hP hS hG (lv_sub hl [0, 5, 4, 3, 2, 1] rfl)
