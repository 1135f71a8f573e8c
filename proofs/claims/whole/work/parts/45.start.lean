/-! THE CLAIM OUT OF ONE WALK OF THE LAW'S BODY. Your part is whole_start (and what it stands on); all else here is the same for every law, but numbers. -/
def R_law : String := "ProgressBillingLaw"
def lw_P (b : Addr) (xs : List Int32) (args : Array Value) (s : State) : Prop := args = #[.ref b] ∧ s.IntsAt b xs ∧ xs.length ≤ 1536 ∧ (Jvm.Cond.and given_1 narrow_1).before args s = true
def lw_Q (_ : Array Value) (s : State) (o : Outcome) (t : State) : Prop := o = .returned (some (.int 1)) ∧ Framed s o t [] 1063 9965
def lw_Z (below : List Frame) (a : Array Value) (s : State) : State → Prop := fun t => ∃ o, t.status = .running ∧ Ended t below o ∧ lw_Q a s o t
/-- the law's own end, with 1 on the stack, nothing written that was there before, its room as the claim has it -/
theorem lw_ret {p : Program} {l : Launch} {e : Env} {s : State} {m : MethodId} {below : List Frame} {meth : Method} {c : Code} {b : Nat} (hx : p.tables.exec = Jvm.exec) (hb : c.code = code) (hr : meth.sig.returnType = ret) (hlocks : meth.locks = false) {pc : Nat} {H : Heap} {ls : Array Slot} (hdg : decode code pc = .ok (.ireturn, 1)) : W p l e room_1 s m #[Value.ref b] below meth c H [] 1063 9965 (lw_Z below #[Value.ref b] s) (F0 m pc ls [.int 1]) := by
  intro T hT X
  obtain ⟨fs, hret, hrun, hended, hW, hframe⟩ := X.leave (v := some (.int 1)) (hlocks := hlocks) (fun h => by rw [hr] at h; cases h)
  have hmeth' : T.vm.method? m = some meth := X.method'
  refine ⟨T.setFrames fs, ?_, .returned (some (.int 1)), hrun, hended, rfl, ⟨_, rfl⟩, hW, hframe⟩
  jvm_step X.here [X.here.top, hx, hb, hdg, hmeth', hr, ret, narrow_b1]
  (try refine ⟨rfl, ?_⟩); (try refine ⟨rfl, ?_⟩)
  first | (intro acts; rw [hret _ acts rfl rfl rfl]) | rw [hret _ _ rfl rfl rfl]
  exact Steps.refl _
/-- what holds at the law's entry: the machine, the code, the tables' words (any of lw_tbl by 'hts w (by decide +kernel)'), the script of L ints xs at the cell b, what the Statement gives of the start (any of its parts by flat_of_before) -/
def lw_At (p : Program) (s : State) (m : MethodId) (meth : Method) (c : Code) (b L : Nat) (xs : Nat → Int32) : Prop :=
  p.tables.exec = Jvm.exec ∧ c.code = code ∧ meth.sig.returnType = ret ∧ c.maxLocals = 7 ∧ s.vm.findClass R_law = some m.cls ∧ (∀ w ∈ lw_tbl, w.before #[Value.ref b] s = true) ∧ va_X b L xs s s.heap ∧ b < s.heap.size ∧ meth.locks = false ∧ (Jvm.Cond.and given_1 narrow_1).before #[Value.ref b] s = true
set_option maxHeartbeats 4000000 in
set_option maxRecDepth 100000 in
/-- the loop: at its head, t triples read -/
theorem law_loop {p : Program} {l : Launch} {e : Env} {s : State} {m : MethodId} {below : List Frame} {meth : Method} {c : Code} {b L : Nat} {xs : Nat → Int32} {D : va_G} {h0 h1 : Nat → Nat} {cA cL : ClassId} {ao : Nat}  (hr : meth.sig.returnType = ret) (hlocks : meth.locks = false) (C : lw_C p l s m c b L xs D cA cL) : ∀ (n t cells slots : Nat), 513 ≤ t + n → t ≤ 512 → cells = 24 + t → slots = 1683 + 6 * t → lw_I p l e s m below meth c b D h0 h1 cA cL ao t cells slots (lw_Z below #[Value.ref b] s) 23 := by
  intro n
  induction n with
  | zero => intro t cells slots h1 h2; exact absurd h1 (by omega)
  | succ n ih =>
    intro t cells slots hn ht9 ec es g rf M H locs ls hI hP hD hS hl
    obtain ⟨hx, hb, hml, hown, hts, hX, hbl, hlt, hE, hZ, hN, hK, hL⟩ := id C
    have hbA : ¬ (fun q : Nat => s.heap.size ≤ q) b := Nat.not_le.mpr hbl
    refine lv_iload hx hb dL_law_23 (lv_at hl 0 rfl) ?_
    refine lv_aload_n hx hb dL_law_25 rfl (lv_at hl 1 rfl) ?_
    refine va_slen hx hb hX hbl hbA hS dL_law_26 ?_
    refine lv_iconst (v := nI 3) hx hb dL_law_27 (by decide) ?_
    refine lv_isub hx hb dL_law_28 ?_
    refine lv_icmp_gt (tgt := 1576) hx hb dL_law_29 (by decide) (fun c1 => ?_) (fun c1 => ?_)
    · refine lv_iconst (v := 1) hx hb dL_law_1576 (by decide) ?_
      refine va_forget (fun q hq => hS.2.2 q hq) ?_
      refine W.widen (k := 1063) (n := 9965) (by omega) (by omega) ?_
      exact lw_ret hx hb hr hlocks dL_law_1577
    · have ht : 3 * t + 3 ≤ L := by
        have c2 : ¬ (nI L - nI 3) < nI (3 * t) := c1
        by_cases c3 : 3 * t + 3 ≤ L
        · exact c3
        · refine absurd (Int32.lt_iff_toInt_lt.mpr ?_) c2
          rw [pk_sub_toInt (a := L) (b := 3) (by omega) (by decide), nI_toInt (by omega)]
          omega
      have next : lw_N p l e s m below meth c b D h0 h1 cA cL ao t (cells + 1) (slots + 6) (lw_Z below #[Value.ref b] s) := by
        intro g rf M H locs ls hI hP hD hS hl
        refine lv_iinc (v := nI (3 * (t + 1))) (lv' := [(4, .int (nI (3 * (t + 1)))), (0, .ref b), (1, .ref (h0 0)), (2, .ref (h1 0)), (3, .ref ao)]) hx hb dL_law_1570 hl (k := 0) rfl (by rw [show Int32.ofInt 3 = nI 3 from by decide, nI_add]; exact congrArg nI (by omega)) (by decide) rfl (fun ls hl => ?_)
        refine lv_goto (tgt := 23) hx hb dL_law_1573 (by decide) ?_
        exact ih (t + 1) (cells + 1) (slots + 6) (by omega) (by omega) (by omega) (by omega) g rf M H locs ls hI hP hD hS hl
      have hc : cells + 1 ≤ 1063 := by omega
      have hs9 : slots + 6 ≤ 9965 := by omega
      refine lv_aload_n hx hb dL_law_32 rfl (lv_at hl 1 rfl) ?_
      refine lv_iload hx hb dL_law_33 (lv_at hl 0 rfl) ?_
      refine va_sld hx hb hX hbl hbA hS (vp_in_nI (n := 3 * t) (N := L) (by omega) (by omega)) dL_law_35 ?_
      refine lv_bipush (v := 31) hx hb dL_law_36 (by decide) ?_
      refine lv_iand hx hb dL_law_38 ?_
      refine lv_topi (fun y ey => ?_)
      obtain ⟨k, hk, ek⟩ := pk_andE (xs (nI (3 * t)).toNatClampNeg) (m := 31) 5 (by decide)
      have hk : k < 32 := hk
      obtain rfl : y = nI k := ey.trans ek
      have hk9 : k = 0 ∨ k = 1 ∨ k = 2 ∨ k = 3 ∨ k = 4 ∨ k = 5 ∨ k = 6 ∨ k = 7 ∨ k = 8 ∨ k = 9 ∨ k = 10 ∨ k = 11 ∨ k = 12 ∨ k = 13 ∨ k = 14 ∨ k = 15 ∨ k = 16 ∨ k = 17 ∨ k = 18 ∨ k = 19 ∨ k = 20 ∨ k = 21 ∨ k = 22 ∨ k = 23 ∨ k = 24 ∨ k = 25 ∨ k = 26 ∨ k = 27 ∨ k = 28 ∨ k = 29 ∨ k = 30 ∨ k = 31 := by omega
      rcases hk9 with rfl | rfl | rfl | rfl | rfl | rfl | rfl | rfl | rfl | rfl | rfl | rfl | rfl | rfl | rfl | rfl | rfl | rfl | rfl | rfl | rfl | rfl | rfl | rfl | rfl | rfl | rfl | rfl | rfl | rfl | rfl | rfl
      · refine lv_tableIn (x := nI 0) (off := 137) (tgt := 176) hx hb dL_law_39 (by decide) (by decide) (by decide) (by decide) ?_
        exact law_0_addLine C hc hs9 ht next g rf M H locs ls hI hP hD hS hl
      · refine lv_tableIn (x := nI 1) (off := 193) (tgt := 232) hx hb dL_law_39 (by decide) (by decide) (by decide) (by decide) ?_
        exact law_1_changeValue C hc hs9 ht next g rf M H locs ls hI hP hD hS hl
      · refine lv_tableIn (x := nI 2) (off := 261) (tgt := 300) hx hb dL_law_39 (by decide) (by decide) (by decide) (by decide) ?_
        exact law_2_split C hc hs9 ht next g rf M H locs ls hI hP hD hS hl
      · refine lv_tableIn (x := nI 3) (off := 329) (tgt := 368) hx hb dL_law_39 (by decide) (by decide) (by decide) (by decide) ?_
        exact law_3_setWork C hc hs9 ht next g rf M H locs ls hI hP hD hS hl
      · refine lv_tableIn (x := nI 4) (off := 397) (tgt := 436) hx hb dL_law_39 (by decide) (by decide) (by decide) (by decide) ?_
        exact law_4_store C hc hs9 ht next g rf M H locs ls hI hP hD hS hl
      · refine lv_tableIn (x := nI 5) (off := 465) (tgt := 504) hx hb dL_law_39 (by decide) (by decide) (by decide) (by decide) ?_
        exact law_5_place C hc hs9 ht next g rf M H locs ls hI hP hD hS hl
      · refine lv_tableIn (x := nI 6) (off := 533) (tgt := 572) hx hb dL_law_39 (by decide) (by decide) (by decide) (by decide) ?_
        exact law_6_setStep C hc hs9 ht next g rf M H locs ls hI hP hD hS hl
      · refine lv_tableIn (x := nI 7) (off := 601) (tgt := 640) hx hb dL_law_39 (by decide) (by decide) (by decide) (by decide) ?_
        exact law_7_dropStep C hc hs9 ht next g rf M H locs ls hI hP hD hS hl
      · refine lv_tableIn (x := nI 8) (off := 657) (tgt := 696) hx hb dL_law_39 (by decide) (by decide) (by decide) (by decide) ?_
        exact law_8_hold C hc hs9 ht next g rf M H locs ls hI hP hD hS hl
      · refine lv_tableIn (x := nI 9) (off := 698) (tgt := 737) hx hb dL_law_39 (by decide) (by decide) (by decide) (by decide) ?_
        exact law_9_steps C hc hs9 ht next g rf M H locs ls hI hP hD hS hl
      · refine lv_tableIn (x := nI 10) (off := 711) (tgt := 750) hx hb dL_law_39 (by decide) (by decide) (by decide) (by decide) ?_
        exact law_10_progress C hc hs9 ht next g rf M H locs ls hI hP hD hS hl
      · refine lv_tableIn (x := nI 11) (off := 724) (tgt := 763) hx hb dL_law_39 (by decide) (by decide) (by decide) (by decide) ?_
        exact law_11_rate C hc hs9 ht next g rf M H locs ls hI hP hD hS hl
      · refine lv_tableIn (x := nI 12) (off := 737) (tgt := 776) hx hb dL_law_39 (by decide) (by decide) (by decide) (by decide) ?_
        exact law_12_close C hc hs9 ht next g rf M H locs ls hI hP hD hS hl
      · refine lv_tableIn (x := nI 13) (off := 781) (tgt := 820) hx hb dL_law_39 (by decide) (by decide) (by decide) (by decide) ?_
        exact law_13_nextAmount C hc hs9 ht next g rf M H locs ls hI hP hD hS hl
      · refine lv_tableIn (x := nI 14) (off := 794) (tgt := 833) hx hb dL_law_39 (by decide) (by decide) (by decide) (by decide) ?_
        exact law_14_pay C hc hs9 ht next g rf M H locs ls hI hP hD hS hl
      · refine lv_tableIn (x := nI 15) (off := 850) (tgt := 889) hx hb dL_law_39 (by decide) (by decide) (by decide) (by decide) ?_
        exact law_15_waive C hc hs9 ht next g rf M H locs ls hI hP hD hS hl
      · refine lv_tableIn (x := nI 16) (off := 906) (tgt := 945) hx hb dL_law_39 (by decide) (by decide) (by decide) (by decide) ?_
        exact law_16_applications C hc hs9 ht next g rf M H locs ls hI hP hD hS hl
      · refine lv_tableIn (x := nI 17) (off := 919) (tgt := 958) hx hb dL_law_39 (by decide) (by decide) (by decide) (by decide) ?_
        exact law_17_state C hc hs9 ht next g rf M H locs ls hI hP hD hS hl
      · refine lv_tableIn (x := nI 18) (off := 975) (tgt := 1014) hx hb dL_law_39 (by decide) (by decide) (by decide) (by decide) ?_
        exact law_18_amount C hc hs9 ht next g rf M H locs ls hI hP hD hS hl
      · refine lv_tableIn (x := nI 19) (off := 1031) (tgt := 1070) hx hb dL_law_39 (by decide) (by decide) (by decide) (by decide) ?_
        exact law_19_billedBehind C hc hs9 ht next g rf M H locs ls hI hP hD hS hl
      · refine lv_tableIn (x := nI 20) (off := 1087) (tgt := 1126) hx hb dL_law_39 (by decide) (by decide) (by decide) (by decide) ?_
        exact law_20_heldBehind C hc hs9 ht next g rf M H locs ls hI hP hD hS hl
      · refine lv_tableIn (x := nI 21) (off := 1143) (tgt := 1182) hx hb dL_law_39 (by decide) (by decide) (by decide) (by decide) ?_
        exact law_21_lines C hc hs9 ht next g rf M H locs ls hI hP hD hS hl
      · refine lv_tableIn (x := nI 22) (off := 1156) (tgt := 1195) hx hb dL_law_39 (by decide) (by decide) (by decide) (by decide) ?_
        exact law_22_value C hc hs9 ht next g rf M H locs ls hI hP hD hS hl
      · refine lv_tableIn (x := nI 23) (off := 1212) (tgt := 1251) hx hb dL_law_39 (by decide) (by decide) (by decide) (by decide) ?_
        exact law_23_work C hc hs9 ht next g rf M H locs ls hI hP hD hS hl
      · refine lv_tableIn (x := nI 24) (off := 1268) (tgt := 1307) hx hb dL_law_39 (by decide) (by decide) (by decide) (by decide) ?_
        exact law_24_goods C hc hs9 ht next g rf M H locs ls hI hP hD hS hl
      · refine lv_tableIn (x := nI 25) (off := 1324) (tgt := 1363) hx hb dL_law_39 (by decide) (by decide) (by decide) (by decide) ?_
        exact law_25_billed C hc hs9 ht next g rf M H locs ls hI hP hD hS hl
      · refine lv_tableIn (x := nI 26) (off := 1380) (tgt := 1419) hx hb dL_law_39 (by decide) (by decide) (by decide) (by decide) ?_
        exact law_26_held C hc hs9 ht next g rf M H locs ls hI hP hD hS hl
      · refine lv_tableIn (x := nI 27) (off := 1436) (tgt := 1475) hx hb dL_law_39 (by decide) (by decide) (by decide) (by decide) ?_
        exact law_27_lineByShare C hc hs9 ht next g rf M H locs ls hI hP hD hS hl
      · refine lv_tableIn (x := nI 28) (off := 1492) (tgt := 1531) hx hb dL_law_39 (by decide) (by decide) (by decide) (by decide) ?_
        exact law_28_contractSum C hc hs9 ht next g rf M H locs ls hI hP hD hS hl
      · refine lv_tableIn (x := nI 29) (off := 1505) (tgt := 1544) hx hb dL_law_39 (by decide) (by decide) (by decide) (by decide) ?_
        exact law_29_paid C hc hs9 ht next g rf M H locs ls hI hP hD hS hl
      · refine lv_tableIn (x := nI 30) (off := 1518) (tgt := 1557) hx hb dL_law_39 (by decide) (by decide) (by decide) (by decide) ?_
        exact law_30_toCome C hc hs9 ht next g rf M H locs ls hI hP hD hS hl
      · refine lv_tableOut (x := nI 31) (tgt := 1570) hx hb dL_law_39 (Or.inr (by decide)) (by decide) ?_
        refine W.widen (k := cells + 1) (n := slots + 6) (by omega) (by omega) ?_
        exact next g rf M H locs ls hI hP hD hS hl
theorem x_Ev_of {args : Array Value} {s : State} (h1 : (Cond.castable E_io E_io).before args s = true) (h2 : (Cond.castable E_ia E_ia).before args s = true) (h3 : (Cond.castable E_is E_is).before args s = true) (h4 : (x_dcl "java/lang/RuntimeException").before args s = true) (h5 : (x_dcl "java/lang/Exception").before args s = true) (h6 : (x_dcl "java/lang/Throwable").before args s = true) (hR : ∀ q ∈ x_str, (Cond.stringRef RX0 q.1 q.2).before args s = true) (hX : ∀ q ∈ x_str, (Cond.exactly (.string RX0 q.1) "java/lang/String").before args s = true) : x_Ev s := by
  refine ⟨va_Nw.of rfl h1, va_Nw.of rfl h2, va_Nw.of rfl h3, va_Nw.of rfl h4, va_Nw.of rfl h5, va_Nw.of rfl h6, fun q hq => ?_⟩
  obtain ⟨a, c, cell, k, q1, -⟩ := Cond.exactly_spec (args := args) (first := s) (o := none) (s := s) (idx := []) (t := .string RX0 q.1) (cls := "java/lang/String") (hX q hq)
  exact ⟨a, vk_R.of (hR q hq) q1⟩
set_option maxHeartbeats 4000000 in
set_option maxRecDepth 100000 in
/-- THE LAW, from its entry -/
theorem whole_start {p : Program} {e : Env} {s : State} {m : MethodId} {below : List Frame} {meth : Method} {c : Code} (l : Launch) (hflags : l.flags = flags0) {b L : Nat} {xs : Nat → Int32} (hL : L ≤ 1536) (C0 : lw_At p s m meth c b L xs) : W p l e room_1 s m #[Value.ref b] below meth c s.heap [] 0 0 (lw_Z below #[Value.ref b] s) (entryFrame m ([Value.ref b] : List Value).toArray 7) := by
  obtain ⟨hx, hb, hr, hml, hown, htb, hX, hbl, hlocks, hgv⟩ := id C0
  have hb : c.code = cL_law := hb
  have hown : s.vm.findClass RL = some m.cls := hown
  have hs := flat_of_before _ hgv
  have hts : ∀ w ∈ wsL_law, w.before #[Value.ref b] s = true := fun w h => htb w (wsL_law_in w h)
  have hlt : l.stackTraces = false := by
    unfold Launch.stackTraces
    rw [hflags]
    decide +kernel
  have hE : x_Ev s := x_Ev_of (htb (.castable E_io E_io) (by decide +kernel)) (htb (.castable E_ia E_ia) (by decide +kernel)) (htb (.castable E_is E_is) (by decide +kernel)) (htb (x_dcl "java/lang/RuntimeException") (by decide +kernel)) (htb (x_dcl "java/lang/Exception") (by decide +kernel)) (htb (x_dcl "java/lang/Throwable") (by decide +kernel)) (List.forall_mem_cons.mpr ⟨htb _ (by decide +kernel), List.forall_mem_cons.mpr ⟨htb _ (by decide +kernel), List.forall_mem_cons.mpr ⟨htb _ (by decide +kernel), List.forall_mem_cons.mpr ⟨htb _ (by decide +kernel), List.forall_mem_cons.mpr ⟨htb _ (by decide +kernel), List.forall_mem_cons.mpr ⟨htb _ (by decide +kernel), List.forall_mem_cons.mpr ⟨htb _ (by decide +kernel), List.forall_mem_cons.mpr ⟨htb _ (by decide +kernel), List.forall_mem_cons.mpr ⟨htb _ (by decide +kernel), List.forall_mem_cons.mpr ⟨htb _ (by decide +kernel), List.forall_mem_cons.mpr ⟨htb _ (by decide +kernel), List.forall_mem_cons.mpr ⟨htb _ (by decide +kernel), List.forall_mem_cons.mpr ⟨htb _ (by decide +kernel), List.forall_mem_cons.mpr ⟨htb _ (by decide +kernel), List.forall_mem_cons.mpr ⟨htb _ (by decide +kernel), fun _ h => absurd h List.not_mem_nil⟩⟩⟩⟩⟩⟩⟩⟩⟩⟩⟩⟩⟩⟩⟩) (List.forall_mem_cons.mpr ⟨hs _ (by decide +kernel), List.forall_mem_cons.mpr ⟨hs _ (by decide +kernel), List.forall_mem_cons.mpr ⟨hs _ (by decide +kernel), List.forall_mem_cons.mpr ⟨hs _ (by decide +kernel), List.forall_mem_cons.mpr ⟨hs _ (by decide +kernel), List.forall_mem_cons.mpr ⟨hs _ (by decide +kernel), List.forall_mem_cons.mpr ⟨hs _ (by decide +kernel), List.forall_mem_cons.mpr ⟨hs _ (by decide +kernel), List.forall_mem_cons.mpr ⟨hs _ (by decide +kernel), List.forall_mem_cons.mpr ⟨hs _ (by decide +kernel), List.forall_mem_cons.mpr ⟨hs _ (by decide +kernel), List.forall_mem_cons.mpr ⟨hs _ (by decide +kernel), List.forall_mem_cons.mpr ⟨hs _ (by decide +kernel), List.forall_mem_cons.mpr ⟨hs _ (by decide +kernel), List.forall_mem_cons.mpr ⟨hs _ (by decide +kernel), fun _ h => absurd h List.not_mem_nil⟩⟩⟩⟩⟩⟩⟩⟩⟩⟩⟩⟩⟩⟩⟩)
  have hZ : x_Zz (fun q : Nat => s.heap.size ≤ q) s s.heap := ⟨vx_Zqof (htb _ (by decide +kernel)) (htb _ (by decide +kernel)) (hs _ (by decide +kernel)) (fun a h => Nat.not_le.mpr h), vx_Zqof (htb _ (by decide +kernel)) (htb _ (by decide +kernel)) (hs _ (by decide +kernel)) (fun a h => Nat.not_le.mpr h)⟩
  have hN : x_Nc s := ⟨va_Nc.of (hs _ (by decide +kernel)), va_Nc.of (hs _ (by decide +kernel)), va_Nc.of (hs _ (by decide +kernel))⟩
  have hA : ∀ q : Nat, s.heap.size ≤ q → (fun q : Nat => s.heap.size ≤ q) q := fun _ h => h
  have ki0 := (htb (.instantiable RX0 15) (by decide +kernel))
  have ki1 := (htb (.instantiable RX1 14) (by decide +kernel))
  have kz0 := (htb (.initialized RX0) (by decide +kernel))
  have kz1 := (htb (.initialized RX1) (by decide +kernel))
  have kl0 := (htb (.classLink RL 8 RX0) (by decide +kernel))
  have kl1 := (htb (.classLink RL 82 RX1) (by decide +kernel))
  have km0 := (htb (.methodLink RL 81 yX0_init) (by decide +kernel))
  have km1 := (htb (.methodLink RL 84 yX1_init) (by decide +kernel))
  have kn0 := (htb (.instanceMethod yX0_init) (by decide +kernel))
  have kn1 := (htb (.instanceMethod yX1_init) (by decide +kernel))
  have ka := (htb (.arrayClass .long) (by decide +kernel))
  obtain ⟨c0, iS0, hKn0⟩ := u_known (C := RX0) (T := TX0) (N := 15) (n := 15) htb inX0 ki0
  obtain ⟨c1, iS1, hKn1⟩ := u_known (C := RX1) (T := TX1) (N := 14) (n := 14) htb inX1 ki1
  obtain ⟨D, hKc⟩ : ∃ D : va_G, ∀ (k : Nat) (q : vw_C), vwCl[k]? = some q → u_Kn s q.1 q.2.1 q.2.2 (D.1 k) (D.2 k) := by
    refine ⟨(fun k => if k = 0 then c0 else c1, fun k => if k = 0 then iS0 else iS1), ?_⟩
    intro k q hq
    match k, hq with
    | 0, hq => cases hq; exact hKn0
    | 1, hq => cases hq; exact hKn1
    | k + 2, hq => simp [vwCl] at hq
  have hS : va_S (fun q : Nat => s.heap.size ≤ q) s.heap s.heap [] := va_S.rf
  have hK : va_K D vwCl [] s := ⟨hKc, fun k q h => by simp at h⟩
  have hP : va_P D vwCl [] s.heap := fun k q h => by simp at h
  have hD : va_D (fun q : Nat => s.heap.size ≤ q) [] := ⟨fun i j p q h => by simp at h, fun k q h => by simp at h⟩
  have hl := lv_entry ([.ref b]) (n := 7) (Nat.le_of_ble_eq_true rfl)
  rw [lg_entry_eq]
  generalize (lg_sl ([.ref b]) ++ List.replicate (7 - (lg_sl ([.ref b])).length) Slot.unset).toArray = ls at hl ⊢
  have hl : lv_has ls 7 [(0, .ref b)] := hl
  refine va_new (ci := 0) (fs := [.null, .null, .null, .null, .null, .int 0, .null, .null, .int 0, .int 0, .null, .null, .null, .null, .int 0]) (C := RX0) (T := TX0) (N := 15) hx hb htb inX0 tyX0 tyX0_ok hown kl0 ki0 kz0 hK hP hD hS hA rfl (fun j hj => by rcases (show j = 0 ∨ j = 1 ∨ j = 2 ∨ j = 3 ∨ j = 4 ∨ j = 5 ∨ j = 6 ∨ j = 7 ∨ j = 8 ∨ j = 9 ∨ j = 10 ∨ j = 11 ∨ j = 12 ∨ j = 13 ∨ j = 14 by omega) with rfl | rfl | rfl | rfl | rfl | rfl | rfl | rfl | rfl | rfl | rfl | rfl | rfl | rfl | rfl <;> rfl) (Nat.le_of_ble_eq_true rfl) (Nat.le_of_ble_eq_true rfl) dL_law_0 (fun q0 H hP hD hS => ?_)
  have hP : va_P D vwCl [(q0, .inr (0, [.null, .null, .null, .null, .null, .int 0, .null, .null, .int 0, .int 0, .null, .null, .null, .null, .int 0]))] H := hP
  have hD : va_D (fun q : Nat => s.heap.size ≤ q) [(q0, .inr (0, [.null, .null, .null, .null, .null, .int 0, .null, .null, .int 0, .int 0, .null, .null, .null, .null, .int 0]))] := hD
  refine W.widen (k := 1) (n := 15) (by omega) (by omega) ?_
  refine lv_dup hx hb dL_law_3 rfl ?_
  have hF := g_free (wl := []) (wc := [(q0, .inr (0, [.null, .null, .null, .null, .null, .int 0, .null, .null, .int 0, .int 0, .null, .null, .null, .null, .int 0]))]) (wr := []) hD hS hA
  refine va_callv (va_runI (As := []) (rest := [.ref q0]) ⟨hx, hb, hml, hown, hts⟩ (c0_init l D q0 H.size) (cwI 0 hts gL_law_X0_init rfl rfl rfl kz0 km0 kn0 rfl (by decide +kernel) ⟨Nat.le_of_ble_eq_true rfl, Nat.le_of_ble_eq_true rfl⟩) ⟨pW_fb, pW_mk hP hK hD⟩ rfl rfl hl.1 rfl (lv_room (Nat.le_of_ble_eq_true rfl)) dL_law_4 ⟨Nat.le_of_ble_eq_true rfl, Nat.le_of_ble_eq_true rfl⟩) hS (fun q _ h => hF q h) hF (fun u t H1 locs ht hvm hw hB hz1 hk1 hS => ?_)
  obtain ⟨h0, cA⟩ := u
  obtain ⟨hP1, hD1, hK1⟩ := hB
  have hw : h0 0 = q0 := hw
  subst hw
  rw [ht] at hP1
  have hK1 := va_K.moved hvm.symm hK1
  obtain ⟨hP, hD⟩ := g_join (wl := []) (wc := [(h0 0, .inr (0, [.null, .null, .null, .null, .null, .int 0, .null, .null, .int 0, .int 0, .null, .null, .null, .null, .int 0]))]) (wr := []) hP hD hk1 hF hP1 hD1
  have hK : va_K D vwCl [(cA, .int)] s := hK.app hK1
  generalize H1 = H at hP hS ⊢
  rw [List.nil_append, List.append_nil] at hP hD
  have hP : va_P D vwCl (w0 h0 cA (m0 z0)) H := hP
  have hD : va_D (fun q : Nat => s.heap.size ≤ q) (w0 h0 cA (m0 z0)) := hD
  refine W.widen (k := 12) (n := 347) (by omega) (by omega) ?_
  refine lv_astore_n (lv' := [(1, .ref (h0 0)), (0, .ref b)]) hx hb dL_law_7 rfl hl (by decide) rfl (fun ls hl => ?_)
  refine va_new (ci := 1) (fs := [.int 0, .int 0, .null, .null, .null, .null, .null, .null, .int 0, .int 0, .null, .null, .null, .null]) (C := RX1) (T := TX1) (N := 14) hx hb htb inX1 tyX1 tyX1_ok hown kl1 ki1 kz1 hK hP hD hS hA rfl (fun j hj => by rcases (show j = 0 ∨ j = 1 ∨ j = 2 ∨ j = 3 ∨ j = 4 ∨ j = 5 ∨ j = 6 ∨ j = 7 ∨ j = 8 ∨ j = 9 ∨ j = 10 ∨ j = 11 ∨ j = 12 ∨ j = 13 by omega) with rfl | rfl | rfl | rfl | rfl | rfl | rfl | rfl | rfl | rfl | rfl | rfl | rfl | rfl <;> rfl) (Nat.le_of_ble_eq_true rfl) (Nat.le_of_ble_eq_true rfl) dL_law_8 (fun q1 H hP hD hS => ?_)
  refine W.widen (k := 13) (n := 361) (by omega) (by omega) ?_
  refine lv_dup hx hb dL_law_11 rfl ?_
  have hF := g_free (wl := w0 h0 cA (m0 z0)) (wc := [(q1, .inr (1, [.int 0, .int 0, .null, .null, .null, .null, .null, .null, .int 0, .int 0, .null, .null, .null, .null]))]) (wr := []) hD hS hA
  refine va_callv (va_runI (As := []) (rest := [.ref q1]) ⟨hx, hb, hml, hown, hts⟩ (c1_init l D q1 H.size) (cwI 0 hts gL_law_X1_init rfl rfl rfl kz1 km1 kn1 rfl (by decide +kernel) ⟨Nat.le_of_ble_eq_true rfl, Nat.le_of_ble_eq_true rfl⟩) ⟨pW_fb, pW_mk (p_right hP) (hK.sub [] rfl) (d_right hD)⟩ rfl rfl hl.1 rfl (lv_room (Nat.le_of_ble_eq_true rfl)) dL_law_12 ⟨Nat.le_of_ble_eq_true rfl, Nat.le_of_ble_eq_true rfl⟩) hS (fun q _ h => hF q h) hF (fun u t H1 locs ht hvm hw hB hz1 hk1 hS => ?_)
  obtain ⟨h1, cA1, f1⟩ := u
  obtain ⟨hP1, hD1, hK1⟩ := hB
  obtain ⟨hw, hf1⟩ := hw
  have hw : h1 0 = q1 := hw
  have hf1 : ∀ i : Nat, i ≤ 1000 → f1 i = if i = 0 then 100 else -1 := hf1
  subst hw
  rw [ht] at hP1
  have hK1 := va_K.moved hvm.symm hK1
  obtain ⟨hP, hD⟩ := g_join (wl := w0 h0 cA (m0 z0)) (wc := [(h1 0, .inr (1, [.int 0, .int 0, .null, .null, .null, .null, .null, .null, .int 0, .int 0, .null, .null, .null, .null]))]) (wr := []) hP hD hk1 hF hP1 hD1
  have hK : va_K D vwCl [(cA, .int), (cA1, .int)] s := hK.app hK1
  obtain rfl := k_same hK 0 1 rfl rfl
  have hK : va_K D vwCl [(cA, .int)] s := hK.sub [0] rfl
  generalize H1 = H at hP hS ⊢
  rw [List.append_nil] at hP hD
  have hP : va_P D vwCl (w0 h0 cA (m0 f1) ++ w1 h1 cA 0 (m0 f1)) H := hP
  have hD : va_D (fun q : Nat => s.heap.size ≤ q) (w0 h0 cA (m0 f1) ++ w1 h1 cA 0 (m0 f1)) := hD
  refine W.widen (k := 23) (n := 1682) (by omega) (by omega) ?_
  refine lv_astore_n (lv' := [(2, .ref (h1 0)), (1, .ref (h0 0)), (0, .ref b)]) hx hb dL_law_15 rfl hl (by decide) rfl (fun ls hl => ?_)
  refine lv_iconst (v := 1) hx hb dL_law_16 (by decide) ?_
  refine va_newa (atype := .long) (ty := .long) (a0 := (1, .inr (.inl (fun _ => 0)))) (N' := 1) hx hb ka rfl hK hP hD hS hA (fun cA => by rw [vp_cell_l]; rfl) (by decide) (by decide) (Nat.le_of_ble_eq_true rfl) (Nat.le_of_ble_eq_true rfl) (Nat.le_of_ble_eq_true rfl) dL_law_17 (fun ao cL H hK hP hD hS => ?_)
  have hK : va_K D vwCl [(cA, .int), (cL, .long)] s := hK
  have hP := hP.sub (ws' := (w0 h0 cA (m0 f1) ++ wO ao cL (fun _ => 0)) ++ w1 h1 cA 0 (m0 f1)) [0, 1, 2, 3, 4, 5, 6, 7, 8, 9, 10, 11, 23, 12, 13, 14, 15, 16, 17, 18, 19, 20, 21, 22] rfl
  have hD := hD.sub (ws' := (w0 h0 cA (m0 f1) ++ wO ao cL (fun _ => 0)) ++ w1 h1 cA 0 (m0 f1)) [0, 1, 2, 3, 4, 5, 6, 7, 8, 9, 10, 11, 23, 12, 13, 14, 15, 16, 17, 18, 19, 20, 21, 22] (by decide) rfl
  refine W.widen (k := 24) (n := 1683) (by omega) (by omega) ?_
  refine lv_astore_n (lv' := [(3, .ref ao), (2, .ref (h1 0)), (1, .ref (h0 0)), (0, .ref b)]) hx hb dL_law_19 rfl hl (by decide) rfl (fun ls hl => ?_)
  refine lv_iconst (v := nI (3 * 0)) hx hb dL_law_20 (by decide) ?_
  refine lv_istore (lv' := [(4, .int (nI (3 * 0))), (3, .ref ao), (2, .ref (h1 0)), (1, .ref (h0 0)), (0, .ref b)]) hx hb dL_law_21 hl (by decide) rfl (fun ls hl => ?_)
  exact law_loop hr hlocks ⟨hx, hb, hml, hown, hts, hX, hbl, hlt, hE, hZ, hN, hK, hL⟩ 513 0 24 1683 (by omega) (by omega) rfl rfl (fun _ => 0) 0 (m0 f1) H locs ls (inv_0 hf1) hP hD hS (lv_sub hl [0, 4, 3, 2, 1] rfl)
