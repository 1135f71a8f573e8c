/-! THE CLAIM IS FALSE: from a start that the Statement allows, on the script 0, 11, 11 .. (17 ints), the law ends with true, and more than 211 cells are new -/
def sc2 : Array Value := #[.int 0, .int 11, .int 11, .int 11, .int 11, .int 11, .int 11, .int 11, .int 11, .int 11, .int 11, .int 11, .int 11, .int 11, .int 11, .int 11, .int 11]
def about2 : State := start1.aboutOf sc2
def xs2 : Nat → Int32 := fun k => if k = 0 then 0 else 11
set_option maxHeartbeats 4000000 in
theorem lx_walk (l : Launch) (hflags : l.flags = flags0) (b : Addr) (L : Nat) (xs : Nat → Int32) (hL : L = 17) (hxs : ∀ k : Nat, k < 17 → xs k = if k = 0 then 0 else 11) : MetFree l x (headSpec (Jvm.Cond.code x code maxLocals ret :: tables_1) R2) (fun args s => args = #[.ref b] ∧ va_X b L xs s s.heap ∧ b < s.heap.size ∧ (Jvm.Cond.and given_1 narrow_1).before args s = true) (fun _ _ _ _ _ => True) lx_Q := by
  refine MetFree.of_bodyS (code := code) (maxLocals := maxLocals) (ret := ret) (by decide) ?_ ?_
  · intro args s m h hn
    obtain ⟨meth, c, h1, h2, h3, h4, h5, h6, -, -⟩ := Cond.code_spec hn (atoms_spec (ws := Jvm.Cond.code x code maxLocals ret :: tables_1) h _ List.mem_cons_self)
    exact ⟨meth, c, h1, h2, h3, h4, h5, h6⟩
  · intro p e s m args below meth c s₁ B hml0 hP _
    obtain ⟨rfl, hX, hbl, hgv⟩ := hP
    have hown : s.vm.findClass R_law = some m.cls := findClass_of_methodNamed B.named
    have hts0 : ∀ c ∈ (Jvm.Cond.code x code maxLocals ret :: tables_1), c.before #[Value.ref b] s = true := atoms_spec (ws := Jvm.Cond.code x code maxLocals ret :: tables_1) B.pre
    have hts : ∀ w ∈ lw_tbl, w.before #[Value.ref b] s = true := k2_hts_sels lw_privs (fun w hw => hts0 w (List.mem_cons_of_mem _ hw)) lw_privs_ok
    have hml : c.maxLocals = 10 := B.maxLocals_eq (hts0 _ List.mem_cons_self)
    have X₀ : Stand p l e R2 s m #[Value.ref b] below meth c s₁ [] 0 0 := Stand.of_body B
    have hh0 : s₁.heap = s.heap := by rw [B.state]; rfl
    have K : W p l e R2 s m #[Value.ref b] below meth c s₁.heap [] 0 0 (lx_Z below #[Value.ref b] s) (entryFrame m ([Value.ref b] : List Value).toArray 10) := by
      rw [hh0]
      exact lx_start l hflags hL hxs ⟨B.exec, B.bytes, B.returns, hml, hown, hts, hX, hbl, B.notSynchronized, hgv⟩
    obtain ⟨t, a1, o, b1, b2, b3⟩ := K s₁ rfl X₀
    exact ⟨t, o, a1, b1, b2, b3⟩
/-- an invocation that is under way hasn't ended -/
theorem no_end {s : State} {o : Outcome} (hw : Within s Lib.HandBits.below0) : ¬ Ended s Lib.HandBits.below0 o := by
  obtain ⟨above, ha, hne, hth⟩ := hw
  intro he
  cases o with
  | threw a =>
    have he : s.frames = [.throwing a] ++ Lib.HandBits.below0 := he
    rw [ha] at he
    exact hth a (List.append_cancel_right he)
  | returned v =>
    have he : s.frames.length = 1 := by
      have h9 : s.frames = _ := he
      rw [h9]; rfl
    rw [ha, List.length_append] at he
    have h8 : Lib.HandBits.below0.length = 1 := rfl
    have h7 : above.length = 0 := by omega
    exact hne (List.length_eq_zero_iff.mp h7)
theorem framed_le {s t : State} {o : Outcome} {L : List Loc} {k n : Nat} (h : Framed s o t L k n) : t.heap.size ≤ s.heap.size + k := h.2.2.2.2.1
theorem no_two {s t : State} (h1 : t.heap.size ≤ s.heap.size + 211) (h2 : s.heap.size + 212 ≤ t.heap.size) : False := by omega
theorem hX2 : va_X 0 17 xs2 about2 about2.heap := by
  refine ⟨{ cls := 12, slots := sc2, vm := .none }, rfl, ⟨(fun k h => nomatch h), _, rfl, _, rfl⟩, (fun h => nomatch h), rfl, fun j hj => ?_⟩
  have hj9 : j = 0 ∨ j = 1 ∨ j = 2 ∨ j = 3 ∨ j = 4 ∨ j = 5 ∨ j = 6 ∨ j = 7 ∨ j = 8 ∨ j = 9 ∨ j = 10 ∨ j = 11 ∨ j = 12 ∨ j = 13 ∨ j = 14 ∨ j = 15 ∨ j = 16 := by omega
  rcases hj9 with rfl | rfl | rfl | rfl | rfl | rfl | rfl | rfl | rfl | rfl | rfl | rfl | rfl | rfl | rfl | rfl | rfl <;> rfl
/-! that start: the words of the tables -/
set_option maxRecDepth 16384 in
theorem o2_0 : List.all (List.take 40 tables_1) (fun w => vx_ot w || w.before start1.args0 about2) = true := by decide +kernel
set_option maxRecDepth 16384 in
theorem o2_1 : List.all (List.take 40 (List.drop 40 tables_1)) (fun w => vx_ot w || w.before start1.args0 about2) = true := by decide +kernel
set_option maxRecDepth 16384 in
theorem o2_2 : List.all (List.take 40 (List.drop 40 (List.drop 40 tables_1))) (fun w => vx_ot w || w.before start1.args0 about2) = true := by decide +kernel
set_option maxRecDepth 16384 in
theorem o2_3 : List.all (List.take 40 (List.drop 40 (List.drop 40 (List.drop 40 tables_1)))) (fun w => vx_ot w || w.before start1.args0 about2) = true := by decide +kernel
set_option maxRecDepth 16384 in
theorem o2_4 : List.all (List.take 40 (List.drop 40 (List.drop 40 (List.drop 40 (List.drop 40 tables_1))))) (fun w => vx_ot w || w.before start1.args0 about2) = true := by decide +kernel
set_option maxRecDepth 16384 in
theorem o2_5 : List.all (List.take 40 (List.drop 40 (List.drop 40 (List.drop 40 (List.drop 40 (List.drop 40 tables_1)))))) (fun w => vx_ot w || w.before start1.args0 about2) = true := by decide +kernel
set_option maxRecDepth 16384 in
theorem o2_6 : List.all (List.take 40 (List.drop 40 (List.drop 40 (List.drop 40 (List.drop 40 (List.drop 40 (List.drop 40 tables_1))))))) (fun w => vx_ot w || w.before start1.args0 about2) = true := by decide +kernel
set_option maxRecDepth 16384 in
theorem o2_7 : List.all (List.take 40 (List.drop 40 (List.drop 40 (List.drop 40 (List.drop 40 (List.drop 40 (List.drop 40 (List.drop 40 tables_1)))))))) (fun w => vx_ot w || w.before start1.args0 about2) = true := by decide +kernel
set_option maxRecDepth 16384 in
theorem o2_8 : List.all (List.take 40 (List.drop 40 (List.drop 40 (List.drop 40 (List.drop 40 (List.drop 40 (List.drop 40 (List.drop 40 (List.drop 40 tables_1))))))))) (fun w => vx_ot w || w.before start1.args0 about2) = true := by decide +kernel
set_option maxRecDepth 16384 in
theorem o2_9 : List.all (List.take 40 (List.drop 40 (List.drop 40 (List.drop 40 (List.drop 40 (List.drop 40 (List.drop 40 (List.drop 40 (List.drop 40 (List.drop 40 tables_1)))))))))) (fun w => vx_ot w || w.before start1.args0 about2) = true := by decide +kernel
set_option maxRecDepth 16384 in
theorem o2_10 : List.all (List.take 40 (List.drop 40 (List.drop 40 (List.drop 40 (List.drop 40 (List.drop 40 (List.drop 40 (List.drop 40 (List.drop 40 (List.drop 40 (List.drop 40 tables_1))))))))))) (fun w => vx_ot w || w.before start1.args0 about2) = true := by decide +kernel
set_option maxRecDepth 16384 in
theorem o2_11 : List.all (List.drop 40 (List.drop 40 (List.drop 40 (List.drop 40 (List.drop 40 (List.drop 40 (List.drop 40 (List.drop 40 (List.drop 40 (List.drop 40 (List.drop 40 tables_1))))))))))) (fun w => vx_ot w || w.before start1.args0 about2) = true := by decide +kernel
theorem o2_all : List.all tables_1 (fun w => vx_ot w || w.before start1.args0 about2) = true := (start1.su_all_split _ 40 tables_1 o2_0 (start1.su_all_split _ 40 (List.drop 40 tables_1) o2_1 (start1.su_all_split _ 40 (List.drop 40 (List.drop 40 tables_1)) o2_2 (start1.su_all_split _ 40 (List.drop 40 (List.drop 40 (List.drop 40 tables_1))) o2_3 (start1.su_all_split _ 40 (List.drop 40 (List.drop 40 (List.drop 40 (List.drop 40 tables_1)))) o2_4 (start1.su_all_split _ 40 (List.drop 40 (List.drop 40 (List.drop 40 (List.drop 40 (List.drop 40 tables_1))))) o2_5 (start1.su_all_split _ 40 (List.drop 40 (List.drop 40 (List.drop 40 (List.drop 40 (List.drop 40 (List.drop 40 tables_1)))))) o2_6 (start1.su_all_split _ 40 (List.drop 40 (List.drop 40 (List.drop 40 (List.drop 40 (List.drop 40 (List.drop 40 (List.drop 40 tables_1))))))) o2_7 (start1.su_all_split _ 40 (List.drop 40 (List.drop 40 (List.drop 40 (List.drop 40 (List.drop 40 (List.drop 40 (List.drop 40 (List.drop 40 tables_1)))))))) o2_8 (start1.su_all_split _ 40 (List.drop 40 (List.drop 40 (List.drop 40 (List.drop 40 (List.drop 40 (List.drop 40 (List.drop 40 (List.drop 40 (List.drop 40 tables_1))))))))) o2_9 (start1.su_all_split _ 40 (List.drop 40 (List.drop 40 (List.drop 40 (List.drop 40 (List.drop 40 (List.drop 40 (List.drop 40 (List.drop 40 (List.drop 40 (List.drop 40 tables_1)))))))))) o2_10 o2_11)))))))))))
theorem vm2 : start1.about.vm = about2.vm := rfl
theorem wm2 : start1.about.WarmedH about2.vm := by rw [← vm2]; exact State.WarmedH.refl _
theorem words2 : ∀ w ∈ (Cond.code x code maxLocals ret :: tables_1), w.before start1.args0 about2 = true := by
  intro w hw
  have h1 := start1.words w hw
  rcases List.mem_cons.mp hw with h | h
  · subst h
    exact vx_ot_at wm2 vm2 rfl h1
  · have h2 := List.all_eq_true.mp o2_all w h
    rcases Bool.or_eq_true _ _ |>.mp h2 with h3 | h3
    · exact vx_ot_at wm2 vm2 h3 h1
    · exact h3
set_option maxRecDepth 16384 in
theorem app2_1 : (headSpec (Cond.code x code maxLocals ret :: tables_1) room_1).applies x start1.e0.platform about2 = true :=
  (Spec.applies_iff rfl).mpr ⟨rfl, rfl, rfl, by decide +kernel, by decide +kernel, by decide +kernel, launch0.hasRoom_least _ room_1 (by decide +kernel) (by decide +kernel) (by decide +kernel) (by decide +kernel) (by decide +kernel) (by decide +kernel), atoms_intro words2⟩
set_option maxRecDepth 16384 in
theorem app2_2 : (headSpec (Cond.code x code maxLocals ret :: tables_1) R2).applies x start1.e0.platform about2 = true :=
  (Spec.applies_iff rfl).mpr ⟨rfl, rfl, rfl, by decide +kernel, by decide +kernel, by decide +kernel, launch0.hasRoom_least _ R2 (by decide +kernel) (by decide +kernel) (by decide +kernel) (by decide +kernel) (by decide +kernel) (by decide +kernel), atoms_intro words2⟩
set_option maxRecDepth 16384 in
theorem rest2 : rest_1_c.before start1.args0 about2 = true := by decide +kernel
set_option maxRecDepth 16384 in
theorem pre2 : (Cond.and given_1 narrow_1).before start1.args0 about2 = true := by decide +kernel
theorem fit2 : argsFit about2.vm ⟨0, 0⟩ start1.args0 = true := by decide +kernel
theorem heap2 : heapFits about2 = true := by decide +kernel
/-- what the claim says of that start, and what the law does there -/
theorem p34_false : ¬ Claimed_1_1 := by
  intro h
  obtain ⟨n1, o1, w1, -, e1, -, fr⟩ := h launch0 rfl lists_1 trivial start1.p0 start1.e0 (launch0.admits_env _ _ _) fairChoices_fair.cas fairChoices_fair.clock about2 ⟨0, 0⟩ start1.args0 Lib.HandBits.below0 rfl fit2 heap2 app2_1 ⟨trivial, rest2, pre2⟩
  obtain ⟨n2, o2, w2, -, e2, -, q2⟩ := lx_walk launch0 rfl 0 17 xs2 rfl (fun _ _ => rfl) start1.p0 start1.e0 (launch0.admits_env _ _ _) fairChoices_fair.cas fairChoices_fair.clock about2 ⟨0, 0⟩ start1.args0 Lib.HandBits.below0 rfl ((Spec.applies_iff_loose rfl).mp app2_2).1 ⟨rfl, hX2, Nat.zero_lt_succ _, pre2⟩ trivial
  have hn : n1 = n2 := by
    rcases Nat.lt_trichotomy n1 n2 with h9 | h9 | h9
    · exact absurd e1 (no_end (w2 n1 h9))
    · exact h9
    · exact absurd e2 (no_end (w1 n2 h9))
  subst hn
  exact no_two (framed_le fr) q2
/-- the second half of the claim has the same room -/
theorem p34_false2 : ¬ Claimed_1_2 := by
  intro h
  obtain ⟨n1, o1, w1, -, e1, -, fr⟩ := h launch0 rfl lists_1 trivial start1.p0 start1.e0 (launch0.admits_env _ _ _) fairChoices_fair.cas fairChoices_fair.clock about2 ⟨0, 0⟩ start1.args0 Lib.HandBits.below0 rfl fit2 heap2 app2_1 ⟨trivial, rest2, pre2⟩
  obtain ⟨n2, o2, w2, -, e2, -, q2⟩ := lx_walk launch0 rfl 0 17 xs2 rfl (fun _ _ => rfl) start1.p0 start1.e0 (launch0.admits_env _ _ _) fairChoices_fair.cas fairChoices_fair.clock about2 ⟨0, 0⟩ start1.args0 Lib.HandBits.below0 rfl ((Spec.applies_iff_loose rfl).mp app2_2).1 ⟨rfl, hX2, Nat.zero_lt_succ _, pre2⟩ trivial
  have hn : n1 = n2 := by
    rcases Nat.lt_trichotomy n1 n2 with h9 | h9 | h9
    · exact absurd e1 (no_end (w2 n1 h9))
    · exact h9
    · exact absurd e2 (no_end (w1 n2 h9))
  subst hn
  exact no_two (framed_le fr) q2
/-- the owed statement has no proof -/
theorem i_vc_false : ¬ (Claimed_1_1 ∧ Claimed_1_2) := fun h => p34_false h.1
