/-! SMALL FACTS that the walks end with -/
theorem k_lt {a b : Nat} (ha : a < 2 ^ 31) (hb : b < 2 ^ 31) (c : nI a < nI b) : a < b := (nI_ltI ha hb).mp c
theorem k_nlt {a b : Nat} (ha : a < 2 ^ 31) (hb : b < 2 ^ 31) (c : ¬ nI a < nI b) : b ≤ a := Nat.not_lt.mp (fun h => c ((nI_ltI ha hb).mpr h))
theorem k_le {a b : Nat} (ha : a < 2 ^ 31) (hb : b < 2 ^ 31) (c : nI a ≤ nI b) : a ≤ b := (nI_leI ha hb).mp c
theorem k_nle {a b : Nat} (ha : a < 2 ^ 31) (hb : b < 2 ^ 31) (c : ¬ nI a ≤ nI b) : b < a := Nat.not_le.mp (fun h => c ((nI_leI ha hb).mpr h))
theorem k_eq {a b : Nat} (ha : a < 2 ^ 31) (hb : b < 2 ^ 31) (c : nI a = nI b) : a = b := (nI_eq ha hb).mp c
theorem k_ne {a b : Nat} (_ : a < 2 ^ 31) (_ : b < 2 ^ 31) (c : ¬ nI a = nI b) : ¬ a = b := fun h => c (by rw [h])
theorem k_pred {n : Nat} (h : 1 ≤ n) : nI n - 1 = nI (n - 1) := by
  obtain ⟨k, rfl⟩ : ∃ k, n = k + 1 := ⟨n - 1, by omega⟩
  exact nI_pred k
theorem k_dec {n : Nat} (h : 1 ≤ n) : nI n + Int32.ofInt (-1) = nI (n - 1) := by
  obtain ⟨k, rfl⟩ : ∃ k, n = k + 1 := ⟨n - 1, by omega⟩
  exact pk_m1 k
theorem k_cge {x y : Int64} (c : 0 ≤ lg_cmp x y) : ¬ x < y := Int64.not_lt.mpr ((lg_cmp_ge x y).mp c)
theorem k_cnge {x y : Int64} (c : ¬ 0 ≤ lg_cmp x y) : x < y := Int64.not_le.mp (fun h => c ((lg_cmp_ge x y).mpr h))
theorem k_ceq {x y : Int64} (c : lg_cmp x y = 0) : x = y := by
  unfold lg_cmp at c
  by_cases h : x > y
  · rw [if_pos h] at c; exact absurd c (by decide)
  · rw [if_neg h] at c
    by_cases h2 : x = y
    · exact h2
    · rw [if_neg h2] at c; exact absurd c (by decide)
theorem k_cne {x y : Int64} (c : ¬ lg_cmp x y = 0) : ¬ x = y := by
  intro h
  apply c
  unfold lg_cmp
  rw [if_neg (by rw [h]; exact Int64.lt_irrefl), if_pos h]
theorem k_cgt {x y : Int64} (c : 0 < lg_cmp x y) : y < x := by
  unfold lg_cmp at c
  by_cases h : x > y
  · exact h
  · rw [if_neg h] at c
    by_cases h2 : x = y
    · rw [if_pos h2] at c; exact absurd c (by decide)
    · rw [if_neg h2] at c; exact absurd c (by decide)
theorem k_cngt {x y : Int64} (c : ¬ 0 < lg_cmp x y) : ¬ y < x := by
  intro h
  apply c
  unfold lg_cmp
  rw [if_pos (show x > y from h)]
  decide
theorem ixL_neg {n : Nat} {x : Int32} (c : x < 0) : ixL n x = none := by
  have h : x.toInt < 0 := by
    have := Int32.lt_iff_toInt_lt.mp c
    rwa [Int32.toInt_zero] at this
  unfold ixL
  rw [if_neg (by omega)]
theorem ixL_big {n : Nat} {x : Int32} (hn : n < 2 ^ 31) (c : ¬ x < nI n) : ixL n x = none := by
  have h : ¬ x.toInt < (nI n).toInt := fun h => c (Int32.lt_iff_toInt_lt.mpr h)
  rw [nI_toInt hn] at h
  unfold ixL
  rw [if_neg (by omega)]
theorem ixL_nI {n j : Nat} (hn : n < 2 ^ 31) (h : j < n) : ixL n (nI j) = some j := by
  unfold ixL
  rw [nI_toInt (by omega), if_pos ⟨by omega, by omega⟩]
  rfl
theorem ixL_in {n : Nat} {x : Int32} (hn : n < 2 ^ 31) (c0 : ¬ x < 0) (c : x < nI n) : ∃ j : Nat, j < n ∧ x = nI j ∧ ixL n x = some j := by
  obtain ⟨j, hj, rfl⟩ := nI_of c0
  have h := (nI_ltI hj hn).mp c
  exact ⟨j, h, rfl, ixL_nI hn h⟩
theorem ixL_c {n : Nat} {x : Int32} (hn : n < 2 ^ 31) : ixL n x = none ∨ ∃ j : Nat, j < n ∧ x = nI j ∧ ixL n x = some j := by
  by_cases c0 : x < 0
  · exact Or.inl (ixL_neg c0)
  · by_cases c : x < nI n
    · exact Or.inr (ixL_in hn c0 c)
    · exact Or.inl (ixL_big hn c)
theorem inR_lo {n lo hi : Int32} (c : n < lo) : inR n lo hi = false := by
  unfold inR
  rw [decide_eq_false (Int32.not_le.mpr c)]; rfl
theorem inR_hi {n lo hi : Int32} (c : hi < n) : inR n lo hi = false := by
  unfold inR
  rw [decide_eq_false (p := n ≤ hi) (Int32.not_le.mpr c), Bool.and_false]
theorem inR_ok {n lo hi : Int32} (c1 : ¬ n < lo) (c2 : ¬ hi < n) : inR n lo hi = true := by
  unfold inR
  rw [decide_eq_true (Int32.not_lt.mp c1), decide_eq_true (Int32.not_lt.mp c2)]; rfl
theorem inR_le {n lo hi : Int32} (h : inR n lo hi = true) : lo ≤ n ∧ n ≤ hi := by
  unfold inR at h
  rw [Bool.and_eq_true] at h
  exact ⟨of_decide_eq_true h.1, of_decide_eq_true h.2⟩
theorem bl_c (b : Bool) : b = true ∨ b = false := by cases b <;> simp
/-! calls on the whole world -/
section SELF
variable {p : Program} {l : Launch} {e : Env} {R : Room} {s : State} {m : MethodId} {args : Array Value} {below : List Frame} {meth : Method} {c : Code} {H : Heap} {locs : List Loc} {cells slots : Nat} {Q : State → Prop}
variable {mc ms : Nat} {A0 : Nat → Prop} {D : va_G} {a : Array Value} {pc : Nat} {ls : Array Slot} {st0 rest : List Value}
theorem g_calliS {S : Type} {post : Int32 → S → Prop} {wf : S → va_W} {wc : va_W} (hr : va_Run p l e R s m args below meth c H locs cells slots mc ms (F0 m pc ls st0) rest (va_Qi post (fun u => qW D (va_A wc H.size) (wf u)) (va_A wc H.size) a) (va_A wc H.size))
    (hP : va_P D vwCl wc H) (hD : va_D A0 wc) (hS : va_S A0 s.heap H locs) (hA : ∀ q, s.heap.size ≤ q → A0 q)
    (kk : ∀ (r : Int32) (u : S) (H : Heap) (locs : List Loc), post r u → va_P D vwCl (wf u) H → va_D A0 (wf u) → va_S A0 s.heap H locs → W p l e R s m args below meth c H locs (cells + mc) (slots + ms) Q (F0 m (pc + 3) ls (.int r :: rest))) : W p l e R s m args below meth c H locs cells slots Q (F0 m pc ls st0) :=
  g_calliW (wl := []) (wr := []) hr (List.append_nil _).symm hP hD hS hA (fun r u H locs hq h1 h2 h3 => kk r u H locs hq (by rw [List.nil_append, List.append_nil] at h1; exact h1) (by rw [List.nil_append, List.append_nil] at h2; exact h2) h3)
theorem g_callvS {S : Type} {post : S → Prop} {wf : S → va_W} {wc : va_W} (hr : va_Run p l e R s m args below meth c H locs cells slots mc ms (F0 m pc ls st0) rest (va_Qv post (fun u => qW D (va_A wc H.size) (wf u)) (va_A wc H.size) a) (va_A wc H.size))
    (hP : va_P D vwCl wc H) (hD : va_D A0 wc) (hS : va_S A0 s.heap H locs) (hA : ∀ q, s.heap.size ≤ q → A0 q)
    (kk : ∀ (u : S) (H : Heap) (locs : List Loc), post u → va_P D vwCl (wf u) H → va_D A0 (wf u) → va_S A0 s.heap H locs → W p l e R s m args below meth c H locs (cells + mc) (slots + ms) Q (F0 m (pc + 3) ls rest)) : W p l e R s m args below meth c H locs cells slots Q (F0 m pc ls st0) :=
  g_callvW (wl := []) (wr := []) hr (List.append_nil _).symm hP hD hS hA (fun u H locs hq h1 h2 h3 => kk u H locs hq (by rw [List.nil_append, List.append_nil] at h1; exact h1) (by rw [List.nil_append, List.append_nil] at h2; exact h2) h3)
theorem g_callvXS {S : Type} {post : S → Prop} {PX : String → Prop} {wf : S → va_W} {wc : va_W} (hr : vx_Run p l e R s m args below meth c H locs cells slots mc ms (F0 m pc ls st0) rest (va_Qv post (fun u => qW D (va_A wc H.size) (wf u)) (va_A wc H.size) a) (g_X PX) (va_A wc H.size))
    (hP : va_P D vwCl wc H) (hD : va_D A0 wc) (hS : va_S A0 s.heap H locs) (hA : ∀ q, s.heap.size ≤ q → A0 q)
    (kx : ∀ (E : String) (ce : Cell) (q9 : Addr) (H1 : Heap) (locs : List Loc), PX E → H.size + 1 ≤ H1.size → (∀ q : Nat, q < H.size → H1[q]? = H[q]?) → va_P D vwCl wc H1 → va_S A0 s.heap H1 locs → H1[q9]? = some ce → ce.vm = .none → s.vm.findClass E = some ce.cls → vx_W p l e R s m args below meth c H1 locs (cells + mc) (slots + ms) Q (F0 m pc ls rest) q9)
    (kk : ∀ (u : S) (H : Heap) (locs : List Loc), post u → va_P D vwCl (wf u) H → va_D A0 (wf u) → va_S A0 s.heap H locs → W p l e R s m args below meth c H locs (cells + mc) (slots + ms) Q (F0 m (pc + 3) ls rest)) : W p l e R s m args below meth c H locs cells slots Q (F0 m pc ls st0) :=
  g_callvX (wl := []) (wr := []) hr (List.append_nil _).symm hP hD hS hA kx (fun u H locs hq h1 h2 h3 => kk u H locs hq (by rw [List.nil_append, List.append_nil] at h1; exact h1) (by rw [List.nil_append, List.append_nil] at h2; exact h2) h3)
end SELF
theorem x_best_le (st : FF) (p : Int32) : ∀ k : Nat, x_best st p k ≤ k
  | 0 => Nat.le_refl 0
  | k + 1 => by
    unfold x_best
    by_cases h : ¬ p < st (k + 1) ∧ st (x_best st p k) < st (k + 1)
    · rw [if_pos h]; exact Nat.le_refl _
    · rw [if_neg h]; exact Nat.le_succ_of_le (x_best_le st p k)
theorem x_fs_n {st : FF} {t : Int32} {n k : Nat} (h : k < n) (c : ¬ st k = t) : x_fs st t (n - k) k = x_fs st t (n - (k + 1)) (k + 1) := by
  obtain ⟨d, hd⟩ : ∃ d, n - k = d + 1 := ⟨n - k - 1, by omega⟩
  rw [hd, show n - (k + 1) = d by omega]
  show (if st k = t then some k else x_fs st t d (k + 1)) = _
  rw [if_neg c]
theorem x_fs_y {st : FF} {t : Int32} {n k : Nat} (h : k < n) (c : st k = t) : x_fs st t (n - k) k = some k := by
  obtain ⟨d, hd⟩ : ∃ d, n - k = d + 1 := ⟨n - k - 1, by omega⟩
  rw [hd]
  show (if st k = t then some k else x_fs st t d (k + 1)) = _
  rw [if_pos c]
theorem k_ne0 {d : Int32} (h : ¬ d = 0) : ¬ d.toInt64 = 0 := by
  intro e
  apply h
  have h1 : d.toInt64.toInt = 0 := by rw [e]; rfl
  rw [Int32.toInt_toInt64] at h1
  exact Int32.toInt_inj.mp (by rw [h1]; rfl)
/-- Met.ofW for a method of the library's own classes -/
theorem met_ofWF {l : Launch} {y : MethodName} {ws ws' : List Cond} {rm : Room} {Pc : Array Value → State → Prop} {Qc : Array Value → State → Outcome → State → Prop} {mc ms : Nat} {free : Addr → Prop} {cc : ByteArray} {maxL : Nat} {ret : Option FieldType}
    (hy : plainFor y = true) (hw : ws = Cond.code y cc maxL ret :: ws')
    (body : ∀ p e s m args below meth c s₁, BodyLoose p l y (headSpec ws rm) cc maxL ret e s m args below meth c s₁ → c.maxLocals = maxL → Pc args s →
      W p l e (headSpec ws rm).room s m args below meth c s.heap [] 0 0 (MQ below Qc args s mc ms free) (entryFrame m args maxL)) : Met l y ws rm Pc Qc mc ms free := by
  refine MetFree.of_bodySF (code := cc) (maxLocals := maxL) (ret := ret) hy ?_ ?_
  · intro args s m h hn
    obtain ⟨meth, c, h1, h2, h3, h4, h5, h6, -, -⟩ := Cond.code_spec hn (atoms_spec (ws := ws) h _ (by rw [hw]; exact List.mem_cons_self))
    exact ⟨meth, c, h1, h2, h3, h4, h5, h6⟩
  · intro p e s m args below meth c s₁ B hml hP _
    have hh0 : s₁.heap = s.heap := by rw [B.state]; rfl
    obtain ⟨t, a1, o, b1, b2, b3⟩ := body p e s m args below meth c s₁ B hml hP s₁ hh0 (Stand.of_body B)
    exact ⟨t, o, a1, b1, b2, ⟨b3.1, b3.2⟩⟩
theorem r_outL {c : Code} {meth : Method} {m : MethodId} {p : Program} {l : Launch} {e : Env} {R : Room} {s : State} {args : Array Value} {below : List Frame} {A : Addr → Prop} {Qc : Array Value → State → Outcome → State → Prop} {PX : String → Prop} {pc : Nat} {ls : Array Slot} {rest : List Value} {E : String} {ce : Cell} {q : Addr} {H1 : Heap} {locs : List Loc} {k n : Nat} (htab : ∀ x ∈ c.exceptionTable.toList, False) (hlocks : meth.locks = false) (hS : va_S A s.heap H1 locs) (h1 : s.heap.size + 1 ≤ H1.size) (h2 : ∀ q : Nat, q < s.heap.size → H1[q]? = s.heap[q]?) (hcell : H1[q]? = some ce) (hv : ce.vm = .none) (hcl : s.vm.findClass E = some ce.cls) (hP : PX E) (hk : k ≤ 1) (hn : n ≤ 6) :
    vx_W p l e R s m args below meth c H1 locs k n (vx_MQ below Qc (g_X PX) args s 1 6 A) (F0 m pc ls rest) q :=
  vx_out (fun x hx => (htab x hx).elim) hlocks hcell hv hcl (fun t ht _ => ⟨hP, by rw [ht]; exact h1, fun q hq => by rw [ht]; exact h2 q hq⟩) hS.2.2 hk hn
theorem x_split_ok {M : MM} {x p : Int32} {j : Nat} (h1 : ixL (m_ln M) x = some j) (h2 : inR p 1 (m_lv M j - 1) = true) (h3 : ¬ m_ln M = 16) : x_split M x p = (0, nI (m_ln M), mk (upd (upd (m_lv M) (m_ln M) p) j (m_lv M j - p)) (x_mv (m_le M) j (m_ln M) p (m_lv M j)) (x_mv (m_lw M) j (m_ln M) p (m_lv M j)) (x_mv (m_lb M) j (m_ln M) p (m_lv M j)) (x_mv (m_lh M) j (m_ln M) p (m_lv M j)) (m_ln M + 1) (m_st M) (m_sr M) (m_sn M) (m_rt M) (m_hb M) (m_as M) (m_aa M) (m_ab M) (m_ah M) (m_an M)) := by
  simp only [x_split, h1, h2, if_true, if_neg h3]
theorem x_bill_fix (M : MM) (r : Int32) : ∀ k : Nat, m_ln (x_bill M r k) = m_ln M ∧ m_an (x_bill M r k) = m_an M ∧ m_lv (x_bill M r k) = m_lv M ∧ m_le (x_bill M r k) = m_le M ∧ m_lw (x_bill M r k) = m_lw M ∧ m_st (x_bill M r k) = m_st M ∧ m_sr (x_bill M r k) = m_sr M ∧ m_sn (x_bill M r k) = m_sn M ∧ m_rt (x_bill M r k) = m_rt M ∧ m_hb (x_bill M r k) = m_hb M ∧ m_as (x_bill M r k) = m_as M ∧ m_aa (x_bill M r k) = m_aa M ∧ m_ab (x_bill M r k) = m_ab M ∧ m_ah (x_bill M r k) = m_ah M
  | 0 => ⟨rfl, rfl, rfl, rfl, rfl, rfl, rfl, rfl, rfl, rfl, rfl, rfl, rfl, rfl⟩
  | k + 1 => x_bill_fix M r k
theorem x_close_ok {M N : MM} (h1 : ¬ m_ln M = 0) (h2 : ¬ m_an M = 60) (hN : N = x_bill (x_cl1 M) (x_rate (x_cl1 M)) (m_ln M)) (hl : m_ln N = m_ln M) : x_close M = (0, nI (m_an M), s_an (s_ah (s_ab (s_as N (upd (m_as N) (m_an M) 0)) (upd (m_ab N) (m_an M) (psum (m_lb N) (m_ln M)))) (upd (m_ah N) (m_an M) (psum (m_lh N) (m_ln M)))) (m_an M + 1)) := by
  unfold x_close
  rw [if_neg h1, if_neg h2, ← hN]
  unfold z_app
  rw [hl]
theorem x_fl_n {M : MM} {p n k : Nat} (h : k < n) (c : ¬ x_rank M k = p) : x_fl M p (n - k) k = x_fl M p (n - (k + 1)) (k + 1) := by
  obtain ⟨d, hd⟩ : ∃ d, n - k = d + 1 := ⟨n - k - 1, by omega⟩
  rw [hd, show n - (k + 1) = d by omega]
  show (if x_rank M k = p then k else x_fl M p d (k + 1)) = _
  rw [if_neg c]
theorem x_fl_y {M : MM} {p n k : Nat} (c : x_rank M k = p) : x_fl M p n k = k := by
  cases n with
  | zero => rfl
  | succ d =>
    show (if x_rank M k = p then k else x_fl M p d (k + 1)) = _
    rw [if_pos c]
theorem cnt2_le (f : FF) : ∀ n : Nat, cnt2 f n ≤ n
  | 0 => Nat.le_refl 0
  | k + 1 => by
    unfold cnt2
    have := cnt2_le f k
    by_cases h : f k = 2
    · rw [if_pos h]; omega
    · rw [if_neg h]; omega
/-! a write to the world, as a write to the state -/
theorem q0_lv {h : Nat → Nat} {cA : ClassId} {M : MM} {f : FF} : List.set (w0 h cA M) 1 (h 1, .inl (cA, 16, .inl f)) = w0 h cA (s_lv M f) := rfl
theorem q0_le {h : Nat → Nat} {cA : ClassId} {M : MM} {f : FF} : List.set (w0 h cA M) 2 (h 2, .inl (cA, 16, .inl f)) = w0 h cA (s_le M f) := rfl
theorem q0_lw {h : Nat → Nat} {cA : ClassId} {M : MM} {f : FF} : List.set (w0 h cA M) 3 (h 3, .inl (cA, 16, .inl f)) = w0 h cA (s_lw M f) := rfl
theorem q0_lb {h : Nat → Nat} {cA : ClassId} {M : MM} {f : FF} : List.set (w0 h cA M) 4 (h 4, .inl (cA, 16, .inl f)) = w0 h cA (s_lb M f) := rfl
theorem q0_lh {h : Nat → Nat} {cA : ClassId} {M : MM} {f : FF} : List.set (w0 h cA M) 5 (h 5, .inl (cA, 16, .inl f)) = w0 h cA (s_lh M f) := rfl
theorem q0_st {h : Nat → Nat} {cA : ClassId} {M : MM} {f : FF} : List.set (w0 h cA M) 6 (h 6, .inl (cA, 6, .inl f)) = w0 h cA (s_st M f) := rfl
theorem q0_sr {h : Nat → Nat} {cA : ClassId} {M : MM} {f : FF} : List.set (w0 h cA M) 7 (h 7, .inl (cA, 6, .inl f)) = w0 h cA (s_sr M f) := rfl
theorem q0_as {h : Nat → Nat} {cA : ClassId} {M : MM} {f : FF} : List.set (w0 h cA M) 8 (h 8, .inl (cA, 60, .inl f)) = w0 h cA (s_as M f) := rfl
theorem q0_aa {h : Nat → Nat} {cA : ClassId} {M : MM} {f : FF} : List.set (w0 h cA M) 9 (h 9, .inl (cA, 60, .inl f)) = w0 h cA (s_aa M f) := rfl
theorem q0_ab {h : Nat → Nat} {cA : ClassId} {M : MM} {f : FF} : List.set (w0 h cA M) 10 (h 10, .inl (cA, 60, .inl f)) = w0 h cA (s_ab M f) := rfl
theorem q0_ah {h : Nat → Nat} {cA : ClassId} {M : MM} {f : FF} : List.set (w0 h cA M) 11 (h 11, .inl (cA, 60, .inl f)) = w0 h cA (s_ah M f) := rfl
theorem q0_ln {h : Nat → Nat} {cA : ClassId} {M : MM} {n : Nat} : List.set (w0 h cA M) 0 (h 0, .inr (0, List.set [.ref (h 1), .ref (h 2), .ref (h 3), .ref (h 4), .ref (h 5), .int (nI (m_ln M)), .ref (h 6), .ref (h 7), .int (nI (m_sn M)), .int (m_hb M), .ref (h 8), .ref (h 9), .ref (h 10), .ref (h 11), .int (nI (m_an M))] 5 (.int (nI n)))) = w0 h cA (s_ln M n) := rfl
theorem q0_sn {h : Nat → Nat} {cA : ClassId} {M : MM} {n : Nat} : List.set (w0 h cA M) 0 (h 0, .inr (0, List.set [.ref (h 1), .ref (h 2), .ref (h 3), .ref (h 4), .ref (h 5), .int (nI (m_ln M)), .ref (h 6), .ref (h 7), .int (nI (m_sn M)), .int (m_hb M), .ref (h 8), .ref (h 9), .ref (h 10), .ref (h 11), .int (nI (m_an M))] 8 (.int (nI n)))) = w0 h cA (s_sn M n) := rfl
theorem q0_an {h : Nat → Nat} {cA : ClassId} {M : MM} {n : Nat} : List.set (w0 h cA M) 0 (h 0, .inr (0, List.set [.ref (h 1), .ref (h 2), .ref (h 3), .ref (h 4), .ref (h 5), .int (nI (m_ln M)), .ref (h 6), .ref (h 7), .int (nI (m_sn M)), .int (m_hb M), .ref (h 8), .ref (h 9), .ref (h 10), .ref (h 11), .int (nI (m_an M))] 14 (.int (nI n)))) = w0 h cA (s_an M n) := rfl
theorem q0_hb {h : Nat → Nat} {cA : ClassId} {M : MM} {n : Int32} : List.set (w0 h cA M) 0 (h 0, .inr (0, List.set [.ref (h 1), .ref (h 2), .ref (h 3), .ref (h 4), .ref (h 5), .int (nI (m_ln M)), .ref (h 6), .ref (h 7), .int (nI (m_sn M)), .int (m_hb M), .ref (h 8), .ref (h 9), .ref (h 10), .ref (h 11), .int (nI (m_an M))] 9 (.int n))) = w0 h cA (s_hb M n) := rfl
theorem q1_lv {h : Nat → Nat} {cA : ClassId} {rf : Int32} {M : MM} {f : FF} : List.set (w1 h cA rf M) 1 (h 1, .inl (cA, 16, .inl f)) = w1 h cA rf (s_lv M f) := rfl
theorem q1_le {h : Nat → Nat} {cA : ClassId} {rf : Int32} {M : MM} {f : FF} : List.set (w1 h cA rf M) 2 (h 2, .inl (cA, 16, .inl f)) = w1 h cA rf (s_le M f) := rfl
theorem q1_lw {h : Nat → Nat} {cA : ClassId} {rf : Int32} {M : MM} {f : FF} : List.set (w1 h cA rf M) 3 (h 3, .inl (cA, 16, .inl f)) = w1 h cA rf (s_lw M f) := rfl
theorem q1_lb {h : Nat → Nat} {cA : ClassId} {rf : Int32} {M : MM} {f : FF} : List.set (w1 h cA rf M) 4 (h 4, .inl (cA, 16, .inl f)) = w1 h cA rf (s_lb M f) := rfl
theorem q1_lh {h : Nat → Nat} {cA : ClassId} {rf : Int32} {M : MM} {f : FF} : List.set (w1 h cA rf M) 5 (h 5, .inl (cA, 16, .inl f)) = w1 h cA rf (s_lh M f) := rfl
theorem q1_rt {h : Nat → Nat} {cA : ClassId} {rf : Int32} {M : MM} {f : FF} : List.set (w1 h cA rf M) 6 (h 6, .inl (cA, 1001, .inl f)) = w1 h cA rf (s_rt M f) := rfl
theorem q1_as {h : Nat → Nat} {cA : ClassId} {rf : Int32} {M : MM} {f : FF} : List.set (w1 h cA rf M) 7 (h 7, .inl (cA, 60, .inl f)) = w1 h cA rf (s_as M f) := rfl
theorem q1_aa {h : Nat → Nat} {cA : ClassId} {rf : Int32} {M : MM} {f : FF} : List.set (w1 h cA rf M) 8 (h 8, .inl (cA, 60, .inl f)) = w1 h cA rf (s_aa M f) := rfl
theorem q1_ab {h : Nat → Nat} {cA : ClassId} {rf : Int32} {M : MM} {f : FF} : List.set (w1 h cA rf M) 9 (h 9, .inl (cA, 60, .inl f)) = w1 h cA rf (s_ab M f) := rfl
theorem q1_ah {h : Nat → Nat} {cA : ClassId} {rf : Int32} {M : MM} {f : FF} : List.set (w1 h cA rf M) 10 (h 10, .inl (cA, 60, .inl f)) = w1 h cA rf (s_ah M f) := rfl
theorem q1_ln {h : Nat → Nat} {cA : ClassId} {rf : Int32} {M : MM} {n : Nat} : List.set (w1 h cA rf M) 0 (h 0, .inr (1, List.set [.int rf, .int (nI (m_ln M)), .ref (h 1), .ref (h 2), .ref (h 3), .ref (h 4), .ref (h 5), .ref (h 6), .int (m_hb M), .int (nI (m_an M)), .ref (h 7), .ref (h 8), .ref (h 9), .ref (h 10)] 1 (.int (nI n)))) = w1 h cA rf (s_ln M n) := rfl
theorem q1_an {h : Nat → Nat} {cA : ClassId} {rf : Int32} {M : MM} {n : Nat} : List.set (w1 h cA rf M) 0 (h 0, .inr (1, List.set [.int rf, .int (nI (m_ln M)), .ref (h 1), .ref (h 2), .ref (h 3), .ref (h 4), .ref (h 5), .ref (h 6), .int (m_hb M), .int (nI (m_an M)), .ref (h 7), .ref (h 8), .ref (h 9), .ref (h 10)] 9 (.int (nI n)))) = w1 h cA rf (s_an M n) := rfl
theorem q1_hb {h : Nat → Nat} {cA : ClassId} {rf : Int32} {M : MM} {n : Int32} : List.set (w1 h cA rf M) 0 (h 0, .inr (1, List.set [.int rf, .int (nI (m_ln M)), .ref (h 1), .ref (h 2), .ref (h 3), .ref (h 4), .ref (h 5), .ref (h 6), .int (m_hb M), .int (nI (m_an M)), .ref (h 7), .ref (h 8), .ref (h 9), .ref (h 10)] 8 (.int n))) = w1 h cA rf (s_hb M n) := rfl
theorem q1_rf {h : Nat → Nat} {cA : ClassId} {rf n : Int32} {M : MM} : List.set (w1 h cA rf M) 0 (h 0, .inr (1, List.set [.int rf, .int (nI (m_ln M)), .ref (h 1), .ref (h 2), .ref (h 3), .ref (h 4), .ref (h 5), .ref (h 6), .int (m_hb M), .int (nI (m_an M)), .ref (h 7), .ref (h 8), .ref (h 9), .ref (h 10)] 0 (.int n))) = w1 h cA n M := rfl
/-! for the reference -/
def OK1 (M : MM) : Prop := m_ln M ≤ 16 ∧ m_an M ≤ 60
def y_post (o : RR) (r : Int32) (u : Int32 × MM) : Prop := o.2.1 = r ∧ u.1 = nI o.1 ∧ u.2 = o.2.2
theorem y_pk {o : RR} {r rf : Int32} {M : MM} (k : Nat) (h : o = (k, r, M)) (hk : rf = nI k) : y_post o r (rf, M) := by rw [h]; exact ⟨rfl, hk, rfl⟩
theorem mk_eta (M : MM) : M = mk (m_lv M) (m_le M) (m_lw M) (m_lb M) (m_lh M) (m_ln M) (m_st M) (m_sr M) (m_sn M) (m_rt M) (m_hb M) (m_as M) (m_aa M) (m_ab M) (m_ah M) (m_an M) := rfl
def z_put (M : MM) (j : Nat) (v o w b h : Int32) : MM := mk (upd (m_lv M) j v) (upd (m_le M) j o) (upd (m_lw M) j w) (upd (m_lb M) j b) (upd (m_lh M) j h) (m_ln M) (m_st M) (m_sr M) (m_sn M) (m_rt M) (m_hb M) (m_as M) (m_aa M) (m_ab M) (m_ah M) (m_an M)
theorem y_pf_n {f : FF} {n k : Nat} (h : k < n) (c : f k = 2) : y_pf f (n - k) k = y_pf f (n - (k + 1)) (k + 1) := by
  obtain ⟨d, hd⟩ : ∃ d, n - k = d + 1 := ⟨n - k - 1, by omega⟩
  rw [hd, show n - (k + 1) = d by omega]
  show (if f k = 2 then y_pf f d (k + 1) else k) = _
  rw [if_pos c]
theorem y_pf_y {f : FF} {n k : Nat} (c : ¬ f k = 2) : y_pf f n k = k := by
  cases n with
  | zero => rfl
  | succ d =>
    show (if f k = 2 then y_pf f d (k + 1) else k) = _
    rw [if_neg c]
theorem y_pf_le (f : FF) : ∀ n k : Nat, y_pf f n k ≤ k + n
  | 0, k => Nat.le_refl k
  | n + 1, k => by
    unfold y_pf
    have := y_pf_le f n (k + 1)
    by_cases h : f k = 2
    · rw [if_pos h]; omega
    · rw [if_neg h]; omega
theorem cntS_le (f : FF) : ∀ n : Nat, cntS f n ≤ n
  | 0 => Nat.le_refl 0
  | k + 1 => by
    unfold cntS
    have := cntS_le f k
    by_cases h : f k = -1
    · rw [if_pos h]; omega
    · rw [if_neg h]; omega
theorem y_scan_y {rt : FF} {k : Nat} (c : ¬ rt k = -1) : y_scan rt k = rt k := by
  cases k with
  | zero => rfl
  | succ d =>
    show (if rt (d + 1) = -1 then y_scan rt d else rt (d + 1)) = _
    rw [if_neg c]
theorem y_scan_n {rt : FF} {k : Nat} (h : 1 ≤ k) (c : rt k = -1) : y_scan rt k = y_scan rt (k - 1) := by
  obtain ⟨d, rfl⟩ : ∃ d, k = d + 1 := ⟨k - 1, by omega⟩
  show (if rt (d + 1) = -1 then y_scan rt d else rt (d + 1)) = _
  rw [if_pos c]; rfl
theorem y_rank_le (w d : FF) (j : Nat) : ∀ n : Nat, z_rk w d j n ≤ n
  | 0 => Nat.le_refl 0
  | k + 1 => by
    unfold z_rk
    have := y_rank_le w d j k
    by_cases h : z_ah w d k j = true
    · rw [if_pos h]; omega
    · rw [if_neg h]; omega
theorem y_bill_fix (M : MM) : ∀ k : Nat, m_ln (y_bill M k) = m_ln M ∧ m_an (y_bill M k) = m_an M
  | 0 => ⟨rfl, rfl⟩
  | k + 1 => y_bill_fix M k
theorem y_close_ok {M N : MM} (h1 : ¬ m_ln M = 0) (h2 : ¬ m_an M = 60) (hN : N = y_bill (y_cl1 M) (m_ln M)) (hl : m_ln N = m_ln M) : y_close M = (0, nI (m_an M), s_an (s_ah (s_ab (s_as N (upd (m_as N) (m_an M) 0)) (upd (m_ab N) (m_an M) (psum (m_lb N) (m_ln M)))) (upd (m_ah N) (m_an M) (psum (m_lh N) (m_ln M)))) (m_an M + 1)) := by
  unfold y_close
  rw [if_neg h1, if_neg h2, ← hN]
  unfold z_app
  rw [hl]
theorem inR_ix {n : Nat} {x : Int32} (hn : n < 2 ^ 30) : (if inR x 0 (nI n - 1) = true then (1 : Int32) else 0) = if (ixL n x).isSome = true then 1 else 0 := by
  have e1 : (nI n - 1).toInt = (n : Int) - 1 := pk_sub_toInt (b := 1) hn (by decide)
  rcases ixL_c (n := n) (x := x) (by omega) with h | ⟨j, hj, rfl, h⟩
  · rw [h]
    have : inR x 0 (nI n - 1) = false := by
      by_cases c0 : x < 0
      · exact inR_lo c0
      · refine inR_hi (Int32.lt_iff_toInt_lt.mpr ?_)
        rw [e1]
        obtain ⟨j, hj, rfl⟩ := nI_of c0
        rw [nI_toInt hj]
        by_cases hjn : j < n
        · rw [ixL_nI (by omega) hjn] at h; cases h
        · omega
    rw [this]; rfl
  · rw [h]
    have : inR (nI j) 0 (nI n - 1) = true := by
      refine inR_ok (fun c => ?_) (fun c => ?_)
      · have := Int32.lt_iff_toInt_lt.mp c
        rw [nI_toInt (by omega), Int32.toInt_zero] at this; omega
      · have := Int32.lt_iff_toInt_lt.mp c
        rw [nI_toInt (by omega), e1] at this; omega
    rw [this]; rfl
theorem upd_id {f : FF} {k : Nat} (h : f k = 0) : upd f k 0 = f := by
  funext i
  by_cases e : i = k
  · rw [e]; simp [upd, h]
  · simp [upd, e]
theorem o_addLine_1 {M : MM} {v : Int32} (hZ : ∀ f ∈ [m_le M, m_lw M, m_lb M, m_lh M], ∀ i : Nat, m_ln M ≤ i → f i = 0) (h1 : inR v 0 10000000 = true) (h2 : ¬ m_ln M = 16) : o_addLine M v = (0, nI (m_ln M), mk (upd (m_lv M) (m_ln M) v) (upd (m_le M) (m_ln M) 0) (upd (m_lw M) (m_ln M) 0) (upd (m_lb M) (m_ln M) 0) (upd (m_lh M) (m_ln M) 0) (m_ln M + 1) (m_st M) (m_sr M) (m_sn M) (m_rt M) (m_hb M) (m_as M) (m_aa M) (m_ab M) (m_ah M) (m_an M)) := by
  rw [upd_id (hZ _ (by simp) _ (Nat.le_refl _)), upd_id (hZ (m_lw M) (by simp) _ (Nat.le_refl _)), upd_id (hZ (m_lb M) (by simp) _ (Nat.le_refl _)), upd_id (hZ (m_lh M) (by simp) _ (Nat.le_refl _))]
  unfold o_addLine
  rw [if_pos h1, if_neg h2]
  rfl
theorem y_split_ok {M : MM} {x p : Int32} {j : Nat} (h1 : ixL (m_ln M) x = some j) (h2 : inR p 1 (m_lv M j - 1) = true) (h3 : ¬ m_ln M = 16) : y_split M x p = (0, nI (m_ln M), mk (upd (upd (m_lv M) (m_ln M) p) j (m_lv M j - p)) (y_mv (m_le M) j (m_ln M) p (m_lv M j)) (y_mv (m_lw M) j (m_ln M) p (m_lv M j)) (y_mv (m_lb M) j (m_ln M) p (m_lv M j)) (y_mv (m_lh M) j (m_ln M) p (m_lv M j)) (m_ln M + 1) (m_st M) (m_sr M) (m_sn M) (m_rt M) (m_hb M) (m_as M) (m_aa M) (m_ab M) (m_ah M) (m_an M)) := by
  simp only [y_split, h1, h2, if_true, if_neg h3]
theorem inR_nz {p v : Int32} (h : inR p 1 (v - 1) = true) : ¬ v = 0 := by
  intro e
  rw [e] at h
  obtain ⟨h1, h2⟩ := inR_le h
  have h3 := Int32.le_iff_toInt_le.mp (Int32.le_trans h1 h2)
  exact absurd h3 (by decide)
theorem inR_nI {t lo hi : Int32} (h : inR t lo hi = true) (h0 : 0 ≤ lo) (h1 : hi ≤ 1000) : ∃ j : Nat, j ≤ 1000 ∧ t = nI j := by
  obtain ⟨a, b⟩ := inR_le h
  exact nI_of2 (M := 1000) (by decide) (Int32.not_lt.mpr (Int32.le_trans h0 a)) (Int32.le_trans b h1)
