/-! WHAT IS HELD, CLOSINGS -/
/-- what would be held of a line, both ways of counting -/
theorem held_two {M : MM} {j r : Nat} (hL : LI M j) (hr : r ≤ 1000) (hy : y_rate M = nI r) : x_hIf M j (nI r) = y_hTh M j ∧ ∃ h : Nat, x_hIf M j (nI r) = nI h ∧ ∀ e : Nat, e < 2 ^ 31 → m_le M j = nI e → h ≤ e := by
  obtain ⟨v, e, w, b, h, e1, e2, e3, e4, e5, l1, l2, l3, l4, l5⟩ := hL
  unfold x_hIf y_hTh
  rw [hy, e2, e4, e5]
  by_cases c : m_hb M = 0
  · rw [if_pos c, if_pos c, x_th_nI (by omega) (by omega), y_th_nI (by omega) (by omega)]
    refine ⟨rfl, _, rfl, fun e' he' hh => ?_⟩
    have := (nI_eq (by omega) he').mp hh
    subst this
    exact th_le hr
  · rw [if_neg c, if_neg c, pk_sub l5, x_th_nI (by omega) (by omega), y_th_nI (by omega) (by omega), nI_add]
    refine ⟨rfl, _, rfl, fun e' he' hh => ?_⟩
    have := (nI_eq (by omega) he').mp hh
    subst this
    have := th_le (a := e - b) hr
    omega
theorem nsub_two {M : MM} {r : Nat} (hr : r ≤ 1000) (hy : y_rate M = nI r) (a : Int32) : ∀ n : Nat, (∀ j : Nat, j < n → LI M j) → x_nsub M (nI r) a n = y_nsub M a n
  | 0, _ => rfl
  | n + 1, h => by
    show x_nsub M (nI r) a n - x_hIf M n (nI r) = y_nsub M a n - y_hTh M n
    rw [nsub_two hr hy a n (fun j hj => h j (by omega)), (held_two (h n (by omega)) hr hy).1]
theorem nsub_sh (M : MM) (r a b : Int32) : ∀ n : Nat, x_nsub M r (a - b) n = x_nsub M r a n - b
  | 0 => rfl
  | n + 1 => by
    show x_nsub M r (a - b) n - _ = x_nsub M r a n - _ - b
    rw [nsub_sh M r a b n, Int32.sub_sub, Int32.sub_sub, Int32.add_comm b]
theorem asub_sum (f : FF) (a : Int32) : ∀ n : Nat, y_asub f a n = a - psum f n
  | 0 => (Int32.sub_zero a).symm
  | n + 1 => by
    show y_asub f a n - f n = a - (psum f n + f n)
    rw [asub_sum f a n, Int32.sub_sub]
theorem next_two {M : MM} (hI : Inv M) : x_next M = y_amt M := by
  obtain ⟨r, hr, e1, e2⟩ := rate_two hI
  unfold x_next y_amt
  rw [e1, nsub_sh, asub_sum, nsub_two hr e2 _ _ hI.2.1]
/-- lines alone: what a closing keeps of them -/
theorem bill_two {M : MM} {r : Nat} (hr : r ≤ 1000) (hy : y_rate M = nI r) (hl : ∀ j : Nat, j < m_ln M → LI M j) : ∀ n : Nat, n ≤ m_ln M → x_bill M (nI r) n = y_bill M n ∧ y_rate (x_bill M (nI r) n) = nI r ∧ ∀ j : Nat, j < m_ln M → LI (x_bill M (nI r) n) j
  | 0, _ => ⟨rfl, hy, hl⟩
  | n + 1, hn => by
    obtain ⟨h1, h2, h3⟩ := bill_two hr hy hl n (by omega)
    have h4 := held_two (h3 n (by omega)) hr h2
    obtain ⟨h5, hh, h6, h7⟩ := h4
    refine ⟨?_, h2, fun j hj => ?_⟩
    · show s_lb (s_lh (x_bill M (nI r) n) (upd (m_lh (x_bill M (nI r) n)) n (x_hIf (x_bill M (nI r) n) n (nI r)))) (upd (m_lb (x_bill M (nI r) n)) n (m_le (x_bill M (nI r) n) n)) = s_lb (s_lh (y_bill M n) (upd (m_lh (y_bill M n)) n (y_hTh (y_bill M n) n))) (upd (m_lb (y_bill M n)) n (m_le (y_bill M n) n))
      rw [h5, h1]
    · obtain ⟨v, e, w, b, h, e1, e2, e3, e4, e5, l1, l2, l3, l4, l5⟩ := h3 j hj
      by_cases c : j = n
      · subst c
        refine ⟨v, e, w, e, hh, e1, e2, e3, ?_, ?_, l1, l2, l3, h7 e (by omega) e2, Nat.le_refl _⟩
        · show upd (m_lb (x_bill M (nI r) j)) j (m_le (x_bill M (nI r) j) j) j = nI e
          rw [pk_us, e2]
        · show upd (m_lh (x_bill M (nI r) j)) j (x_hIf (x_bill M (nI r) j) j (nI r)) j = nI hh
          rw [pk_us, h6]
      · refine ⟨v, e, w, b, h, e1, e2, e3, ?_, ?_, l1, l2, l3, l4, l5⟩
        · show upd (m_lb (x_bill M (nI r) n)) n (m_le (x_bill M (nI r) n) n) j = nI b
          rw [pk_un c, e4]
        · show upd (m_lh (x_bill M (nI r) n)) n (x_hIf (x_bill M (nI r) n) n (nI r)) j = nI h
          rw [pk_un c, e5]
theorem bill_zero {M : MM} {r : Int32} : ∀ n : Nat, n ≤ m_ln M → ∀ i : Nat, m_ln M ≤ i → m_lb (x_bill M r n) i = m_lb M i ∧ m_lh (x_bill M r n) i = m_lh M i
  | 0, _, _, _ => ⟨rfl, rfl⟩
  | n + 1, hn, i, hi => by
    obtain ⟨h1, h2⟩ := bill_zero (M := M) (r := r) n (by omega) i hi
    refine ⟨?_, ?_⟩
    · show upd (m_lb (x_bill M r n)) n _ i = _
      rw [pk_un (by omega), h1]
    · show upd (m_lh (x_bill M r n)) n _ i = _
      rw [pk_un (by omega), h2]
theorem s_close {M : MM} (hI : Inv M) : Same M (x_close M) (y_close M) := by
  obtain ⟨r, hr, e1, e2⟩ := rate_two hI
  have hn := next_two hI
  obtain ⟨⟨o1, o2, o3, o4⟩, hl, hz, hs, hb, w, w1, w2, w3, w4⟩ := id hI
  by_cases c0 : m_ln M = 0
  · unfold x_close y_close
    rw [if_pos c0, if_pos c0]
    exact same_no hI 1 0 0 (by decide)
  · by_cases c1 : m_an M = 60
    · unfold x_close y_close
      rw [if_neg c0, if_neg c0, if_pos c1, if_pos c1]
      exact same_no hI 1 0 0 (by decide)
    · have hc : x_cl1 M = y_cl1 M := by unfold x_cl1 y_cl1; rw [hn]
      have hr1 : x_rate (x_cl1 M) = nI r := e1
      have hy1 : y_rate (x_cl1 M) = nI r := e2
      obtain ⟨b1, b2, b3⟩ := bill_two (M := x_cl1 M) hr hy1 hl (m_ln M) (Nat.le_refl _)
      have hz1 := bill_zero (M := x_cl1 M) (r := nI r) (m_ln M) (Nat.le_refl _)
      have hfix := x_bill_fix (x_cl1 M) (nI r) (m_ln M)
      have hE : x_close M = y_close M := by
        unfold x_close y_close
        rw [if_neg c0, if_neg c0, if_neg c1, if_neg c1, hr1, b1, hc]
      rw [← hE]
      unfold x_close
      rw [if_neg c0, if_neg c1, hr1]
      refine same_ok ?_ _
      obtain ⟨N, hN⟩ : ∃ N, N = x_bill (x_cl1 M) (nI r) (m_ln M) := ⟨_, rfl⟩
      rw [← hN] at b3 hz1 hfix ⊢
      obtain ⟨f1, f2, f3, f4, f5, f6, f7, f8, f9, f10, f11, f12, f13, f14⟩ := hfix
      have f1 : m_ln N = m_ln M := f1
      have f2 : m_an N = m_an M := f2
      have f4 : m_le N = m_le M := f4
      have f5 : m_lw N = m_lw M := f5
      have f6 : m_st N = m_st M := f6
      have f7 : m_sr N = m_sr M := f7
      have f8 : m_sn N = m_sn M := f8
      have f9 : m_rt N = m_rt M := f9
      have f10 : m_hb N = m_hb M := f10
      have f11 : m_as N = m_as M := f11
      refine ⟨?_, ?_, ?_, ?_, ?_, ?_⟩
      · show m_ln N ≤ 16 ∧ 1 ≤ m_sn N ∧ m_sn N ≤ 6 ∧ m_an M + 1 ≤ 60
        rw [f1, f8]; omega
      · intro j hj
        have hj : j < m_ln N := hj
        exact b3 j (by rw [f1] at hj; exact hj)
      · intro f hf i hi
        have hi : m_ln N ≤ i := hi
        rw [f1] at hi
        have hf : f ∈ [m_le N, m_lw N, m_lb N, m_lh N] := hf
        simp only [List.mem_cons, List.not_mem_nil, or_false] at hf
        rcases hf with rfl | rfl | rfl | rfl
        · rw [f4]; exact hz _ (by simp) i hi
        · rw [f5]; exact hz _ (by simp) i hi
        · rw [(hz1 i hi).1]; exact hz (m_lb M) (by simp) i hi
        · rw [(hz1 i hi).2]; exact hz (m_lh M) (by simp) i hi
      · obtain ⟨s0, s1, s2, s3, s4⟩ := hs
        refine ⟨?_, ?_, ?_, ?_, ?_⟩
        · show m_st N 0 = _
          rw [f6]; exact s0
        · show ∀ i : Nat, i < m_sn N → ∃ k r : Nat, k ≤ 1000 ∧ r ≤ 1000 ∧ m_st N i = nI k ∧ m_sr N i = nI r ∧ m_rt N k = nI r
          rw [f6, f7, f8, f9]; exact s1
        · show ∀ i j : Nat, i < m_sn N → j < m_sn N → m_st N i = m_st N j → i = j
          rw [f6, f8]; exact s2
        · show ∀ k : Nat, k ≤ 1000 → m_rt N k = -1 ∨ ∃ i : Nat, i < m_sn N ∧ m_st N i = nI k
          rw [f6, f8, f9]; exact s3
        · show cntS (m_rt N) 1001 = m_sn N
          rw [f8, f9]; exact s4
      · show m_hb N = 0 ∨ m_hb N = 1
        rw [f10]; exact hb
      · refine ⟨w, ?_, ?_, ?_, ?_⟩
        · show w ≤ m_an M + 1
          omega
        · intro i hi
          show upd (m_as N) (m_an M) 0 i = 2
          rw [f11, pk_un (by omega)]; exact w2 i hi
        · intro i h1 h2
          show upd (m_as N) (m_an M) 0 i = 0
          have h2 : i < m_an M + 1 := h2
          by_cases c : i = m_an M
          · rw [c, pk_us]
          · rw [f11, pk_un c]; exact w3 i h1 (by omega)
        · intro h2
          have h2 : w < m_an M + 1 := h2
          show upd (m_as N) (m_an M) 0 w = 0 ∨ upd (m_as N) (m_an M) 0 w = 1
          by_cases c : w = m_an M
          · rw [c, pk_us]; exact Or.inl rfl
          · rw [f11, pk_un c]; exact w4 (by omega)
/-! PAYMENTS AND WAIVERS -/
theorem cnt2_w {f : FF} {w : Nat} : ∀ n : Nat, (∀ i : Nat, i < w → f i = 2) → (∀ i : Nat, w ≤ i → i < n → ¬ f i = 2) → cnt2 f n = if n ≤ w then n else w
  | 0, _, _ => by rw [if_pos (Nat.zero_le _)]; rfl
  | n + 1, h1, h2 => by
    have ih := cnt2_w n h1 (fun i a b => h2 i a (by omega))
    unfold cnt2
    by_cases c : n < w
    · rw [if_pos (h1 n c), ih, if_pos (by omega), if_pos (by omega)]
    · rw [if_neg (h2 n (by omega) (by omega)), ih, if_neg (c := n + 1 ≤ w) (by omega)]
      by_cases c2 : n ≤ w
      · rw [if_pos c2]; omega
      · rw [if_neg c2]
theorem pf_w {f : FF} {w : Nat} : ∀ n i : Nat, (∀ k : Nat, k < w → f k = 2) → (∀ k : Nat, w ≤ k → k < i + n → ¬ f k = 2) → i ≤ w → y_pf f n i = if i + n ≤ w then i + n else w
  | 0, i, _, _, h3 => by rw [if_pos (by omega)]; rfl
  | n + 1, i, h1, h2, h3 => by
    unfold y_pf
    by_cases c : i < w
    · rw [if_pos (h1 i c), pf_w n (i + 1) h1 (fun k a b => h2 k a (by omega)) (by omega)]
      by_cases c2 : i + 1 + n ≤ w
      · rw [if_pos c2, if_pos (by omega)]; omega
      · rw [if_neg c2, if_neg (by omega)]
    · rw [if_neg (h2 i (by omega) (by omega)), if_neg (by omega)]; omega
theorem w_two {f : FF} {w n : Nat} (hw : w ≤ n) (h1 : ∀ i : Nat, i < w → f i = 2) (h2 : ∀ i : Nat, w ≤ i → i < n → ¬ f i = 2) : cnt2 f n = w ∧ y_pf f n 0 = w := by
  refine ⟨?_, ?_⟩
  · rw [cnt2_w n h1 h2]
    by_cases c : n ≤ w
    · rw [if_pos c]; omega
    · rw [if_neg c]
  · rw [pf_w n 0 h1 (fun k a b => h2 k a (by omega)) (Nat.zero_le _)]
    by_cases c : 0 + n ≤ w
    · rw [if_pos c]; omega
    · rw [if_neg c]
theorem WI.two {M : MM} (h : WI M) : ∃ w : Nat, w ≤ m_an M ∧ cnt2 (m_as M) (m_an M) = w ∧ y_pf (m_as M) (m_an M) 0 = w ∧ (∀ i : Nat, i < w → m_as M i = 2) ∧ (∀ i : Nat, w < i → i < m_an M → m_as M i = 0) ∧ (w < m_an M → m_as M w = 0 ∨ m_as M w = 1) := by
  obtain ⟨w, w1, w2, w3, w4⟩ := h
  have hn : ∀ i : Nat, w ≤ i → i < m_an M → ¬ m_as M i = 2 := by
    intro i a b e
    by_cases c : i = w
    · subst c
      rcases w4 b with z | z <;> rw [z] at e <;> exact absurd e (by decide)
    · rw [w3 i (by omega) b] at e
      exact absurd e (by decide)
  obtain ⟨h1, h2⟩ := w_two w1 w2 hn
  exact ⟨w, w1, h1, h2, w2, w3, w4⟩
/-- a state that differs in the applications' states alone -/
theorem inv_as {M : MM} {f : FF} (hI : Inv M) (hW : WI (s_as M f)) : Inv (s_as M f) := ⟨hI.1, hI.2.1, hI.2.2.1, hI.2.2.2.1, hI.2.2.2.2.1, hW⟩
theorem s_pay {M : MM} (hI : Inv M) (x : Int32) : Same M (x_pay M x) (y_pay M x) := by
  have ha := hI.1.2.2.2
  obtain ⟨w, w1, e1, e2, w2, w3, w4⟩ := hI.2.2.2.2.2.two
  rcases ixL_c (n := m_an M) (x := x) (by omega) with h | ⟨j, hj, rfl, h⟩
  · unfold x_pay y_pay
    rw [h]
    exact same_no hI 1 0 0 (by decide)
  · unfold x_pay y_pay
    rw [h]
    dsimp only
    by_cases c : m_as M j = 0
    · rw [if_pos c, if_pos c, e1, e2]
      by_cases c2 : w < j
      · rw [if_pos c2]
        exact same_no hI 2 0 0 (by decide)
      · rw [if_neg c2]
        refine same_ok (inv_as hI ?_) _
        have hjw : j = w := by
          by_cases c3 : j < w
          · rw [w2 j c3] at c; exact absurd c (by decide)
          · omega
        subst hjw
        refine ⟨j, w1, fun i hi => ?_, fun i a b => ?_, fun _ => Or.inr ?_⟩
        · show upd (m_as M) j 1 i = 2
          rw [pk_un (by omega)]; exact w2 i hi
        · show upd (m_as M) j 1 i = 0
          rw [pk_un (by omega)]; exact w3 i a b
        · show upd (m_as M) j 1 j = 1
          rw [pk_us]
    · rw [if_neg c, if_neg c]
      exact same_no hI 2 0 0 (by decide)
theorem s_waive {M : MM} (hI : Inv M) (x : Int32) : Same M (x_waive M x) (y_waive M x) := by
  have ha := hI.1.2.2.2
  obtain ⟨w, w1, e1, e2, w2, w3, w4⟩ := hI.2.2.2.2.2.two
  rcases ixL_c (n := m_an M) (x := x) (by omega) with h | ⟨j, hj, rfl, h⟩
  · unfold x_waive y_waive
    rw [h]
    exact same_no hI 1 0 0 (by decide)
  · unfold x_waive y_waive
    rw [h]
    dsimp only
    by_cases c : m_as M j = 1
    · rw [if_pos c, if_pos c]
      have hjw : j = w := by
        by_cases c3 : j < w
        · rw [w2 j c3] at c; exact absurd c (by decide)
        · by_cases c4 : j = w
          · exact c4
          · rw [w3 j (by omega) hj] at c; exact absurd c (by decide)
      subst hjw
      have q2 : ∀ i : Nat, i < j + 1 → upd (m_as M) j 2 i = 2 := by
        intro i hi
        by_cases c3 : i = j
        · rw [c3, pk_us]
        · rw [pk_un c3]; exact w2 i (by omega)
      have q3 : ∀ i : Nat, j + 1 ≤ i → i < m_an M → upd (m_as M) j 2 i = 0 := by
        intro i a b
        rw [pk_un (by omega)]; exact w3 i (by omega) b
      obtain ⟨t1, t2⟩ := w_two (f := upd (m_as M) j 2) (w := j + 1) (n := m_an M) (by omega) q2 (fun i a b e => by rw [q3 i a b] at e; exact absurd e (by decide))
      rw [t1, t2]
      refine same_ok (inv_as hI ⟨j + 1, ?_, q2, fun i a b => q3 i (by omega) b, fun b => Or.inl (q3 (j + 1) (Nat.le_refl _) b)⟩) _
      show j + 1 ≤ m_an M
      omega
    · rw [if_neg c, if_neg c]
      exact same_no hI 2 0 0 (by decide)
theorem paid_two (as aa : FF) : ∀ n : Nat, x_psum as aa n = y_psum as aa n
  | 0 => rfl
  | n + 1 => by
    unfold x_psum y_psum
    rw [paid_two as aa n]
    by_cases c : as n = 0
    · rw [if_pos c, if_pos c, Int32.add_zero]
    · rw [if_neg c, if_neg c]
