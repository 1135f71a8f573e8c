/-! LINES, WORK, GOODS, SPLITS -/
theorem inR_N {x : Int32} {lo hi : Nat} (hlo : lo < 2 ^ 31) (hhi : hi < 2 ^ 31) (h : inR x (nI lo) (nI hi) = true) : ∃ n : Nat, x = nI n ∧ lo ≤ n ∧ n ≤ hi := by
  obtain ⟨a, b⟩ := inR_le h
  have a1 := Int32.le_iff_toInt_le.mp a
  have b1 := Int32.le_iff_toInt_le.mp b
  rw [nI_toInt hlo] at a1
  rw [nI_toInt hhi] at b1
  have c0 : ¬ x < 0 := fun c => by
    have c1 := Int32.lt_iff_toInt_lt.mp c
    rw [Int32.toInt_zero] at c1
    omega
  obtain ⟨n, hn, rfl⟩ := nI_of c0
  rw [nI_toInt hn] at a1 b1
  exact ⟨n, rfl, by omega, by omega⟩
def sL (M : MM) (lv le lw lb lh : FF) : MM := mk lv le lw lb lh (m_ln M) (m_st M) (m_sr M) (m_sn M) (m_rt M) (m_hb M) (m_as M) (m_aa M) (m_ab M) (m_ah M) (m_an M)
/-- one line's amounts change -/
theorem inv_line {M : MM} (hI : Inv M) {j : Nat} (hj : j < m_ln M) {lv le lw lb lh : FF} (hne : ∀ i : Nat, ¬ i = j → lv i = m_lv M i ∧ le i = m_le M i ∧ lw i = m_lw M i ∧ lb i = m_lb M i ∧ lh i = m_lh M i)
    (hat : ∃ v e w b h : Nat, lv j = nI v ∧ le j = nI e ∧ lw j = nI w ∧ lb j = nI b ∧ lh j = nI h ∧ w ≤ e ∧ e ≤ v ∧ v ≤ 10000000 ∧ h ≤ b ∧ b ≤ e) : Inv (sL M lv le lw lb lh) := by
  refine ⟨hI.1, fun i hi => ?_, fun f hf i hi => ?_, hI.2.2.2.1, hI.2.2.2.2.1, hI.2.2.2.2.2⟩
  · by_cases c : i = j
    · subst c
      exact hat
    · obtain ⟨h1, h2, h3, h4, h5⟩ := hne i c
      obtain ⟨v, e, w, b, h, e1, e2, e3, e4, e5, l⟩ := hI.2.1 i hi
      exact ⟨v, e, w, b, h, h1.trans e1, h2.trans e2, h3.trans e3, h4.trans e4, h5.trans e5, l⟩
  · have hi : m_ln M ≤ i := hi
    have hf : f ∈ [le, lw, lb, lh] := hf
    obtain ⟨h1, h2, h3, h4, h5⟩ := hne i (by omega)
    simp only [List.mem_cons, List.not_mem_nil, or_false] at hf
    rcases hf with rfl | rfl | rfl | rfl
    · rw [h2]; exact hI.zero _ (by simp) i hi
    · rw [h3]; exact hI.zero (m_lw M) (by simp) i hi
    · rw [h4]; exact hI.zero (m_lb M) (by simp) i hi
    · rw [h5]; exact hI.zero (m_lh M) (by simp) i hi
theorem s_addLine {M : MM} (hI : Inv M) (v : Int32) : Same M (o_addLine M v) (o_addLine M v) := by
  unfold o_addLine
  by_cases c : inR v 0 10000000 = true
  · rw [if_pos c]
    by_cases c2 : m_ln M = 16
    · rw [if_pos c2]; exact same_no hI 2 0 0 (by decide)
    · rw [if_neg c2]
      obtain ⟨n, rfl, -, hn⟩ := inR_N (lo := 0) (hi := 10000000) (by decide) (by decide) c
      refine same_ok ?_ _
      refine ⟨?_, fun j hj => ?_, fun f hf i hi => ?_, hI.2.2.2.1, hI.2.2.2.2.1, hI.2.2.2.2.2⟩
      · have := hI.1
        exact ⟨by have := this.1; show m_ln M + 1 ≤ 16; omega, this.2⟩
      · have hj : j < m_ln M + 1 := hj
        by_cases e : j = m_ln M
        · refine ⟨n, 0, 0, 0, 0, ?_, ?_, ?_, ?_, ?_, Nat.le_refl 0, Nat.zero_le _, hn, Nat.le_refl 0, Nat.le_refl 0⟩
          · show upd (m_lv M) (m_ln M) (nI n) j = nI n
            rw [e, pk_us]
          · show m_le M j = nI 0
            rw [e, nI_0]; exact hI.zero _ (by simp) _ (Nat.le_refl _)
          · show m_lw M j = nI 0
            rw [e, nI_0]; exact hI.zero (m_lw M) (by simp) _ (Nat.le_refl _)
          · show m_lb M j = nI 0
            rw [e, nI_0]; exact hI.zero (m_lb M) (by simp) _ (Nat.le_refl _)
          · show m_lh M j = nI 0
            rw [e, nI_0]; exact hI.zero (m_lh M) (by simp) _ (Nat.le_refl _)
        · obtain ⟨v, e', w, b, h, e1, l⟩ := hI.2.1 j (by omega)
          refine ⟨v, e', w, b, h, ?_, l⟩
          show upd (m_lv M) (m_ln M) (nI n) j = nI v
          rw [pk_un e, e1]
      · have hi : m_ln M + 1 ≤ i := hi
        exact hI.zero f hf i (by omega)
  · rw [if_neg c]; exact same_no hI 1 0 0 (by decide)
theorem s_changeValue {M : MM} (hI : Inv M) (x v : Int32) : Same M (o_changeValue M x v) (o_changeValue M x v) := by
  have ha := hI.1.1
  unfold o_changeValue
  rcases ixL_c (n := m_ln M) (x := x) (by omega) with h | ⟨j, hj, rfl, h⟩
  · rw [h]; exact same_no hI 1 0 0 (by decide)
  · rw [h]
    dsimp only
    by_cases c : inR v 0 10000000 = true
    · rw [if_pos c]
      by_cases c2 : v < m_le M j
      · rw [if_pos c2]; exact same_no hI 3 0 0 (by decide)
      · rw [if_neg c2]
        obtain ⟨n, rfl, -, hn⟩ := inR_N (lo := 0) (hi := 10000000) (by decide) (by decide) c
        obtain ⟨v, e, w, b, g, e1, e2, e3, e4, e5, l1, l2, l3, l4, l5⟩ := hI.2.1 j hj
        rw [e2] at c2
        have c2 := k_nlt (by omega) (by omega) c2
        exact same_ok (inv_line hI hj (lv := upd (m_lv M) j (nI n)) (fun i hi => ⟨pk_un hi, rfl, rfl, rfl, rfl⟩) ⟨n, e, w, b, g, pk_us, e2, e3, e4, e5, l1, c2, hn, l4, l5⟩) _
    · rw [if_neg c]; exact same_no hI 2 0 0 (by decide)
theorem s_store {M : MM} (hI : Inv M) (x g : Int32) : Same M (x_store M x g) (y_store M x g) := by
  have ha := hI.1.1
  unfold x_store y_store
  rcases ixL_c (n := m_ln M) (x := x) (by omega) with h | ⟨j, hj, rfl, h⟩
  · rw [h]; exact same_no hI 1 0 0 (by decide)
  · rw [h]
    dsimp only
    by_cases c : inR g 1 10000000 = true
    · rw [if_pos c, if_pos c]
      obtain ⟨n, rfl, hn0, hn⟩ := inR_N (lo := 1) (hi := 10000000) (by decide) (by decide) c
      obtain ⟨v, e, w, b, g, e1, e2, e3, e4, e5, l1, l2, l3, l4, l5⟩ := hI.2.1 j hj
      have f1 : m_lv M j < m_le M j + nI n ↔ v < e + n := by rw [e1, e2, nI_add]; exact nI_ltI (by omega) (by omega)
      have f2 : m_lv M j - m_le M j < nI n ↔ v - e < n := by rw [e1, e2, pk_sub l2]; exact nI_ltI (by omega) (by omega)
      by_cases c2 : v < e + n
      · rw [if_pos (f1.mpr c2), if_pos (f2.mpr (by omega))]; exact same_no hI 3 0 0 (by decide)
      · rw [if_neg (fun z => c2 (f1.mp z)), if_neg (fun z => c2 (by have := f2.mp z; omega))]
        exact same_ok (inv_line hI hj (le := upd (m_le M) j (m_le M j + nI n)) (fun i hi => ⟨rfl, pk_un hi, rfl, rfl, rfl⟩) ⟨v, e + n, w, b, g, e1, by rw [pk_us, e2, nI_add], e3, e4, e5, by omega, by omega, l3, l4, by omega⟩) _
    · rw [if_neg c, if_neg c]; exact same_no hI 2 0 0 (by decide)
theorem s_place {M : MM} (hI : Inv M) (x g : Int32) : Same M (o_place M x g) (o_place M x g) := by
  have ha := hI.1.1
  unfold o_place
  rcases ixL_c (n := m_ln M) (x := x) (by omega) with h | ⟨j, hj, rfl, h⟩
  · rw [h]; exact same_no hI 1 0 0 (by decide)
  · rw [h]
    dsimp only
    by_cases c : inR g 1 10000000 = true
    · rw [if_pos c]
      obtain ⟨n, rfl, hn0, hn⟩ := inR_N (lo := 1) (hi := 10000000) (by decide) (by decide) c
      obtain ⟨v, e, w, b, g, e1, e2, e3, e4, e5, l1, l2, l3, l4, l5⟩ := hI.2.1 j hj
      by_cases c2 : m_le M j - m_lw M j < nI n
      · rw [if_pos c2]; exact same_no hI 3 0 0 (by decide)
      · rw [if_neg c2]
        rw [e2, e3, pk_sub l1] at c2
        have c2 := k_nlt (by omega) (by omega) c2
        exact same_ok (inv_line hI hj (lw := upd (m_lw M) j (m_lw M j + nI n)) (fun i hi => ⟨rfl, rfl, pk_un hi, rfl, rfl⟩) ⟨v, e, w + n, b, g, e1, e2, by rw [pk_us, e3, nI_add], e4, e5, by omega, l2, l3, l4, l5⟩) _
    · rw [if_neg c]; exact same_no hI 2 0 0 (by decide)
theorem s_setWork {M : MM} (hI : Inv M) (x g : Int32) : Same M (x_setWork M x g) (y_setWork M x g) := by
  have ha := hI.1.1
  unfold x_setWork y_setWork
  rcases ixL_c (n := m_ln M) (x := x) (by omega) with h | ⟨j, hj, rfl, h⟩
  · rw [h]; exact same_no hI 1 0 0 (by decide)
  · rw [h]
    dsimp only
    by_cases c : inR g 0 1000 = true
    · rw [if_pos c, if_pos c]
      obtain ⟨n, rfl, hn0, hn⟩ := inR_N (lo := 0) (hi := 1000) (by decide) (by decide) c
      obtain ⟨v, e, w, b, g, e1, e2, e3, e4, e5, l1, l2, l3, l4, l5⟩ := hI.2.1 j hj
      obtain ⟨T, hT⟩ : ∃ T, T = (v * n + 500) / 1000 := ⟨_, rfl⟩
      have hTv : T ≤ v := by rw [hT]; exact th_le hn
      rw [e1, e2, e3, x_th_nI (by omega) (by omega), y_th_nI (by omega) (by omega), ← hT]
      by_cases c1 : T < w
      · rw [if_pos (pk_sneg (by omega) c1), if_pos (nI_lt c1 (by omega))]; exact same_no hI 3 0 0 (by decide)
      · rw [pk_sub (by omega), if_neg (nI_pos (by omega)), if_neg (nI_nlt (by omega) (by omega)), nI_add, nI_add, pk_sub l2]
        by_cases c2 : v < e + (T - w)
        · rw [if_pos (nI_lt c2 (by omega)), if_pos (nI_lt (by omega) (by omega))]; exact same_no hI 3 0 0 (by decide)
        · rw [if_neg (nI_nlt (by omega) (by omega)), if_neg (nI_nlt (by omega) (by omega)), show w + (T - w) = T by omega]
          exact same_ok (inv_line hI hj (le := upd (m_le M) j (nI (e + (T - w)))) (lw := upd (m_lw M) j (nI T)) (fun i hi => ⟨rfl, pk_un hi, pk_un hi, rfl, rfl⟩) ⟨v, e + (T - w), T, b, g, e1, pk_us, pk_us, e4, e5, by omega, by omega, l3, l4, by omega⟩) _
    · rw [if_neg c, if_neg c]; exact same_no hI 2 0 0 (by decide)
/-- a column's amounts of the line and of the new line -/
theorem mv_two {f : FF} {j n a p v : Nat} (hjn : ¬ n = j) (hf : f j = nI a) (ha : a < 2 ^ 31) (hp : p ≤ v) (h0 : 0 < v) (hv : v < 2 ^ 31) : x_mv f j n (nI p) (nI v) = y_mv f j n (nI p) (nI v) ∧ x_mv f j n (nI p) (nI v) n = nI (a * p / v) ∧ x_mv f j n (nI p) (nI v) j = nI (a - a * p / v) ∧ ∀ i : Nat, ¬ i = n → ¬ i = j → x_mv f j n (nI p) (nI v) i = f i := by
  have h1 : x_sd (f j) (nI p) (nI v) = nI (a * p / v) := by rw [hf]; exact x_sd_nI ha (by omega) h0 hv
  have h2 : y_sh (f j) (nI p) (nI v) = nI (a * p / v) := by rw [hf]; exact y_sh_nI ha (by omega) h0 hv
  have hle := pt_le (a := a) hp h0
  unfold x_mv y_mv
  rw [h1, h2, pk_us]
  refine ⟨rfl, ?_, ?_, fun i c1 c2 => ?_⟩
  · rw [pk_un hjn, pk_us]
  · rw [pk_us, pk_un (fun z => hjn z.symm), hf, pk_sub hle]
  · rw [pk_un c2, pk_un c1]
theorem s_split {M : MM} (hI : Inv M) (x g : Int32) : Same M (x_split M x g) (y_split M x g) := by
  have ha := hI.1.1
  unfold x_split y_split
  rcases ixL_c (n := m_ln M) (x := x) (by omega) with h | ⟨j, hj, rfl, h⟩
  · rw [h]; exact same_no hI 1 0 0 (by decide)
  · rw [h]
    dsimp only
    by_cases c : inR g 1 (m_lv M j - 1) = true
    · rw [if_pos c, if_pos c]
      by_cases c1 : m_ln M = 16
      · rw [if_pos c1, if_pos c1]; exact same_no hI 3 0 0 (by decide)
      · rw [if_neg c1, if_neg c1]
        obtain ⟨v, e, w, b, g', e1, e2, e3, e4, e5, l1, l2, l3, l4, l5⟩ := hI.2.1 j hj
        have hv0 : 1 ≤ v := by
          have := inR_nz c
          rw [e1] at this
          rcases Nat.eq_zero_or_pos v with z | z
          · rw [z] at this; exact absurd nI_0 this
          · exact z
        rw [e1, k_pred hv0] at c
        obtain ⟨p, rfl, hp0, hp⟩ := inR_N (lo := 1) (hi := v - 1) (by decide) (by omega) c
        rw [e1]
        have hjn : ¬ m_ln M = j := by omega
        obtain ⟨a1, a2, a3, a4⟩ := mv_two hjn e2 (by omega) (by omega : p ≤ v) hv0 (by omega)
        obtain ⟨b1, b2, b3, b4⟩ := mv_two hjn e3 (by omega) (by omega : p ≤ v) hv0 (by omega)
        obtain ⟨d1, d2, d3, d4⟩ := mv_two hjn e4 (by omega) (by omega : p ≤ v) hv0 (by omega)
        obtain ⟨g1, g2, g3, g4⟩ := mv_two hjn e5 (by omega) (by omega : p ≤ v) hv0 (by omega)
        rw [← a1, ← b1, ← d1, ← g1]
        have m1 := pt_mono (p := p) (v := v) l1
        have m2 := pt_mono (p := p) (v := v) l4
        have m3 := pt_mono (p := p) (v := v) l5
        have m4 := pt_mono (p := p) (v := v) l2
        rw [pt_full hv0] at m4
        have r1 := pt_rest (p := p) (v := v) l1 (by omega) hv0
        have r2 := pt_rest (p := p) (v := v) l4 (by omega) hv0
        have r3 := pt_rest (p := p) (v := v) l5 (by omega) hv0
        have r4 := pt_rest (p := p) (v := v) l2 (by omega) hv0
        rw [pt_full hv0] at r4
        have q1 := pt_le (a := e) (p := p) (v := v) (by omega) hv0
        have q2 := pt_le (a := w) (p := p) (v := v) (by omega) hv0
        have q3 := pt_le (a := b) (p := p) (v := v) (by omega) hv0
        have q4 := pt_le (a := g') (p := p) (v := v) (by omega) hv0
        refine same_ok ?_ _
        refine ⟨?_, fun i hi => ?_, fun f hf i hi => ?_, hI.2.2.2.1, hI.2.2.2.2.1, hI.2.2.2.2.2⟩
        · have := hI.1
          exact ⟨by have := this.1; show m_ln M + 1 ≤ 16; omega, this.2⟩
        · have hi : i < m_ln M + 1 := hi
          by_cases ci : i = m_ln M
          · subst ci
            refine ⟨p, e * p / v, w * p / v, b * p / v, g' * p / v, ?_, a2, b2, d2, g2, m1, m4, by omega, m2, m3⟩
            show upd (upd (m_lv M) (m_ln M) (nI p)) j (nI v - nI p) (m_ln M) = nI p
            rw [pk_un hjn, pk_us]
          · by_cases cj : i = j
            · subst cj
              refine ⟨v - p, e - e * p / v, w - w * p / v, b - b * p / v, g' - g' * p / v, ?_, a3, b3, d3, g3, by omega, by omega, by omega, by omega, by omega⟩
              show upd (upd (m_lv M) (m_ln M) (nI p)) i (nI v - nI p) i = nI (v - p)
              rw [pk_us, pk_sub (by omega)]
            · obtain ⟨v', e', w', b', h', f1, f2, f3, f4, f5, l⟩ := hI.2.1 i (by omega)
              refine ⟨v', e', w', b', h', ?_, (a4 i ci cj).trans f2, (b4 i ci cj).trans f3, (d4 i ci cj).trans f4, (g4 i ci cj).trans f5, l⟩
              show upd (upd (m_lv M) (m_ln M) (nI p)) j (nI v - nI p) i = nI v'
              rw [pk_un cj, pk_un ci, f1]
        · have hi : m_ln M + 1 ≤ i := hi
          have hf : f ∈ [x_mv (m_le M) j (m_ln M) (nI p) (nI v), x_mv (m_lw M) j (m_ln M) (nI p) (nI v), x_mv (m_lb M) j (m_ln M) (nI p) (nI v), x_mv (m_lh M) j (m_ln M) (nI p) (nI v)] := hf
          simp only [List.mem_cons, List.not_mem_nil, or_false] at hf
          rcases hf with rfl | rfl | rfl | rfl
          · rw [a4 i (by omega) (by omega)]; exact hI.zero _ (by simp) i (by omega)
          · rw [b4 i (by omega) (by omega)]; exact hI.zero (m_lw M) (by simp) i (by omega)
          · rw [d4 i (by omega) (by omega)]; exact hI.zero (m_lb M) (by simp) i (by omega)
          · rw [g4 i (by omega) (by omega)]; exact hI.zero (m_lh M) (by simp) i (by omega)
    · rw [if_neg c, if_neg c]; exact same_no hI 2 0 0 (by decide)
/-! ROWS, HOLDS -/
theorem s_row {M : MM} (hI : Inv M) (n : Nat) (f : FF) (x : Int32) : Same M (o_row M n f x) (o_row M n f x) := by
  unfold o_row
  cases h : ixL n x with
  | none => exact same_no hI 1 0 0 (by decide)
  | some j => exact same_ok hI _
theorem inv_hb {M : MM} (hI : Inv M) {v : Int32} (hv : v = 0 ∨ v = 1) : Inv (s_hb M v) := ⟨hI.1, hI.2.1, hI.2.2.1, hI.2.2.2.1, hv, hI.2.2.2.2.2⟩
