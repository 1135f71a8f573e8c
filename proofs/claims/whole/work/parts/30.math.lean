/-! PLAIN FACTS: numbers below 2^31, sums, parts -/
theorem xor_nn {x y : Int64} (hx : ¬ x < 0) (hy : ¬ y < 0) : ¬ (x ^^^ y) < 0 := by
  have key : ∀ z : Int64, z < 0 ↔ z.toBitVec.msb = true := fun z => by
    rw [Int64.lt_iff_toInt_lt, BitVec.msb_eq_toInt, decide_eq_true_iff]
    rfl
  rw [key] at hx hy ⊢
  rw [Int64.toBitVec_xor, BitVec.msb_xor, Bool.not_eq_true _ |>.mp hx, Bool.not_eq_true _ |>.mp hy]
  decide
theorem lN_nn {n : Nat} (h : n < 2 ^ 63) : ¬ lN n < 0 := by
  rw [Int64.lt_iff_toInt_lt, pk_lT h, Int64.toInt_zero]; omega
theorem fd_lN {m d : Nat} (hm : m < 2 ^ 63) (hd : d < 2 ^ 63) : fd64 (lN m) (lN d) = lN m / lN d := by
  unfold fd64
  rw [if_neg (fun z => xor_nn (lN_nn hm) (lN_nn hd) z.1)]
theorem y_th_nI {a s : Nat} (ha : a < 2 ^ 31) (hs : s < 2 ^ 31) : y_th (nI a) (nI s) = nI ((a * s + 500) / 1000) := by
  have h : a * s ≤ 2 ^ 31 * 2 ^ 31 := Nat.mul_le_mul (Nat.le_of_lt ha) (Nat.le_of_lt hs)
  unfold y_th
  rw [nI_l ha, nI_l hs, lN_mul, show (500 : Int64) = lN 500 from rfl, lN_add, show (1000 : Int64) = lN 1000 from rfl, pk_lDiv (by omega) (by decide) (by decide), lN_i]
theorem x_th_nI {a s : Nat} (ha : a < 2 ^ 31) (hs : s < 2 ^ 31) : x_th (nI a) (nI s) = nI ((a * s + 500) / 1000) := by
  have h : a * s ≤ 2 ^ 31 * 2 ^ 31 := Nat.mul_le_mul (Nat.le_of_lt ha) (Nat.le_of_lt hs)
  unfold x_th
  rw [nI_l ha, nI_l hs, lN_mul, show (500 : Int64) = lN 500 from rfl, lN_add, show (1000 : Int64) = lN 1000 from rfl, fd_lN (by omega) (by decide), pk_lDiv (by omega) (by decide) (by decide), lN_i]
theorem y_sh_nI {a p v : Nat} (ha : a < 2 ^ 31) (hp : p < 2 ^ 31) (h0 : 0 < v) (hv : v < 2 ^ 31) : y_sh (nI a) (nI p) (nI v) = nI (a * p / v) := by
  have h : a * p ≤ 2 ^ 31 * 2 ^ 31 := Nat.mul_le_mul (Nat.le_of_lt ha) (Nat.le_of_lt hp)
  unfold y_sh
  rw [nI_l ha, nI_l hp, nI_l hv, lN_mul, pk_lDiv (by omega) h0 (by omega), lN_i]
theorem x_sd_nI {a p v : Nat} (ha : a < 2 ^ 31) (hp : p < 2 ^ 31) (h0 : 0 < v) (hv : v < 2 ^ 31) : x_sd (nI a) (nI p) (nI v) = nI (a * p / v) := by
  have h : a * p ≤ 2 ^ 31 * 2 ^ 31 := Nat.mul_le_mul (Nat.le_of_lt ha) (Nat.le_of_lt hp)
  unfold x_sd
  rw [if_neg (nI_ne0 h0 hv), nI_l ha, nI_l hp, nI_l hv, lN_mul, fd_lN (by omega) (by omega), pk_lDiv (by omega) h0 (by omega), lN_i]
theorem nI_nm1 {n : Nat} (h : n < 2 ^ 31) : ¬ nI n = -1 := by
  intro e
  have h1 := nI_toInt h
  rw [e] at h1
  have h2 : (-1 : Int32).toInt = -1 := rfl
  omega
theorem th_le {a r : Nat} (hr : r ≤ 1000) : (a * r + 500) / 1000 ≤ a := by
  have h : a * r ≤ a * 1000 := Nat.mul_le_mul_left a hr
  omega
theorem pt_le {a p v : Nat} (hp : p ≤ v) (h0 : 0 < v) : a * p / v ≤ a := by
  have h : a * p ≤ a * v := Nat.mul_le_mul_left a hp
  calc a * p / v ≤ a * v / v := Nat.div_le_div_right h
    _ = a := Nat.mul_div_cancel a h0
theorem pt_mono {a b p v : Nat} (h : a ≤ b) : a * p / v ≤ b * p / v := Nat.div_le_div_right (Nat.mul_le_mul_right p h)
theorem pt_full {p v : Nat} (h0 : 0 < v) : v * p / v = p := Nat.mul_div_cancel_left p h0
/-- what is kept grows with what there was -/
theorem pt_rest {a b p v : Nat} (h : a ≤ b) (hp : p ≤ v) (h0 : 0 < v) : b * p / v ≤ a * p / v + (b - a) := by
  have h1 : b * p ≤ a * p + (b - a) * v := by
    have h2 : b * p = a * p + (b - a) * p := by rw [← Nat.add_mul]; congr 1; omega
    rw [h2]
    exact Nat.add_le_add_left (Nat.mul_le_mul_left (b - a) hp) (a * p)
  calc b * p / v ≤ (a * p + (b - a) * v) / v := Nat.div_le_div_right h1
    _ = a * p / v + (b - a) := Nat.add_mul_div_right (a * p) (b - a) h0
/-! THE INVARIANT -/
def LI (M : MM) (j : Nat) : Prop := ∃ v e w b h : Nat, m_lv M j = nI v ∧ m_le M j = nI e ∧ m_lw M j = nI w ∧ m_lb M j = nI b ∧ m_lh M j = nI h ∧ w ≤ e ∧ e ≤ v ∧ v ≤ 10000000 ∧ h ≤ b ∧ b ≤ e
def ZI (M : MM) : Prop := ∀ f ∈ [m_le M, m_lw M, m_lb M, m_lh M], ∀ i : Nat, m_ln M ≤ i → f i = 0
def SI (M : MM) : Prop := m_st M 0 = nI 0 ∧ (∀ i : Nat, i < m_sn M → ∃ k r : Nat, k ≤ 1000 ∧ r ≤ 1000 ∧ m_st M i = nI k ∧ m_sr M i = nI r ∧ m_rt M k = nI r) ∧ (∀ i j : Nat, i < m_sn M → j < m_sn M → m_st M i = m_st M j → i = j) ∧ (∀ k : Nat, k ≤ 1000 → m_rt M k = -1 ∨ ∃ i : Nat, i < m_sn M ∧ m_st M i = nI k) ∧ cntS (m_rt M) 1001 = m_sn M
def WI (M : MM) : Prop := ∃ w : Nat, w ≤ m_an M ∧ (∀ i : Nat, i < w → m_as M i = 2) ∧ (∀ i : Nat, w < i → i < m_an M → m_as M i = 0) ∧ (w < m_an M → m_as M w = 0 ∨ m_as M w = 1)
def Inv (M : MM) : Prop := OKM M ∧ (∀ j : Nat, j < m_ln M → LI M j) ∧ ZI M ∧ SI M ∧ (m_hb M = 0 ∨ m_hb M = 1) ∧ WI M
def Same (M : MM) (x y : RR) : Prop := x.1 = y.1 ∧ (x.1 = 0 → x.2.1 = y.2.1) ∧ (¬ x.1 = 0 → x.2.2 = M) ∧ ∃ N : MM, Inv N ∧ (∀ (h : Nat → Nat) (cA : ClassId), w0 h cA x.2.2 = w0 h cA N) ∧ ∀ (h : Nat → Nat) (cA : ClassId) (rf : Int32), w1 h cA rf y.2.2 = w1 h cA rf N
theorem same_no {M : MM} (hI : Inv M) (k : Nat) (r r' : Int32) (hk : ¬ k = 0) : Same M (k, r, M) (k, r', M) := ⟨rfl, fun h => absurd h hk, fun _ => rfl, M, hI, fun _ _ => rfl, fun _ _ _ => rfl⟩
theorem same_ok {M N : MM} (hI : Inv N) (r : Int32) : Same M (0, r, N) (0, r, N) := ⟨rfl, fun _ => rfl, fun h => absurd rfl h, N, hI, fun _ _ => rfl, fun _ _ _ => rfl⟩
theorem Inv.ok {M : MM} (h : Inv M) : OKM M := h.1
theorem Inv.ok1 {M : MM} (h : Inv M) : OK1 M := ⟨h.1.1, h.1.2.2.2⟩
theorem Inv.zero {M : MM} (h : Inv M) : ∀ f ∈ [m_le M, m_lw M, m_lb M, m_lh M], ∀ i : Nat, m_ln M ≤ i → f i = 0 := h.2.2.1
theorem Inv.hb {M : MM} (h : Inv M) : m_hb M = 0 ∨ m_hb M = 1 := h.2.2.2.2.1
/-- the sums of values and of work -/
theorem two_sums {M : MM} : ∀ n : Nat, n ≤ 16 → (∀ j : Nat, j < n → LI M j) → ∃ V W : Nat, psum (m_lv M) n = nI V ∧ psum (m_lw M) n = nI W ∧ W ≤ V ∧ V ≤ n * 10000000
  | 0, _, _ => ⟨0, 0, rfl, rfl, Nat.le_refl 0, Nat.zero_le _⟩
  | n + 1, hn, h => by
    obtain ⟨V, W, h1, h2, h3, h4⟩ := two_sums n (by omega) (fun j hj => h j (by omega))
    obtain ⟨v, e, w, b, h9, e1, e2, e3, e4, e5, l1, l2, l3, l4, l5⟩ := h n (by omega)
    refine ⟨V + v, W + w, ?_, ?_, by omega, by omega⟩
    · show psum (m_lv M) n + m_lv M n = _
      rw [h1, e1, nI_add]
    · show psum (m_lw M) n + m_lw M n = _
      rw [h2, e3, nI_add]
theorem reached_two {M : MM} (hI : Inv M) : ∃ k : Nat, k ≤ 1000 ∧ y_reached M = nI k ∧ x_progress M = nI k := by
  obtain ⟨V, W, h1, h2, h3, h4⟩ := two_sums (M := M) (m_ln M) hI.1.1 hI.2.1
  have hl := hI.1.1
  unfold y_reached x_progress x_csum
  rw [h1, h2]
  by_cases h0 : V = 0
  · subst h0
    exact ⟨0, Nat.zero_le _, by rw [if_pos nI_0]; rfl, by unfold x_sd; rw [if_pos nI_0]; rfl⟩
  · refine ⟨W * 1000 / V, ?_, ?_, ?_⟩
    · calc W * 1000 / V ≤ V * 1000 / V := Nat.div_le_div_right (Nat.mul_le_mul_right 1000 h3)
        _ = 1000 := Nat.mul_div_cancel_left 1000 (by omega)
    · rw [if_neg (nI_ne0 (by omega) (by omega)), nI_l (by omega), nI_l (by omega), show (1000 : Int64) = lN 1000 from rfl, lN_mul, pk_lDiv (by omega) (by omega) (by omega), lN_i]
    · rw [show (1000 : Int32) = nI 1000 from rfl, x_sd_nI (by omega) (by decide) (by omega) (by omega)]
theorem Inv.rtm {M : MM} (hI : Inv M) : RTM M := by
  obtain ⟨k, h1, h2, -⟩ := reached_two hI
  refine ⟨hI.1.1, hI.1.2.2.2, ⟨k, h1, h2⟩, ?_⟩
  obtain ⟨s0, s1, -⟩ := hI.2.2.2.1
  obtain ⟨k, r, hk, hr, e1, e2, e3⟩ := s1 0 (by have := hI.1.2.1; omega)
  have : k = 0 := ((nI_eq (by omega) (by omega)).mp (s0.symm.trans e1)).symm
  subst this
  rw [e3]
  exact nI_nm1 (by omega)
/-! the rate in force -/
theorem scan_to {rt : FF} {T : Nat} (hT : ¬ rt T = -1) : ∀ P : Nat, T ≤ P → (∀ k : Nat, T < k → k ≤ P → rt k = -1) → y_scan rt P = rt T
  | 0, h, _ => by
    have : T = 0 := by omega
    rw [this]; rfl
  | P + 1, h, hk => by
    by_cases e : T = P + 1
    · rw [e] at hT ⊢
      exact y_scan_y hT
    · rw [y_scan_n (by omega) (hk (P + 1) (by omega) (Nat.le_refl _))]
      exact scan_to hT P (by omega) (fun k a b => hk k a (by omega))
theorem best_at {M : MM} (hS : SI M) {P : Nat} (hP : P ≤ 1000) : ∀ n : Nat, n < m_sn M → ∃ T : Nat, T ≤ P ∧ m_st M (x_best (m_st M) (nI P) n) = nI T ∧ ∀ i k : Nat, i ≤ n → m_st M i = nI k → k ≤ P → k ≤ 1000 → k ≤ T
  | 0, hn => ⟨0, Nat.zero_le _, hS.1, fun i k hi hk _ hk1 => by
      have : i = 0 := by omega
      subst this
      have := (nI_eq (by omega) (by omega)).mp (hS.1.symm.trans hk)
      omega⟩
  | n + 1, hn => by
    obtain ⟨T, h1, h2, h3⟩ := best_at hS hP n (by omega)
    obtain ⟨k0, r0, hk0, hr0, e1, e2, e3⟩ := hS.2.1 (n + 1) hn
    unfold x_best
    by_cases c : ¬ nI P < m_st M (n + 1) ∧ m_st M (x_best (m_st M) (nI P) n) < m_st M (n + 1)
    · rw [if_pos c]
      rw [e1, h2] at c
      have c1 := k_nlt (by omega) (by omega) c.1
      have c2 := k_lt (by omega) (by omega) c.2
      refine ⟨k0, c1, e1, fun i k hi hk hkP hk1 => ?_⟩
      by_cases e : i = n + 1
      · subst e
        have := (nI_eq (by omega) (by omega)).mp (e1.symm.trans hk)
        omega
      · have := h3 i k (by omega) hk hkP hk1
        omega
    · rw [if_neg c]
      refine ⟨T, h1, h2, fun i k hi hk hkP hk1 => ?_⟩
      by_cases e : i = n + 1
      · subst e
        have e9 := (nI_eq (by omega) (by omega)).mp (e1.symm.trans hk)
        subst e9
        by_cases hkT : k0 ≤ T
        · exact hkT
        · exact absurd ⟨by rw [e1]; exact nI_nlt hkP (by omega), by rw [e1, h2]; exact nI_lt (by omega) (by omega)⟩ c
      · exact h3 i k (by omega) hk hkP hk1
theorem rate_two {M : MM} (hI : Inv M) : ∃ r : Nat, r ≤ 1000 ∧ x_rate M = nI r ∧ y_rate M = nI r := by
  obtain ⟨P, hP, e1, e2⟩ := reached_two hI
  have hS := hI.2.2.2.1
  have hn := hI.1.2.1
  obtain ⟨T, h1, h2, h3⟩ := best_at hS hP (m_sn M - 1) (by omega)
  have hb : x_best (m_st M) (nI P) (m_sn M - 1) < m_sn M := Nat.lt_of_le_of_lt (x_best_le _ _ _) (by omega)
  obtain ⟨k, r, hk, hr, f1, f2, f3⟩ := hS.2.1 _ hb
  have hkT : k = T := (nI_eq (by omega) (by omega)).mp (f1.symm.trans h2)
  subst hkT
  refine ⟨r, hr, ?_, ?_⟩
  · unfold x_rate
    rw [e2, f2]
  · unfold y_rate
    rw [e1, nI_clamp (by omega), scan_to (T := k) (by rw [f3]; exact nI_nm1 (by omega)) P h1 (fun i hi hiP => ?_), f3]
    rcases hS.2.2.2.1 i (by omega) with z | ⟨q, hq, hz⟩
    · exact z
    · have := h3 q i (by omega) hz hiP (by omega)
      omega
