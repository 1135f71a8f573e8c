/-! STEPS -/
theorem fs_spec {st : FF} {t : Int32} : ∀ n i : Nat, (∃ k : Nat, i ≤ k ∧ k < i + n ∧ st k = t ∧ x_fs st t n i = some k) ∨ (x_fs st t n i = none ∧ ∀ k : Nat, i ≤ k → k < i + n → ¬ st k = t)
  | 0, i => Or.inr ⟨rfl, fun k h1 h2 => by omega⟩
  | n + 1, i => by
    by_cases c : st i = t
    · exact Or.inl ⟨i, Nat.le_refl i, by omega, c, by unfold x_fs; rw [if_pos c]⟩
    · rcases fs_spec (st := st) (t := t) n (i + 1) with ⟨k, h1, h2, h3, h4⟩ | ⟨h1, h2⟩
      · exact Or.inl ⟨k, by omega, by omega, h3, by unfold x_fs; rw [if_neg c, h4]⟩
      · refine Or.inr ⟨by unfold x_fs; rw [if_neg c, h1], fun k a b => ?_⟩
        by_cases e : k = i
        · rw [e]; exact c
        · exact h2 k (by omega) (by omega)
theorem cntS_out {rt : FF} {k : Nat} {r : Int32} : ∀ n : Nat, n ≤ k → cntS (upd rt k r) n = cntS rt n
  | 0, _ => rfl
  | n + 1, h => by
    unfold cntS
    rw [pk_un (by omega), cntS_out n (by omega)]
theorem cntS_in {rt : FF} {k : Nat} {r : Int32} : ∀ n : Nat, k < n → cntS (upd rt k r) n + (if rt k = -1 then 0 else 1) = cntS rt n + (if r = -1 then 0 else 1)
  | 0, h => by omega
  | n + 1, h => by
    unfold cntS
    by_cases e : n = k
    · subst e
      rw [pk_us, cntS_out n (Nat.le_refl n)]
      by_cases c1 : r = -1 <;> by_cases c2 : rt n = -1
      · rw [if_pos c1, if_pos c2, if_pos c1, if_pos c2]
      · rw [if_pos c1, if_neg c2, if_pos c1, if_neg c2]
      · rw [if_neg c1, if_pos c2, if_neg c1, if_pos c2]
      · rw [if_neg c1, if_neg c2, if_neg c1, if_neg c2]
    · have ih := cntS_in (rt := rt) (k := k) (r := r) n (by omega)
      rw [pk_un e]
      by_cases c : rt n = -1
      · rw [if_pos c, if_pos c]; exact ih
      · rw [if_neg c, if_neg c]; omega
def sT (M : MM) (st sr : FF) (sn : Nat) (rt : FF) : MM := mk (m_lv M) (m_le M) (m_lw M) (m_lb M) (m_lh M) (m_ln M) st sr sn rt (m_hb M) (m_as M) (m_aa M) (m_ab M) (m_ah M) (m_an M)
theorem inv_steps {M : MM} {st sr : FF} {sn : Nat} {rt : FF} (hI : Inv M) (h1 : 1 ≤ sn) (h2 : sn ≤ 6) (hS : SI (sT M st sr sn rt)) : Inv (sT M st sr sn rt) := ⟨⟨hI.1.1, h1, h2, hI.1.2.2.2⟩, hI.2.1, hI.2.2.1, hS, hI.2.2.2.2.1, hI.2.2.2.2.2⟩
theorem s_setStep {M : MM} (hI : Inv M) (t r : Int32) : Same M (x_setStep M t r) (y_setStep M t r) := by
  have hn1 := hI.1.2.1
  have hn6 := hI.1.2.2.1
  obtain ⟨s0, s1, s2, s3, s4⟩ := hI.2.2.2.1
  unfold x_setStep y_setStep
  by_cases c1 : inR t 0 1000 = true
  · rw [if_pos c1, if_pos c1]
    by_cases c2 : inR r 0 1000 = true
    · rw [if_pos c2, if_pos c2]
      obtain ⟨k, rfl, -, hk⟩ := inR_N (lo := 0) (hi := 1000) (by decide) (by decide) c1
      obtain ⟨q, rfl, -, hq⟩ := inR_N (lo := 0) (hi := 1000) (by decide) (by decide) c2
      have hq1 : ¬ nI q = -1 := nI_nm1 (by omega)
      rw [nI_clamp (by omega)]
      rcases fs_spec (st := m_st M) (t := nI k) (m_sn M) 0 with ⟨i, -, hi, e1, e2⟩ | ⟨e1, e2⟩
      · have hi : i < m_sn M := by omega
        rw [e2]
        obtain ⟨k', r', hk', hr', f1, f2, f3⟩ := s1 i hi
        have e9 : k' = k := (nI_eq (by omega) (by omega)).mp (f1.symm.trans e1)
        subst e9
        have hrt : ¬ m_rt M k' = -1 := by rw [f3]; exact nI_nm1 (by omega)
        rw [if_neg (c := m_rt M k' = -1 ∧ cntS (m_rt M) 1001 = 6) (fun z => hrt z.1)]
        refine ⟨rfl, fun _ => ?_, fun z => absurd rfl z, sT M (m_st M) (upd (m_sr M) i (nI q)) (m_sn M) (upd (m_rt M) k' (nI q)), inv_steps hI hn1 hn6 ⟨s0, fun i' hi' => ?_, s2, fun k'' hk'' => ?_, ?_⟩, fun _ _ => rfl, fun _ _ _ => rfl⟩
        · show m_sr M i = m_rt M k'
          rw [f2, f3]
        · have hi' : i' < m_sn M := hi'
          obtain ⟨a, b, ha, hb, g1, g2, g3⟩ := s1 i' hi'
          by_cases ci : i' = i
          · subst ci
            exact ⟨k', q, hk', hq, f1, pk_us, pk_us⟩
          · refine ⟨a, b, ha, hb, g1, (pk_un ci).trans g2, (pk_un ?_).trans g3⟩
            intro e
            subst e
            exact ci (s2 i' i hi' hi (g1.trans f1.symm))
        · by_cases ck : k'' = k'
          · subst ck
            exact Or.inr ⟨i, hi, e1⟩
          · rcases s3 k'' hk'' with z | z
            · exact Or.inl ((pk_un ck).trans z)
            · exact Or.inr z
        · have h9 := cntS_in (rt := m_rt M) (r := nI q) 1001 (k := k') (by omega)
          rw [if_neg hrt, if_neg hq1] at h9
          show cntS (upd (m_rt M) k' (nI q)) 1001 = m_sn M
          omega
      · rw [e1]
        have hrt : m_rt M k = -1 := by
          rcases s3 k hk with z | ⟨i, hi, z⟩
          · exact z
          · exact absurd z (e2 i (Nat.zero_le _) (by omega))
        dsimp only
        by_cases c6 : m_sn M = 6
        · rw [if_pos c6, if_pos ⟨hrt, by rw [s4]; exact c6⟩]
          exact same_no hI 2 0 0 (by decide)
        · rw [if_neg c6, if_neg (fun z => c6 (by rw [← s4]; exact z.2))]
          refine ⟨rfl, fun _ => hrt.symm, fun z => absurd rfl z, sT M (upd (m_st M) (m_sn M) (nI k)) (upd (m_sr M) (m_sn M) (nI q)) (m_sn M + 1) (upd (m_rt M) k (nI q)), inv_steps hI (by omega) (by omega) ⟨?_, fun i' hi' => ?_, fun i' j' hi' hj' he => ?_, fun k'' hk'' => ?_, ?_⟩, fun _ _ => rfl, fun _ _ _ => rfl⟩
          · show upd (m_st M) (m_sn M) (nI k) 0 = nI 0
            rw [pk_un (by omega)]; exact s0
          · have hi' : i' < m_sn M + 1 := hi'
            by_cases ci : i' = m_sn M
            · subst ci
              exact ⟨k, q, hk, hq, pk_us, pk_us, pk_us⟩
            · obtain ⟨a, b, ha, hb, g1, g2, g3⟩ := s1 i' (by omega)
              refine ⟨a, b, ha, hb, (pk_un ci).trans g1, (pk_un ci).trans g2, (pk_un ?_).trans g3⟩
              intro e
              subst e
              exact e2 i' (Nat.zero_le _) (by omega) g1
          · have hi' : i' < m_sn M + 1 := hi'
            have hj' : j' < m_sn M + 1 := hj'
            have he : upd (m_st M) (m_sn M) (nI k) i' = upd (m_st M) (m_sn M) (nI k) j' := he
            by_cases ci : i' = m_sn M
            · by_cases cj : j' = m_sn M
              · omega
              · rw [ci, pk_us, pk_un cj] at he
                exact absurd he.symm (e2 j' (Nat.zero_le _) (by omega))
            · by_cases cj : j' = m_sn M
              · rw [cj, pk_us, pk_un ci] at he
                exact absurd he (e2 i' (Nat.zero_le _) (by omega))
              · rw [pk_un ci, pk_un cj] at he
                exact s2 i' j' (by omega) (by omega) he
          · by_cases ck : k'' = k
            · subst ck
              exact Or.inr ⟨m_sn M, Nat.lt_succ_self _, pk_us⟩
            · rcases s3 k'' hk'' with z | ⟨i, hi, z⟩
              · exact Or.inl ((pk_un ck).trans z)
              · exact Or.inr ⟨i, Nat.lt_succ_of_lt hi, (pk_un (by omega)).trans z⟩
          · have h9 := cntS_in (rt := m_rt M) (r := nI q) 1001 (k := k) (by omega)
            rw [if_pos hrt, if_neg hq1] at h9
            show cntS (upd (m_rt M) k (nI q)) 1001 = m_sn M + 1
            omega
    · rw [if_neg c2, if_neg c2]; exact same_no hI 1 0 0 (by decide)
  · rw [if_neg c1, if_neg c1]; exact same_no hI 1 0 0 (by decide)
theorem s_dropStep {M : MM} (hI : Inv M) (t : Int32) : Same M (x_dropStep M t) (y_dropStep M t) := by
  have hn1 := hI.1.2.1
  have hn6 := hI.1.2.2.1
  obtain ⟨s0, s1, s2, s3, s4⟩ := hI.2.2.2.1
  unfold x_dropStep y_dropStep
  by_cases c1 : inR t 1 1000 = true
  · rw [if_pos c1, if_pos c1]
    obtain ⟨k, rfl, hk0, hk⟩ := inR_N (lo := 1) (hi := 1000) (by decide) (by decide) c1
    rw [nI_clamp (by omega)]
    rcases fs_spec (st := m_st M) (t := nI k) (m_sn M) 0 with ⟨i, -, hi, e1, e2⟩ | ⟨e1, e2⟩
    · have hi : i < m_sn M := by omega
      rw [e2]
      obtain ⟨k', r', hk', hr', f1, f2, f3⟩ := s1 i hi
      have e9 : k' = k := (nI_eq (by omega) (by omega)).mp (f1.symm.trans e1)
      subst e9
      have hrt : ¬ m_rt M k' = -1 := by rw [f3]; exact nI_nm1 (by omega)
      have hi0 : ¬ i = 0 := by
        intro z
        rw [z] at e1
        have := (nI_eq (by omega) (by omega)).mp (s0.symm.trans e1)
        omega
      rw [if_neg hrt]
      refine ⟨rfl, fun _ => ?_, fun z => absurd rfl z, sT M (upd (m_st M) i (m_st M (m_sn M - 1))) (upd (m_sr M) i (m_sr M (m_sn M - 1))) (m_sn M - 1) (upd (m_rt M) k' (-1)), inv_steps hI (by omega) (by omega) ⟨?_, fun i' hi' => ?_, fun a b ha hb he => ?_, fun k'' hk'' => ?_, ?_⟩, fun _ _ => rfl, fun _ _ _ => rfl⟩
      · show m_sr M i = m_rt M k'
        rw [f2, f3]
      · show upd (m_st M) i (m_st M (m_sn M - 1)) 0 = nI 0
        rw [pk_un (by omega)]; exact s0
      · have hi' : i' < m_sn M - 1 := hi'
        by_cases ci : i' = i
        · subst ci
          obtain ⟨a, b, ha, hb, g1, g2, g3⟩ := s1 (m_sn M - 1) (by omega)
          refine ⟨a, b, ha, hb, pk_us.trans g1, pk_us.trans g2, (pk_un ?_).trans g3⟩
          intro e
          subst e
          have := s2 (m_sn M - 1) i' (by omega) hi (g1.trans f1.symm)
          omega
        · obtain ⟨a, b, ha, hb, g1, g2, g3⟩ := s1 i' (by omega)
          refine ⟨a, b, ha, hb, (pk_un ci).trans g1, (pk_un ci).trans g2, (pk_un ?_).trans g3⟩
          intro e
          subst e
          exact ci (s2 i' i (by omega) hi (g1.trans f1.symm))
      · have ha : a < m_sn M - 1 := ha
        have hb : b < m_sn M - 1 := hb
        have he : upd (m_st M) i (m_st M (m_sn M - 1)) a = upd (m_st M) i (m_st M (m_sn M - 1)) b := he
        by_cases ca : a = i
        · by_cases cb : b = i
          · omega
          · rw [ca, pk_us, pk_un cb] at he
            have := s2 _ _ (by omega) (by omega) he
            omega
        · by_cases cb : b = i
          · rw [cb, pk_us, pk_un ca] at he
            have := s2 _ _ (by omega) (by omega) he
            omega
          · rw [pk_un ca, pk_un cb] at he
            exact s2 a b (by omega) (by omega) he
      · by_cases ck : k'' = k'
        · subst ck
          exact Or.inl pk_us
        · rcases s3 k'' hk'' with z | ⟨i', hi', z⟩
          · exact Or.inl ((pk_un ck).trans z)
          · by_cases ci : i' = i
            · rw [ci, e1] at z
              exact absurd ((nI_eq (by omega) (by omega)).mp z).symm ck
            · by_cases cn : i' = m_sn M - 1
              · refine Or.inr ⟨i, ?_, pk_us.trans (by rw [← cn]; exact z)⟩
                show i < m_sn M - 1
                omega
              · refine Or.inr ⟨i', ?_, (pk_un ci).trans z⟩
                show i' < m_sn M - 1
                omega
      · have h9 := cntS_in (rt := m_rt M) (r := -1) 1001 (k := k') (by omega)
        rw [if_neg hrt, if_pos rfl] at h9
        show cntS (upd (m_rt M) k' (-1)) 1001 = m_sn M - 1
        omega
    · rw [e1]
      have hrt : m_rt M k = -1 := by
        rcases s3 k hk with z | ⟨i, hi, z⟩
        · exact z
        · exact absurd z (e2 i (Nat.zero_le _) (by omega))
      rw [if_pos hrt]
      exact same_no hI 2 0 0 (by decide)
  · rw [if_neg c1, if_neg c1]; exact same_no hI 1 0 0 (by decide)
/-! THE LINE BY SHARE -/
/-- one share at least as great as the next, and so on -/
theorem q_tr {wa da wb db wc dc : Nat} (h0 : 0 < db) (h1 : wb * da ≤ wa * db) (h2 : wc * db ≤ wb * dc) : wc * da ≤ wa * dc := by
  refine Nat.le_of_mul_le_mul_right (c := db) ?_ h0
  calc wc * da * db = wc * db * da := by rw [Nat.mul_right_comm]
    _ ≤ wb * dc * da := Nat.mul_le_mul_right da h2
    _ = wb * da * dc := by rw [Nat.mul_right_comm]
    _ ≤ wa * db * dc := Nat.mul_le_mul_right dc h1
    _ = wa * dc * db := by rw [Nat.mul_right_comm]
theorem q_eq {wa da wb db wc dc : Nat} (ha : 0 < da) (hc : 0 < dc) (h1 : wb * da ≤ wa * db) (h2 : wc * db ≤ wb * dc) (h3 : wc * da = wa * dc) : wb * da = wa * db ∧ wc * db = wb * dc := by
  have e1 : wc * db * da ≤ wb * dc * da := Nat.mul_le_mul_right da h2
  have e2 : wb * da * dc ≤ wa * db * dc := Nat.mul_le_mul_right dc h1
  have e3 : wb * dc * da = wb * da * dc := by rw [Nat.mul_right_comm]
  have e4 : wa * db * dc = wc * db * da := by rw [Nat.mul_right_comm wa, ← h3, Nat.mul_right_comm]
  refine ⟨Nat.eq_of_mul_eq_mul_right hc (by omega), Nat.eq_of_mul_eq_mul_right ha (by omega)⟩
def aP (W D : Nat → Nat) (a b : Nat) : Prop := W b * D a < W a * D b ∨ (W a * D b = W b * D a ∧ a < b)
theorem aP_tr {W D : Nat → Nat} {a b c : Nat} (ha : 0 < D a) (hb : 0 < D b) (hc : 0 < D c) (h1 : aP W D a b) (h2 : aP W D b c) : aP W D a c := by
  unfold aP at h1 h2 ⊢
  have q1 : W b * D a ≤ W a * D b := by omega
  have q2 : W c * D b ≤ W b * D c := by omega
  have q3 := q_tr hb q1 q2
  by_cases e : W c * D a = W a * D c
  · obtain ⟨e1, e2⟩ := q_eq ha hc q1 q2 e
    omega
  · omega
theorem aP_ne {W D : Nat → Nat} {a : Nat} : ¬ aP W D a a := by unfold aP; omega
theorem aP_or {W D : Nat → Nat} {a b : Nat} (h : ¬ a = b) : aP W D a b ∨ aP W D b a := by unfold aP; omega
def ctB (f : Nat → Bool) : Nat → Nat
  | 0 => 0
  | k + 1 => if f k = true then ctB f k + 1 else ctB f k
theorem ctB_le (f : Nat → Bool) : ∀ n : Nat, ctB f n ≤ n
  | 0 => Nat.le_refl 0
  | k + 1 => by
    have := ctB_le f k
    unfold ctB
    by_cases h : f k = true
    · rw [if_pos h]; omega
    · rw [if_neg h]; omega
theorem ctB_lt {f : Nat → Bool} {c : Nat} (hc : f c = false) : ∀ n : Nat, c < n → ctB f n < n
  | 0, h => by omega
  | k + 1, h => by
    have h1 := ctB_le f k
    unfold ctB
    by_cases e : c = k
    · rw [← e, hc]
      rw [if_neg (by decide)]
      have := ctB_le f c
      omega
    · have := ctB_lt hc k (by omega)
      by_cases h : f k = true
      · rw [if_pos h]; omega
      · rw [if_neg h]; omega
theorem ctB_mono {f g : Nat → Bool} : ∀ n : Nat, (∀ k : Nat, k < n → f k = true → g k = true) → ctB f n ≤ ctB g n
  | 0, _ => Nat.le_refl 0
  | k + 1, h => by
    have ih := ctB_mono (f := f) (g := g) k (fun i hi => h i (by omega))
    unfold ctB
    by_cases c : f k = true
    · rw [if_pos c, if_pos (h k (by omega) c)]; omega
    · rw [if_neg c]
      by_cases c2 : g k = true
      · rw [if_pos c2]; omega
      · rw [if_neg c2]; exact ih
theorem ctB_smono {f g : Nat → Bool} {c : Nat} (h1 : f c = false) (h2 : g c = true) : ∀ n : Nat, c < n → (∀ k : Nat, k < n → f k = true → g k = true) → ctB f n < ctB g n
  | 0, h, _ => by omega
  | k + 1, hc, h => by
    unfold ctB
    by_cases e : c = k
    · subst e
      have := ctB_mono (f := f) (g := g) c (fun i hi => h i (by omega))
      rw [h1, h2, if_neg (by decide), if_pos rfl]
      omega
    · have ih := ctB_smono h1 h2 k (by omega) (fun i hi => h i (by omega))
      by_cases c : f k = true
      · rw [if_pos c, if_pos (h k (by omega) c)]; omega
      · rw [if_neg c]
        by_cases c2 : g k = true
        · rw [if_pos c2]; omega
        · rw [if_neg c2]; exact ih
theorem ctB_rk (w d : Nat → Int32) (j : Nat) : ∀ n : Nat, z_rk w d j n = ctB (fun k => z_ah w d k j) n
  | 0 => rfl
  | k + 1 => by
    unfold z_rk ctB
    rw [ctB_rk w d j k]
theorem ctB_congr {f g : Nat → Bool} : ∀ n : Nat, (∀ k : Nat, k < n → f k = g k) → ctB f n = ctB g n
  | 0, _ => rfl
  | k + 1, h => by
    unfold ctB
    rw [h k (by omega), ctB_congr k (fun i hi => h i (by omega))]
/-- as many places as values, no value twice: each value has its place -/
theorem onto : ∀ (n : Nat) (f : Nat → Nat), (∀ k : Nat, k < n → f k < n) → (∀ a b : Nat, a < n → b < n → f a = f b → a = b) → ∀ p : Nat, p < n → ∃ k : Nat, k < n ∧ f k = p
  | 0, _, _, _, p, hp => by omega
  | n + 1, f, h1, h2, p, hp => by
    have key : ∀ p : Nat, p < n → ∃ k : Nat, k < n ∧ (if f k = n then f n else f k) = p := by
      refine onto n (fun k => if f k = n then f n else f k) (fun k hk => ?_) (fun a b ha hb he => ?_)
      · show (if f k = n then f n else f k) < n
        by_cases c : f k = n
        · rw [if_pos c]
          have := h1 n (by omega)
          by_cases c2 : f n = n
          · have := h2 k n (by omega) (by omega) (c.trans c2.symm); omega
          · omega
        · rw [if_neg c]
          have := h1 k (by omega)
          omega
      · have he : (if f a = n then f n else f a) = (if f b = n then f n else f b) := he
        by_cases ca : f a = n
        · by_cases cb : f b = n
          · exact h2 a b (by omega) (by omega) (ca.trans cb.symm)
          · rw [if_pos ca, if_neg cb] at he
            have := h2 n b (by omega) (by omega) he; omega
        · by_cases cb : f b = n
          · rw [if_neg ca, if_pos cb] at he
            have := h2 a n (by omega) (by omega) he; omega
          · rw [if_neg ca, if_neg cb] at he
            exact h2 a b (by omega) (by omega) he
    by_cases c : f n = p
    · exact ⟨n, by omega, c⟩
    · by_cases cp : p = n
      · obtain ⟨k, hk, he⟩ := key (f n) (by have := h1 n (by omega); omega)
        by_cases ck : f k = n
        · exact ⟨k, by omega, ck.trans cp.symm⟩
        · rw [if_neg ck] at he
          have := h2 k n (by omega) (by omega) he; omega
      · obtain ⟨k, hk, he⟩ := key p (by omega)
        by_cases ck : f k = n
        · rw [if_pos ck] at he; exact absurd he c
        · rw [if_neg ck] at he
          exact ⟨k, by omega, he⟩
theorem lN_ltB {a b : Nat} (ha : a < 2 ^ 63) (hb : b < 2 ^ 63) : lN a < lN b ↔ a < b := by
  rw [Int64.lt_iff_toInt_lt, pk_lT ha, pk_lT hb]; omega
theorem lN_eqB {a b : Nat} (ha : a < 2 ^ 63) (hb : b < 2 ^ 63) : lN a = lN b ↔ a = b := by
  rw [← Int64.toInt_inj, pk_lT ha, pk_lT hb]; omega
/-- a line's share, as two numbers -/
def sW (M : MM) (j : Nat) : Nat := (m_lw M j).toNatClampNeg
def sD (M : MM) (j : Nat) : Nat := (x_dv M j).toNatClampNeg
theorem share {M : MM} {j : Nat} (h : LI M j) : m_lw M j = nI (sW M j) ∧ x_dv M j = nI (sD M j) ∧ y_dv M j = nI (sD M j) ∧ 0 < sD M j ∧ sD M j < 2 ^ 31 ∧ sW M j < 2 ^ 31 := by
  obtain ⟨v, e, w, b, h, e1, e2, e3, e4, e5, l1, l2, l3, l4, l5⟩ := h
  unfold sW sD
  rw [e3, nI_clamp (by omega)]
  by_cases c : v = 0
  · have h1 : x_dv M j = nI 1 := by unfold x_dv; rw [e1, c, if_pos (by decide)]; rfl
    have h2 : y_dv M j = nI 1 := by unfold y_dv; rw [e1, c, if_pos (by decide)]; rfl
    rw [h1, h2, nI_clamp (by decide)]
    exact ⟨rfl, rfl, rfl, by decide, by decide, by omega⟩
  · have h1 : x_dv M j = nI v := by unfold x_dv; rw [e1, if_neg (fun z => by have := k_lt (a := v) (b := 1) (by omega) (by decide) z; omega)]
    have h2 : y_dv M j = nI v := by unfold y_dv; rw [e1, if_neg (nI_ne0 (by omega) (by omega))]
    rw [h1, h2, nI_clamp (by omega)]
    exact ⟨rfl, rfl, rfl, by omega, by omega, by omega⟩
theorem ah_P {M : MM} {d : FF} {a b : Nat} (ha : LI M a) (hb : LI M b) (h1 : d a = nI (sD M a)) (h2 : d b = nI (sD M b)) : z_ah (m_lw M) d a b = true ↔ aP (sW M) (sD M) a b := by
  obtain ⟨a1, -, -, a2, a3, a4⟩ := share ha
  obtain ⟨b1, -, -, b2, b3, b4⟩ := share hb
  have p1 : sW M a * sD M b ≤ 2 ^ 31 * 2 ^ 31 := Nat.mul_le_mul (Nat.le_of_lt a4) (Nat.le_of_lt b3)
  have p2 : sW M b * sD M a ≤ 2 ^ 31 * 2 ^ 31 := Nat.mul_le_mul (Nat.le_of_lt b4) (Nat.le_of_lt a3)
  unfold z_ah aP
  rw [a1, b1, h1, h2, nI_l a3, nI_l a4, nI_l b3, nI_l b4, lN_mul, lN_mul, Bool.or_eq_true, Bool.and_eq_true, decide_eq_true_iff, decide_eq_true_iff, decide_eq_true_iff, lN_ltB (by omega) (by omega), lN_eqB (by omega) (by omega)]
theorem ah_xy {M : MM} {a b : Nat} (ha : LI M a) (hb : LI M b) : z_ah (m_lw M) (x_dv M) a b = z_ah (m_lw M) (y_dv M) a b := by
  obtain ⟨-, a1, a2, -⟩ := share ha
  obtain ⟨-, b1, b2, -⟩ := share hb
  unfold z_ah
  rw [a1, a2, b1, b2]
theorem rank_xy {M : MM} (hI : Inv M) {j : Nat} (hj : j < m_ln M) : x_rank M j = y_rank M j := by
  unfold x_rank y_rank
  rw [ctB_rk, ctB_rk]
  exact ctB_congr _ (fun k hk => ah_xy (hI.2.1 k hk) (hI.2.1 j hj))
theorem rank_lt {M : MM} (hI : Inv M) {j : Nat} (hj : j < m_ln M) : x_rank M j < m_ln M := by
  unfold x_rank
  rw [ctB_rk]
  refine ctB_lt (c := j) ?_ _ hj
  have hL := hI.2.1 j hj
  exact Bool.eq_false_iff.mpr (fun z => aP_ne ((ah_P hL hL (share hL).2.1 (share hL).2.1).mp z))
theorem rank_sm {M : MM} (hI : Inv M) {a b : Nat} (ha : a < m_ln M) (hb : b < m_ln M) (h : aP (sW M) (sD M) a b) : x_rank M a < x_rank M b := by
  have hA := hI.2.1 a ha
  have hB := hI.2.1 b hb
  unfold x_rank
  rw [ctB_rk, ctB_rk]
  refine ctB_smono (c := a) ?_ ?_ _ ha (fun k hk z => ?_)
  · exact Bool.eq_false_iff.mpr (fun z => aP_ne ((ah_P hA hA (share hA).2.1 (share hA).2.1).mp z))
  · exact (ah_P hA hB (share hA).2.1 (share hB).2.1).mpr h
  · have hK := hI.2.1 k hk
    have z := (ah_P hK hA (share hK).2.1 (share hA).2.1).mp z
    exact (ah_P hK hB (share hK).2.1 (share hB).2.1).mpr (aP_tr (share hK).2.2.2.1 (share hA).2.2.2.1 (share hB).2.2.2.1 z h)
theorem rank_inj {M : MM} (hI : Inv M) {a b : Nat} (ha : a < m_ln M) (hb : b < m_ln M) (h : x_rank M a = x_rank M b) : a = b := by
  by_cases c : a = b
  · exact c
  · rcases aP_or (W := sW M) (D := sD M) c with z | z
    · have := rank_sm hI ha hb z; omega
    · have := rank_sm hI hb ha z; omega
theorem fl_at {M : MM} {p k0 : Nat} (h0 : x_rank M k0 = p) : ∀ n i : Nat, i ≤ k0 → k0 ≤ i + n → (∀ k : Nat, i ≤ k → k < k0 → ¬ x_rank M k = p) → x_fl M p n i = k0
  | 0, i, h1, h2, _ => by unfold x_fl; omega
  | n + 1, i, h1, h2, h3 => by
    unfold x_fl
    by_cases c : i = k0
    · rw [c, if_pos h0]
    · rw [if_neg (h3 i (Nat.le_refl i) (by omega))]
      exact fl_at h0 n (i + 1) (by omega) (by omega) (fun k a b => h3 k (by omega) b)
theorem yfl_at {M : MM} {x : Int32} {k0 : Nat} (h0 : nI (y_rank M k0) = x) : ∀ n : Nat, k0 < n → (∀ k : Nat, k0 < k → k < n → ¬ nI (y_rank M k) = x) → y_fl M x n = nI k0
  | 0, h, _ => by omega
  | n + 1, h, h3 => by
    unfold y_fl
    by_cases c : n = k0
    · rw [c, if_pos h0]
    · rw [if_neg (h3 n (by omega) (by omega))]
      exact yfl_at h0 n (by omega) (fun k a b => h3 k a (by omega))
theorem yfl_no {M : MM} {x : Int32} : ∀ n : Nat, (∀ k : Nat, k < n → ¬ nI (y_rank M k) = x) → y_fl M x n = -1
  | 0, _ => rfl
  | n + 1, h => by
    unfold y_fl
    rw [if_neg (h n (by omega))]
    exact yfl_no n (fun k hk => h k (by omega))
theorem s_lbs {M : MM} (hI : Inv M) (x : Int32) : Same M (x_lbs M x) (y_lbs M x) := by
  have ha := hI.1.1
  unfold x_lbs y_lbs
  rcases ixL_c (n := m_ln M) (x := x) (by omega) with h | ⟨p, hp, rfl, h⟩
  · rw [h]
    have hy : y_fl M x (m_ln M) = -1 := yfl_no _ (fun k hk e => by
      rw [← rank_xy hI hk] at e
      rw [← e, ixL_nI (by omega) (rank_lt hI hk)] at h
      cases h)
    rw [if_pos hy]
    exact same_no hI 1 0 0 (by decide)
  · rw [h]
    dsimp only
    obtain ⟨k0, hk0, e0⟩ := onto (m_ln M) (x_rank M) (fun k hk => rank_lt hI hk) (fun a b => rank_inj hI) p hp
    have hu : ∀ k : Nat, k < m_ln M → ¬ k = k0 → ¬ x_rank M k = p := fun k hk c e => c (rank_inj hI hk hk0 (e.trans e0.symm))
    have hx : x_fl M p (m_ln M - 1) 0 = k0 := fl_at e0 _ 0 (Nat.zero_le _) (by omega) (fun k _ hk => hu k (by omega) (by omega))
    have hy : y_fl M (nI p) (m_ln M) = nI k0 := yfl_at (by rw [← rank_xy hI hk0, e0]) _ hk0 (fun k a b e => by
      rw [← rank_xy hI b] at e
      have hr := rank_lt hI b
      exact hu k b (by omega) ((nI_eq (by omega) (by omega)).mp e))
    rw [hx, hy, if_neg (nI_nm1 (by omega))]
    exact same_ok hI _
/-! WHAT IS READ -/
theorem t_steps {M : MM} (hI : Inv M) : nI (cntS (m_rt M) 1001) = nI (m_sn M) := by rw [hI.2.2.2.1.2.2.2.2]
theorem t_progress {M : MM} (hI : Inv M) : y_reached M = x_progress M := by
  obtain ⟨k, -, h1, h2⟩ := reached_two hI
  rw [h1, h2]
theorem t_rate {M : MM} (hI : Inv M) : y_rate M = x_rate M := by
  obtain ⟨k, -, h1, h2⟩ := rate_two hI
  rw [h1, h2]
theorem t_paid (M : MM) : y_psum (m_as M) (m_aa M) (m_an M) = x_psum (m_as M) (m_aa M) (m_an M) := (paid_two _ _ _).symm
/-! THE START -/
theorem cntS_0 {f : FF} (hf : ∀ i : Nat, i ≤ 1000 → f i = if i = 0 then 100 else -1) : ∀ n : Nat, n ≤ 1000 → cntS f (n + 1) = 1
  | 0, _ => by
    unfold cntS
    rw [hf 0 (by omega), if_pos rfl, if_neg (by decide)]
    rfl
  | n + 1, h => by
    unfold cntS
    rw [if_pos (by rw [hf (n + 1) h, if_neg (by omega)])]
    exact cntS_0 hf n (by omega)
theorem inv_0 {f : FF} (hf : ∀ i : Nat, i ≤ 1000 → f i = if i = 0 then 100 else -1) : Inv (m0 f) := by
  refine ⟨⟨Nat.zero_le _, Nat.le_refl 1, (by decide : (1 : Nat) ≤ 6), Nat.zero_le _⟩, fun j hj => ?_, fun g hg i _ => ?_, ⟨nI_0.symm, fun i hi => ?_, fun i j hi hj _ => ?_, fun k hk => ?_, cntS_0 hf 1000 (by omega)⟩, Or.inl rfl, 0, Nat.zero_le _, fun i hi => ?_, fun i _ hi => ?_, fun hi => ?_⟩
  · have hj : j < 0 := hj
    omega
  · have hg : g ∈ [z0, z0, z0, z0] := hg
    simp only [List.mem_cons, List.not_mem_nil, or_false, or_self] at hg
    rw [hg]; rfl
  · have hi : i < 1 := hi
    have e : i = 0 := by omega
    subst e
    refine ⟨0, 100, by omega, by omega, nI_0.symm, ?_, ?_⟩
    · show upd z0 0 100 0 = nI 100
      rw [pk_us]; rfl
    · show f 0 = nI 100
      rw [hf 0 (by omega), if_pos rfl]; rfl
  · have hi : i < 1 := hi
    have hj : j < 1 := hj
    omega
  · by_cases c : k = 0
    · exact Or.inr ⟨0, (by decide : (0 : Nat) < 1), by rw [c]; exact nI_0.symm⟩
    · refine Or.inl ?_
      show f k = -1
      rw [hf k hk, if_neg c]
  · omega
  · have hi : i < 0 := hi
    omega
  · have hi : (0 : Nat) < 0 := hi
    omega
