/-! ROWS THAT THE WALKS USE: calls whose callee leaves the heap as it was, or throws and leaves it; worlds side by side; throws of the class -/
/-- the heap has only grown -/
def g_row (st t : State) : Prop := st.heap.size + 1 ≤ t.heap.size ∧ ∀ q : Nat, q < st.heap.size → t.heap[q]? = st.heap[q]?
def g_X (PX : String → Prop) : String → State → State → Prop := fun E st t => PX E ∧ g_row st t
/-- a callee's start and end, where it changes its world wc -/
def pW (D : va_G) (tys : List (ClassId × FieldType)) (wc : va_W) (sz : Nat) : State → Prop := fun U => U.heap.size = sz ∧ va_P D vwCl wc U.heap ∧ va_K D vwCl tys U ∧ va_D (fun _ => True) wc
def qW (D : va_G) (A : Nat → Prop) (w : va_W) : State → Prop := fun t => va_P D vwCl w t.heap ∧ va_D A w
/-- a callee's start, where it only reads -/
def pR (D : va_G) (tys : List (ClassId × FieldType)) (wc : va_W) : State → Prop := fun U => va_P D vwCl wc U.heap ∧ va_K D vwCl tys U
theorem pR_fb {D : va_G} {tys : List (ClassId × FieldType)} {wc : va_W} {av : List Value} : FrameBlind (va_Pc av (pR D tys wc)) := fun a U g mk q => ⟨q.1, q.2.1, va_K.moved (u := U) (U := U.calling g mk a) (Vm.Alike.refl U.vm) q.2.2⟩
theorem pR_mk {D : va_G} {tys : List (ClassId × FieldType)} {wc : va_W} {av : List Value} {s : State} {H : Heap} (hP : va_P D vwCl wc H) (hK : va_K D vwCl tys s) : ∀ U : State, U.heap = H → s.WarmedH U.vm → va_Pc av (pR D tys wc) av.toArray U := fun U hU hW => ⟨rfl, by rw [hU]; exact hP, va_K.moved hW.alike hK⟩
theorem pW_fb {D : va_G} {tys : List (ClassId × FieldType)} {wc : va_W} {sz : Nat} {av : List Value} : FrameBlind (va_Pc av (pW D tys wc sz)) := fun a U g mk q => ⟨q.1, q.2.1, q.2.2.1, va_K.moved (u := U) (U := U.calling g mk a) (Vm.Alike.refl U.vm) q.2.2.2.1, q.2.2.2.2⟩
theorem pW_mk {D : va_G} {tys : List (ClassId × FieldType)} {wc : va_W} {av : List Value} {s : State} {H : Heap} {A : Nat → Prop} (hP : va_P D vwCl wc H) (hK : va_K D vwCl tys s) (hD : va_D A wc) : ∀ U : State, U.heap = H → s.WarmedH U.vm → va_Pc av (pW D tys wc H.size) av.toArray U := fun U hU hW => ⟨rfl, by rw [hU], by rw [hU]; exact hP, va_K.moved hW.alike hK, hD.weaken (fun _ _ _ _ => trivial)⟩
theorem nil_fb {av : List Value} : FrameBlind (va_Pc av (fun _ => True)) := fun _ _ _ _ q => q
theorem nil_mk {av : List Value} {s : State} {H : Heap} : ∀ U : State, U.heap = H → s.WarmedH U.vm → va_Pc av (fun _ => True) av.toArray U := fun _ _ _ => ⟨rfl, trivial⟩
/-! worlds side by side -/
theorem d_left {A : Nat → Prop} {a b : va_W} (h : va_D A (a ++ b)) : va_D A a := by
  refine ⟨fun i j x y hi hj e => h.1 i j x y ?_ ?_ e, fun k q hk => h.2 k q ?_⟩
  · rw [List.getElem?_append_left (List.getElem?_eq_some_iff.mp hi).1]; exact hi
  · rw [List.getElem?_append_left (List.getElem?_eq_some_iff.mp hj).1]; exact hj
  · rw [List.getElem?_append_left (List.getElem?_eq_some_iff.mp hk).1]; exact hk
theorem d_at {a b : va_W} {k : Nat} {q : Nat × va_E} (hk : b[k]? = some q) : (a ++ b)[a.length + k]? = some q := by
  rw [List.getElem?_append_right (by omega), show a.length + k - a.length = k by omega]; exact hk
theorem d_atl {a b : va_W} {k : Nat} {q : Nat × va_E} (hk : a[k]? = some q) : (a ++ b)[k]? = some q := by
  rw [List.getElem?_append_left (List.getElem?_eq_some_iff.mp hk).1]; exact hk
theorem d_right {A : Nat → Prop} {a b : va_W} (h : va_D A (a ++ b)) : va_D A b := by
  refine ⟨fun i j x y hi hj e => ?_, fun k q hk => h.2 _ q (d_at hk)⟩
  have := h.1 _ _ x y (d_at (a := a) hi) (d_at (a := a) hj) e
  omega
theorem d_cross {A : Nat → Prop} {a b : va_W} (h : va_D A (a ++ b)) : ∀ (i j : Nat) (x y : Nat × va_E), a[i]? = some x → b[j]? = some y → x.1 ≠ y.1 := by
  intro i j x y hi hj e
  have h1 := h.1 _ _ x y (d_atl (b := b) hi) (d_at (a := a) hj) e
  have h2 := (List.getElem?_eq_some_iff.mp hi).1
  omega
theorem p_left {D : va_G} {cl : List vw_C} {a b : va_W} {H : Heap} (h : va_P D cl (a ++ b) H) : va_P D cl a H := fun k q hk => h k q (d_atl hk)
theorem p_right {D : va_G} {cl : List vw_C} {a b : va_W} {H : Heap} (h : va_P D cl (a ++ b) H) : va_P D cl b H := fun _ q hk => h _ q (d_at hk)
/-- which cells a middle part's callee may change -/
theorem g_free {A0 : Nat → Prop} {wl wc wr : va_W} {H0 H : Heap} {locs : List Loc} (hD : va_D A0 (wl ++ (wc ++ wr))) (hS : va_S A0 H0 H locs) (hA : ∀ q, H0.size ≤ q → A0 q) : ∀ q, va_A wc H.size q → A0 q := by
  intro q h
  rcases h with ⟨k, e, h⟩ | h
  · exact hD.2 _ (q, e) (d_at (d_atl h))
  · exact hA q (Nat.le_trans hS.1 h)
/-- behind a call: the middle part is the callee's, the rest is as it was -/
theorem g_join {A0 : Nat → Prop} {D : va_G} {cl : List vw_C} {wl wc wr w1 : va_W} {H H1 : Heap} (hP : va_P D cl (wl ++ (wc ++ wr)) H) (hD : va_D A0 (wl ++ (wc ++ wr)))
    (hk : ∀ q : Nat, q < H.size → ¬ va_A wc H.size q → H1[q]? = H[q]?) (hF : ∀ q, va_A wc H.size q → A0 q) (hP1 : va_P D cl w1 H1) (hD1 : va_D (va_A wc H.size) w1) : va_P D cl (wl ++ (w1 ++ wr)) H1 ∧ va_D A0 (wl ++ (w1 ++ wr)) := by
  have hl : ∀ (k : Nat) (q : Nat × va_E), wl[k]? = some q → q.1 < H.size ∧ ¬ va_A wc H.size q.1 := by
    intro k q hq
    have hlt := (hP _ q (d_atl hq)).lt
    refine ⟨hlt, fun h => ?_⟩
    rcases h with ⟨k2, e, h⟩ | h
    · exact d_cross hD _ _ q (q.1, e) hq (d_atl h) rfl
    · omega
  have hr : ∀ (k : Nat) (q : Nat × va_E), wr[k]? = some q → q.1 < H.size ∧ ¬ va_A wc H.size q.1 := by
    intro k q hq
    have hlt := (hP _ q (d_at (d_at hq))).lt
    refine ⟨hlt, fun h => ?_⟩
    rcases h with ⟨k2, e, h⟩ | h
    · exact d_cross (d_right hD) _ _ (q.1, e) q h hq rfl
    · omega
  refine ⟨va_P.app (fun k q hq => (hP _ q (d_atl hq)).kept (hk q.1 (hl k q hq).1 (hl k q hq).2)) (va_P.app hP1 (fun k q hq => (hP _ q (d_at (d_at hq))).kept (hk q.1 (hr k q hq).1 (hr k q hq).2))), ?_⟩
  refine va_D.app (d_left hD) (va_D.app (hD1.weaken (fun k q _ h => hF q.1 h)) (d_right (d_right hD)) (fun i j x y hi hj e => ?_)) (fun i j x y hi hj e => ?_)
  · exact (hr j y hj).2 (by rw [← e]; exact hD1.2 i x hi)
  · rcases List.mem_append.mp (List.mem_of_getElem? hj) with h | h
    · obtain ⟨k, hk2⟩ := List.getElem?_of_mem h
      exact (hl i x hi).2 (by rw [e]; exact hD1.2 k y hk2)
    · obtain ⟨k, hk2⟩ := List.getElem?_of_mem h
      exact d_cross hD _ _ x y hi (d_at hk2) e
section CORE
variable {p : Program} {l : Launch} {e : Env} {R : Room} {s : State} {m : MethodId} {args : Array Value} {below : List Frame} {meth : Method} {c : Code} {H : Heap} {locs : List Loc} {cells slots : Nat} {Q : State → Prop}
variable {mc ms : Nat} {free : Addr → Prop} {A0 : Nat → Prop} {D : va_G} {a : Array Value} {pc : Nat} {ls : Array Slot} {st0 rest : List Value}
theorem w_abs {Q0 : State → Prop} {g : JFrame} (k : ∀ Q : State → Prop, Q = Q0 → W p l e R s m args below meth c H locs cells slots Q g) : W p l e R s m args below meth c H locs cells slots Q0 g := k Q0 rfl
/-- nothing came: the stand counts what it counted before -/
theorem st_back {T T' : State} {k n : Nat} (X : Stand p l e R s m args below meth c T locs cells slots) (X' : Stand p l e R s m args below meth c T' locs k n) (h : T'.heap = T.heap) : Stand p l e R s m args below meth c T' locs cells slots := by
  obtain ⟨a1, a2, a3, a4, a5, a6⟩ := X.same
  obtain ⟨b1, b2, b3, b4, b5, b6⟩ := X'.same
  refine { X' with same := ⟨b1, b2, ?_, b4, ?_, b6⟩ }
  · show T'.heap.size ≤ _
    rw [h]; exact a3
  · show ((T'.heap.toList.drop s.heap.size).map (·.slots.size)).sum ≤ slots
    rw [h]; exact a5
/-- a void callee that reads, or throws -/
theorem g_callv {post : Unit → Prop} {PX : String → Prop} (hr : vx_Run p l e R s m args below meth c H locs cells slots mc ms (F0 m pc ls st0) rest (va_Sv post a) (g_X PX) (fun _ => False))
    (kx : ∀ (E : String) (ce : Cell) (q9 : Addr) (H1 : Heap), PX E → H.size + 1 ≤ H1.size → (∀ q : Nat, q < H.size → H1[q]? = H[q]?) → H1[q9]? = some ce → ce.vm = .none → s.vm.findClass E = some ce.cls → vx_W p l e R s m args below meth c H1 locs (cells + mc) (slots + ms) Q (F0 m pc ls rest) q9)
    (kk : post () → W p l e R s m args below meth c H locs cells slots Q (F0 m (pc + 3) ls rest)) : W p l e R s m args below meth c H locs cells slots Q (F0 m pc ls st0) := by
  intro T hT X
  rcases hr T hT X with ⟨v, st₀, t, T', L, h0, X', hL, e1, e2, ⟨hv, hp, hh⟩, st⟩ | ⟨q, st₀, t, T', L, E, ce, h0, X', hL, e1, e2, ⟨hx, hz, hk⟩, hce, hcv, hcl, st⟩
  · cases hv
    have X2 := Stand.forget X' (fun q h => (hL q h).elim)
    obtain ⟨t2, a1, b1⟩ := kk hp T' (by rw [e1, hh, h0]) (st_back X X2 (by rw [e1, hh, h0, hT]))
    exact ⟨t2, st t2 a1, b1⟩
  · have X2 := Stand.forget X' (fun q h => (hL q h).elim)
    obtain ⟨t2, a1, b1⟩ := kx E ce q T'.heap hx (by rw [e1, ← h0]; exact hz) (fun q hq => by rw [e1, ← h0]; exact hk q (by rw [h0]; exact hq)) (by rw [e1]; exact hce) hcv hcl T' rfl X2
    exact ⟨t2, st.trans a1, b1⟩
/-- a callee that changes the middle part of the world, an int -/
theorem g_calliW {S : Type} {post : Int32 → S → Prop} {wf : S → va_W} {wl wc wr ws : va_W} (hr : va_Run p l e R s m args below meth c H locs cells slots mc ms (F0 m pc ls st0) rest (va_Qi post (fun u => qW D (va_A wc H.size) (wf u)) (va_A wc H.size) a) (va_A wc H.size))
    (hws : ws = wl ++ (wc ++ wr)) (hP : va_P D vwCl ws H) (hD : va_D A0 ws) (hS : va_S A0 s.heap H locs) (hA : ∀ q, s.heap.size ≤ q → A0 q)
    (kk : ∀ (r : Int32) (u : S) (H : Heap) (locs : List Loc), post r u → va_P D vwCl (wl ++ (wf u ++ wr)) H → va_D A0 (wl ++ (wf u ++ wr)) → va_S A0 s.heap H locs → W p l e R s m args below meth c H locs (cells + mc) (slots + ms) Q (F0 m (pc + 3) ls (.int r :: rest))) : W p l e R s m args below meth c H locs cells slots Q (F0 m pc ls st0) := by
  subst hws
  have hF := g_free hD hS hA
  refine va_calli hr hS (fun q _ h => hF q h) hF (fun r u t H1 locs1 ht hvm hw hB hz hk hS1 => ?_)
  obtain ⟨hP1, hD1⟩ := hB
  rw [ht] at hP1
  obtain ⟨j1, j2⟩ := g_join hP hD hk hF hP1 hD1
  exact kk r u H1 locs1 hw j1 j2 hS1
theorem g_callvW {S : Type} {post : S → Prop} {wf : S → va_W} {wl wc wr ws : va_W} (hr : va_Run p l e R s m args below meth c H locs cells slots mc ms (F0 m pc ls st0) rest (va_Qv post (fun u => qW D (va_A wc H.size) (wf u)) (va_A wc H.size) a) (va_A wc H.size))
    (hws : ws = wl ++ (wc ++ wr)) (hP : va_P D vwCl ws H) (hD : va_D A0 ws) (hS : va_S A0 s.heap H locs) (hA : ∀ q, s.heap.size ≤ q → A0 q)
    (kk : ∀ (u : S) (H : Heap) (locs : List Loc), post u → va_P D vwCl (wl ++ (wf u ++ wr)) H → va_D A0 (wl ++ (wf u ++ wr)) → va_S A0 s.heap H locs → W p l e R s m args below meth c H locs (cells + mc) (slots + ms) Q (F0 m (pc + 3) ls rest)) : W p l e R s m args below meth c H locs cells slots Q (F0 m pc ls st0) := by
  subst hws
  have hF := g_free hD hS hA
  refine va_callv hr hS (fun q _ h => hF q h) hF (fun u t H1 locs1 ht hvm hw hB hz hk hS1 => ?_)
  obtain ⟨hP1, hD1⟩ := hB
  rw [ht] at hP1
  obtain ⟨j1, j2⟩ := g_join hP hD hk hF hP1 hD1
  exact kk u H1 locs1 hw j1 j2 hS1
theorem g_grow {A : Nat → Prop} {H0 H H1 : Heap} {locs L : List Loc} (hS : va_S A H0 H locs) (h1 : H.size ≤ H1.size) (h2 : ∀ q : Nat, q < H.size → H1[q]? = H[q]?) (hL : ∀ q ∈ L, A q.base) : va_S A H0 H1 (locs ++ L) :=
  ⟨Nat.le_trans hS.1 h1, fun q a b => (h2 q (Nat.lt_of_lt_of_le a hS.1)).trans (hS.2.1 q a b), fun q hq => (List.mem_append.mp hq).elim (hS.2.2 q) (hL q)⟩
theorem g_growP {cl : List vw_C} {ws : va_W} {H H1 : Heap} (hP : va_P D cl ws H) (h2 : ∀ q : Nat, q < H.size → H1[q]? = H[q]?) : va_P D cl ws H1 := hP.kept (fun k q hk => h2 q.1 (hP k q hk).lt)
/-- the same, of a callee that changes its world or throws and changes nothing -/
theorem g_calliX {S : Type} {post : Int32 → S → Prop} {PX : String → Prop} {wf : S → va_W} {wl wc wr ws : va_W} (hr : vx_Run p l e R s m args below meth c H locs cells slots mc ms (F0 m pc ls st0) rest (va_Qi post (fun u => qW D (va_A wc H.size) (wf u)) (va_A wc H.size) a) (g_X PX) (va_A wc H.size))
    (hws : ws = wl ++ (wc ++ wr)) (hP : va_P D vwCl ws H) (hD : va_D A0 ws) (hS : va_S A0 s.heap H locs) (hA : ∀ q, s.heap.size ≤ q → A0 q)
    (kx : ∀ (E : String) (ce : Cell) (q9 : Addr) (H1 : Heap) (locs : List Loc), PX E → H.size + 1 ≤ H1.size → (∀ q : Nat, q < H.size → H1[q]? = H[q]?) → va_P D vwCl ws H1 → va_S A0 s.heap H1 locs → H1[q9]? = some ce → ce.vm = .none → s.vm.findClass E = some ce.cls → vx_W p l e R s m args below meth c H1 locs (cells + mc) (slots + ms) Q (F0 m pc ls rest) q9)
    (kk : ∀ (r : Int32) (u : S) (H : Heap) (locs : List Loc), post r u → va_P D vwCl (wl ++ (wf u ++ wr)) H → va_D A0 (wl ++ (wf u ++ wr)) → va_S A0 s.heap H locs → W p l e R s m args below meth c H locs (cells + mc) (slots + ms) Q (F0 m (pc + 3) ls (.int r :: rest))) : W p l e R s m args below meth c H locs cells slots Q (F0 m pc ls st0) := by
  subst hws
  have hF := g_free hD hS hA
  intro T hT X
  rcases hr T hT X with ⟨v, st₀, t, T', L, h0, X', hL, e1, e2, ⟨⟨r, u, hv, hp, hB⟩, hFr⟩, st⟩ | ⟨q, st₀, t, T', L, E, ce, h0, X', hL, e1, e2, ⟨hx, hz, hk⟩, hce, hcv, hcl, st⟩
  · cases hv
    obtain ⟨k1, k2, k3⟩ := vx_keep h0 e1 hS (fun q _ h => hF q h) hF hL hFr
    obtain ⟨hP1, hD1⟩ := hB
    rw [← e1] at hP1
    obtain ⟨j1, j2⟩ := g_join hP hD k2 hF hP1 hD1
    obtain ⟨t2, a1, b1⟩ := kk r u T'.heap (locs ++ L) hp j1 j2 k3 T' rfl X'
    exact ⟨t2, st t2 a1, b1⟩
  · have g1 : H.size + 1 ≤ T'.heap.size := by rw [e1, ← h0]; exact hz
    have g2 : ∀ q : Nat, q < H.size → T'.heap[q]? = H[q]? := fun q hq => by rw [e1, ← h0]; exact hk q (by rw [h0]; exact hq)
    obtain ⟨t2, a1, b1⟩ := kx E ce q T'.heap (locs ++ L) hx g1 g2 (g_growP hP g2) (g_grow hS (Nat.le_of_succ_le g1) g2 (fun q hq => hF _ (hL q hq))) (by rw [e1]; exact hce) hcv hcl T' rfl X'
    exact ⟨t2, st.trans a1, b1⟩
theorem g_callvX {S : Type} {post : S → Prop} {PX : String → Prop} {wf : S → va_W} {wl wc wr ws : va_W} (hr : vx_Run p l e R s m args below meth c H locs cells slots mc ms (F0 m pc ls st0) rest (va_Qv post (fun u => qW D (va_A wc H.size) (wf u)) (va_A wc H.size) a) (g_X PX) (va_A wc H.size))
    (hws : ws = wl ++ (wc ++ wr)) (hP : va_P D vwCl ws H) (hD : va_D A0 ws) (hS : va_S A0 s.heap H locs) (hA : ∀ q, s.heap.size ≤ q → A0 q)
    (kx : ∀ (E : String) (ce : Cell) (q9 : Addr) (H1 : Heap) (locs : List Loc), PX E → H.size + 1 ≤ H1.size → (∀ q : Nat, q < H.size → H1[q]? = H[q]?) → va_P D vwCl ws H1 → va_S A0 s.heap H1 locs → H1[q9]? = some ce → ce.vm = .none → s.vm.findClass E = some ce.cls → vx_W p l e R s m args below meth c H1 locs (cells + mc) (slots + ms) Q (F0 m pc ls rest) q9)
    (kk : ∀ (u : S) (H : Heap) (locs : List Loc), post u → va_P D vwCl (wl ++ (wf u ++ wr)) H → va_D A0 (wl ++ (wf u ++ wr)) → va_S A0 s.heap H locs → W p l e R s m args below meth c H locs (cells + mc) (slots + ms) Q (F0 m (pc + 3) ls rest)) : W p l e R s m args below meth c H locs cells slots Q (F0 m pc ls st0) := by
  subst hws
  have hF := g_free hD hS hA
  intro T hT X
  rcases hr T hT X with ⟨v, st₀, t, T', L, h0, X', hL, e1, e2, ⟨⟨u, hv, hp, hB⟩, hFr⟩, st⟩ | ⟨q, st₀, t, T', L, E, ce, h0, X', hL, e1, e2, ⟨hx, hz, hk⟩, hce, hcv, hcl, st⟩
  · cases hv
    obtain ⟨k1, k2, k3⟩ := vx_keep h0 e1 hS (fun q _ h => hF q h) hF hL hFr
    obtain ⟨hP1, hD1⟩ := hB
    rw [← e1] at hP1
    obtain ⟨j1, j2⟩ := g_join hP hD k2 hF hP1 hD1
    obtain ⟨t2, a1, b1⟩ := kk u T'.heap (locs ++ L) hp j1 j2 k3 T' rfl X'
    exact ⟨t2, st t2 a1, b1⟩
  · have g1 : H.size + 1 ≤ T'.heap.size := by rw [e1, ← h0]; exact hz
    have g2 : ∀ q : Nat, q < H.size → T'.heap[q]? = H[q]? := fun q hq => by rw [e1, ← h0]; exact hk q (by rw [h0]; exact hq)
    obtain ⟨t2, a1, b1⟩ := kx E ce q T'.heap (locs ++ L) hx g1 g2 (g_growP hP g2) (g_grow hS (Nat.le_of_succ_le g1) g2 (fun q hq => hF _ (hL q hq))) (by rw [e1]; exact hce) hcv hcl T' rfl X'
    exact ⟨t2, st.trans a1, b1⟩
/-- an array's place named by a Nat -/
theorem r_ald {cc : ByteArray} {cl : List vw_C} {tys : List (ClassId × FieldType)} {ws : va_W} {x : Nat} (hexec : p.tables.exec = Jvm.exec) (hb : c.code = cc) (hK : va_K D cl tys s) (hP : va_P D cl ws H) (q0 t0 : Nat) {cA : ClassId} {n : Nat} {f : Nat → Int32} (ha : ws[q0]? = some (x, .inl (cA, n, .inl f))) (ht : tys[t0]? = some (cA, .int)) {j : Nat} (hj : j < n) (hn : n < 2 ^ 31) (hdg : decode cc pc = .ok (.iaload, 1))
    (kk : W p l e R s m args below meth c H locs cells slots Q (F0 m (pc + 1) ls (.int (f j) :: rest))) : W p l e R s m args below meth c H locs cells slots Q (F0 m pc ls (.int (nI j) :: .ref x :: rest)) := by
  refine va_iald hexec hb hK hP q0 t0 ha ht (vp_in_nI hj hn) hdg ?_
  rw [nI_clamp (Nat.lt_trans hj hn)]
  exact kk
theorem r_ast {cc : ByteArray} {cl : List vw_C} {tys : List (ClassId × FieldType)} {ws : va_W} {x : Nat} {H0 : Heap} (hexec : p.tables.exec = Jvm.exec) (hb : c.code = cc) (hK : va_K D cl tys s) (hP : va_P D cl ws H) (hD : va_D A0 ws) (hS : va_S A0 H0 H locs) (q0 t0 : Nat) {cA : ClassId} {n : Nat} {f : Nat → Int32} (ha : ws[q0]? = some (x, .inl (cA, n, .inl f))) (ht : tys[t0]? = some (cA, .int)) {j : Nat} {v : Int32} (hj : j < n) (hn : n < 2 ^ 31) (hdg : decode cc pc = .ok (.iastore, 1))
    (kk : ∀ (H1 : Heap) (locs1 : List Loc), va_P D cl (ws.set q0 (x, .inl (cA, n, .inl (upd f j v)))) H1 → va_D A0 (ws.set q0 (x, .inl (cA, n, .inl (upd f j v)))) → va_S A0 H0 H1 locs1 → W p l e R s m args below meth c H1 locs1 cells slots Q (F0 m (pc + 1) ls rest)) : W p l e R s m args below meth c H locs cells slots Q (F0 m pc ls (.int v :: .int (nI j) :: .ref x :: rest)) := by
  have e := nI_clamp (Nat.lt_trans hj hn)
  refine va_iast hexec hb hK hP hD hS q0 t0 ha ht (vp_in_nI hj hn) hdg (fun H1 l1 h1 h2 h3 => ?_)
  rw [e] at h1 h2
  exact kk H1 l1 h1 h2 h3
end CORE
/-! what the tables and the heap say for a throw of the class: none of it changes while a billing is used -/
abbrev E_io : String := "java/lang/IndexOutOfBoundsException"
abbrev E_ia : String := "java/lang/IllegalArgumentException"
abbrev E_is : String := "java/lang/IllegalStateException"
abbrev E_up : List String := ["java/lang/RuntimeException", "java/lang/Exception"]
def x_dcl (C : String) : Cond := .declares ⟨C, "<init>", "(Ljava/lang/String;)V"⟩
def x_str : List (Nat × String) := [(113, "there are no lines"), (118, "there are 60 applications"), (135, "the application is paid already"), (140, "a waiver before it is not given"), (142, "the application is not in the state PAID"), (152, "there is no such line"), (155, "there is no such application"), (159, "an argument is out of its range"), (162, "there are 16 lines"), (164, "the line would have earned more than its value"), (166, "there are 6 steps"), (64, "the line has earned more than this value"), (77, "the work would become less"), (83, "the line has not so many goods"), (92, "no step has this threshold")]
def x_Ev (U : State) : Prop := va_Nw (.castable E_io E_io) U ∧ va_Nw (.castable E_ia E_ia) U ∧ va_Nw (.castable E_is E_is) U ∧ va_Nw (x_dcl "java/lang/RuntimeException") U ∧ va_Nw (x_dcl "java/lang/Exception") U ∧ va_Nw (x_dcl "java/lang/Throwable") U ∧ ∀ q ∈ x_str, ∃ a : Nat, vk_R RX0 q.1 q.2 a U
def x_Zz (A : Nat → Prop) (U : State) (H : Heap) : Prop := vx_Zq Bundle.tN "UNASSIGNED_STACK" Bundle.steD A U H ∧ vx_Zq Bundle.tN "SUPPRESSED_SENTINEL" Bundle.listD A U H
/-- both, as a callee wants them -/
def x_En (U : State) : Prop := x_Ev U ∧ x_Zz (fun _ => False) U U.heap
theorem x_Ev.warm {s U : State} (hW : s.WarmedH U.vm) (h : x_Ev s) : x_Ev U := by
  obtain ⟨h1, h2, h3, h4, h5, h6, h7⟩ := h
  exact ⟨va_Nw.warmC hW h1, va_Nw.warmC hW h2, va_Nw.warmC hW h3, va_Nw.warmD hW h4, va_Nw.warmD hW h5, va_Nw.warmD hW h6, fun q hq => by obtain ⟨a, ha⟩ := h7 q hq; exact ⟨a, vk_R.warm hW ha⟩⟩
theorem x_Ev.same {u U : State} (hv : U.vm = u.vm) (h : x_Ev u) : x_Ev U := by
  obtain ⟨h1, h2, h3, h4, h5, h6, h7⟩ := h
  exact ⟨va_Nw.same rfl hv.symm h1, va_Nw.same rfl hv.symm h2, va_Nw.same rfl hv.symm h3, va_Nw.same rfl hv.symm h4, va_Nw.same rfl hv.symm h5, va_Nw.same rfl hv.symm h6, fun q hq => by obtain ⟨a, ha⟩ := h7 q hq; exact ⟨a, vk_R.same hv ha⟩⟩
theorem x_Zz.moved {A : Nat → Prop} {u U : State} {H : Heap} (hvm : u.vm.Alike U.vm) (h : x_Zz A u H) : x_Zz A U H := ⟨vx_Zq.moved hvm h.1, vx_Zq.moved hvm h.2⟩
theorem x_Zz.kept {A : Nat → Prop} {U : State} {H H1 : Heap} (h : x_Zz A U H) (hq : ∀ a : Nat, a < H.size → ¬ A a → H1[a]? = H[a]?) : x_Zz A U H1 := ⟨vx_Zq.kept h.1 hq, vx_Zq.kept h.2 hq⟩
theorem x_Zz.narrow {A B : Nat → Prop} {U : State} {H : Heap} (h : x_Zz A U H) (hAB : ∀ q, B q → A q) : x_Zz B U H := ⟨vx_Zq.narrow h.1 hAB, vx_Zq.narrow h.2 hAB⟩
/-- at a call, in the heap of the method's own start -/
theorem x_En.call {s U : State} (h : x_En s) (hU : U.heap = s.heap) (hW : s.WarmedH U.vm) : x_En U := ⟨h.1.warm hW, by rw [hU]; exact h.2.moved hW.alike⟩
theorem x_En.calling {U : State} {g : JFrame} {mk : MethodId} {a : Array Value} (h : x_En U) : x_En (U.calling g mk a) := ⟨h.1.same rfl, h.2.moved (u := U) (Vm.Alike.refl U.vm)⟩
theorem pE_fb {av : List Value} {B : State → Prop} (h : FrameBlind (va_Pc av B)) : FrameBlind (va_Pc av (fun U => B U ∧ x_En U)) := fun a U g mk q => ⟨q.1, (h a U g mk ⟨q.1, q.2.1⟩).2, q.2.2.calling⟩
theorem pE_mk {av : List Value} {B : State → Prop} {s : State} {H : Heap} (hH : H = s.heap) (h : ∀ U : State, U.heap = H → s.WarmedH U.vm → va_Pc av B av.toArray U) (hE : x_En s) : ∀ U : State, U.heap = H → s.WarmedH U.vm → va_Pc av (fun U => B U ∧ x_En U) av.toArray U := fun U hU hW => ⟨rfl, (h U hU hW).2, hE.call (hU.trans hH) hW⟩
def t_io : List Cond := Cond.classLink RX0 150 E_io :: Cond.initialized E_io :: (vx_atS RX0 154 E_io E_up).filter goodWord
def t_ia : List Cond := Cond.classLink RX0 157 E_ia :: Cond.initialized E_ia :: (vx_atS RX0 161 E_ia E_up).filter goodWord
def t_is : List Cond := Cond.classLink RX0 62 E_is :: Cond.initialized E_is :: (vx_atS RX0 66 E_is E_up).filter goodWord
section THROW
variable {p : Program} {l : Launch} {e : Env} {R : Room} {s : State} {m : MethodId} {args : Array Value} {below : List Frame} {meth : Method} {c : Code} {free : Addr → Prop} {Qc : Array Value → State → Outcome → State → Prop} {PX : String → Prop} {cc : ByteArray} {pc : Nat} {ls : Array Slot} {rest : List Value} {Ts : List Cond}
set_option maxRecDepth 20000 in
theorem r_io {is : Nat} {text : String} (hexec : p.tables.exec = Jvm.exec) (hb : c.code = cc) (hl : l.stackTraces = false) (hown : s.vm.findClass RX0 = some m.cls) (hts : ∀ w ∈ Ts, w.before args s = true) (hT : ∀ w ∈ t_io, w ∈ Ts) (hE : x_En s) (hs : (is, text) ∈ x_str) (hsize : ls.size = c.maxLocals)
    (d0 : decode cc pc = .ok (.new 150, 3)) (d3 : decode cc (pc + 3) = .ok (.dup, 1)) (d4 : decode cc (pc + 4) = .ok (.ldc is, 2)) (d6 : decode cc (pc + 6) = .ok (.invokespecial 154, 3)) (d9 : decode cc (pc + 9) = .ok (.athrow, 1))
    (htab : ∀ x ∈ c.exceptionTable.toList, False) (hR : 6 ≤ R.frames ∧ (rest.map fun v => v.category).sum + 82 ≤ R.locals ∧ 1 ≤ R.cells ∧ 6 ≤ R.slots) (hlocks : meth.locks = false) (hP : PX E_io) :
    W p l e R s m args below meth c s.heap [] 0 0 (vx_MQ below Qc (g_X PX) args s 1 6 free) (F0 m pc ls rest) := by
  obtain ⟨⟨h1, h2, h3, h4, h5, h6, h7⟩, hU, hN⟩ := hE
  obtain ⟨sa, hsa⟩ := h7 _ hs
  exact vx_throwS (names := E_up) hexec hb hl hown (by decide +kernel) (by decide +kernel) (hts _ (hT _ List.mem_cons_self)) (hts _ (hT _ (List.mem_cons_of_mem _ List.mem_cons_self))) hsa
    (vx_hat (L := vx_atS RX0 154 E_io E_up) (B := [.castable E_io E_io, x_dcl "java/lang/RuntimeException", x_dcl "java/lang/Exception", x_dcl "java/lang/Throwable"]) (fun w hw => hts w (hT w (List.mem_cons_of_mem _ (List.mem_cons_of_mem _ hw)))) (by decide +kernel) (vx_c (va_Nw.use rfl h1) (vx_c (va_Nw.use rfl h4) (vx_c (va_Nw.use rfl h5) (vx_c (va_Nw.use rfl h6) vx_n)))))
    (by decide +kernel) hU hN va_S.rf hsize d0 d3 d4 d6 d9 (fun x hx => (htab x hx).elim) hR.1 hR.2.1 (by omega) (by omega) hlocks (fun t _ ha hq => ⟨hP, ha, hq⟩) (fun z hz => by cases hz) (Nat.le_refl _) (Nat.le_refl _)
set_option maxRecDepth 20000 in
theorem r_ia {is : Nat} {text : String} (hexec : p.tables.exec = Jvm.exec) (hb : c.code = cc) (hl : l.stackTraces = false) (hown : s.vm.findClass RX0 = some m.cls) (hts : ∀ w ∈ Ts, w.before args s = true) (hT : ∀ w ∈ t_ia, w ∈ Ts) (hE : x_En s) (hs : (is, text) ∈ x_str) (hsize : ls.size = c.maxLocals)
    (d0 : decode cc pc = .ok (.new 157, 3)) (d3 : decode cc (pc + 3) = .ok (.dup, 1)) (d4 : decode cc (pc + 4) = .ok (.ldc is, 2)) (d6 : decode cc (pc + 6) = .ok (.invokespecial 161, 3)) (d9 : decode cc (pc + 9) = .ok (.athrow, 1))
    (htab : ∀ x ∈ c.exceptionTable.toList, False) (hR : 6 ≤ R.frames ∧ (rest.map fun v => v.category).sum + 82 ≤ R.locals ∧ 1 ≤ R.cells ∧ 6 ≤ R.slots) (hlocks : meth.locks = false) (hP : PX E_ia) :
    W p l e R s m args below meth c s.heap [] 0 0 (vx_MQ below Qc (g_X PX) args s 1 6 free) (F0 m pc ls rest) := by
  obtain ⟨⟨h1, h2, h3, h4, h5, h6, h7⟩, hU, hN⟩ := hE
  obtain ⟨sa, hsa⟩ := h7 _ hs
  exact vx_throwS (names := E_up) hexec hb hl hown (by decide +kernel) (by decide +kernel) (hts _ (hT _ List.mem_cons_self)) (hts _ (hT _ (List.mem_cons_of_mem _ List.mem_cons_self))) hsa
    (vx_hat (L := vx_atS RX0 161 E_ia E_up) (B := [.castable E_ia E_ia, x_dcl "java/lang/RuntimeException", x_dcl "java/lang/Exception", x_dcl "java/lang/Throwable"]) (fun w hw => hts w (hT w (List.mem_cons_of_mem _ (List.mem_cons_of_mem _ hw)))) (by decide +kernel) (vx_c (va_Nw.use rfl h2) (vx_c (va_Nw.use rfl h4) (vx_c (va_Nw.use rfl h5) (vx_c (va_Nw.use rfl h6) vx_n)))))
    (by decide +kernel) hU hN va_S.rf hsize d0 d3 d4 d6 d9 (fun x hx => (htab x hx).elim) hR.1 hR.2.1 (by omega) (by omega) hlocks (fun t _ ha hq => ⟨hP, ha, hq⟩) (fun z hz => by cases hz) (Nat.le_refl _) (Nat.le_refl _)
set_option maxRecDepth 20000 in
theorem r_is {is : Nat} {text : String} (hexec : p.tables.exec = Jvm.exec) (hb : c.code = cc) (hl : l.stackTraces = false) (hown : s.vm.findClass RX0 = some m.cls) (hts : ∀ w ∈ Ts, w.before args s = true) (hT : ∀ w ∈ t_is, w ∈ Ts) (hE : x_En s) (hs : (is, text) ∈ x_str) (hsize : ls.size = c.maxLocals)
    (d0 : decode cc pc = .ok (.new 62, 3)) (d3 : decode cc (pc + 3) = .ok (.dup, 1)) (d4 : decode cc (pc + 4) = .ok (.ldc is, 2)) (d6 : decode cc (pc + 6) = .ok (.invokespecial 66, 3)) (d9 : decode cc (pc + 9) = .ok (.athrow, 1))
    (htab : ∀ x ∈ c.exceptionTable.toList, False) (hR : 6 ≤ R.frames ∧ (rest.map fun v => v.category).sum + 82 ≤ R.locals ∧ 1 ≤ R.cells ∧ 6 ≤ R.slots) (hlocks : meth.locks = false) (hP : PX E_is) :
    W p l e R s m args below meth c s.heap [] 0 0 (vx_MQ below Qc (g_X PX) args s 1 6 free) (F0 m pc ls rest) := by
  obtain ⟨⟨h1, h2, h3, h4, h5, h6, h7⟩, hU, hN⟩ := hE
  obtain ⟨sa, hsa⟩ := h7 _ hs
  exact vx_throwS (names := E_up) hexec hb hl hown (by decide +kernel) (by decide +kernel) (hts _ (hT _ List.mem_cons_self)) (hts _ (hT _ (List.mem_cons_of_mem _ List.mem_cons_self))) hsa
    (vx_hat (L := vx_atS RX0 66 E_is E_up) (B := [.castable E_is E_is, x_dcl "java/lang/RuntimeException", x_dcl "java/lang/Exception", x_dcl "java/lang/Throwable"]) (fun w hw => hts w (hT w (List.mem_cons_of_mem _ (List.mem_cons_of_mem _ hw)))) (by decide +kernel) (vx_c (va_Nw.use rfl h3) (vx_c (va_Nw.use rfl h4) (vx_c (va_Nw.use rfl h5) (vx_c (va_Nw.use rfl h6) vx_n)))))
    (by decide +kernel) hU hN va_S.rf hsize d0 d3 d4 d6 d9 (fun x hx => (htab x hx).elim) hR.1 hR.2.1 (by omega) (by omega) hlocks (fun t _ ha hq => ⟨hP, ha, hq⟩) (fun z hz => by cases hz) (Nat.le_refl _) (Nat.le_refl _)
/-- what a callee has thrown goes on to the caller; nothing was written -/
theorem r_out {E : String} {ce : Cell} {q : Addr} {H1 : Heap} {k n : Nat} (htab : ∀ x ∈ c.exceptionTable.toList, False) (hlocks : meth.locks = false) (h1 : s.heap.size + 1 ≤ H1.size) (h2 : ∀ q : Nat, q < s.heap.size → H1[q]? = s.heap[q]?) (hcell : H1[q]? = some ce) (hv : ce.vm = .none) (hcl : s.vm.findClass E = some ce.cls) (hP : PX E) (hk : k ≤ 1) (hn : n ≤ 6) :
    vx_W p l e R s m args below meth c H1 [] k n (vx_MQ below Qc (g_X PX) args s 1 6 free) (F0 m pc ls rest) q :=
  vx_out (fun x hx => (htab x hx).elim) hlocks hcell hv hcl (fun t ht _ => ⟨hP, by rw [ht]; exact h1, fun q hq => by rw [ht]; exact h2 q hq⟩) (fun z hz => by cases hz) hk hn
end THROW
