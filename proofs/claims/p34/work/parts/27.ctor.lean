/-! THE CONSTRUCTORS -/
def z0 : FF := fun _ => 0
def m0 (f : FF) : MM := mk z0 z0 z0 z0 z0 0 z0 (upd z0 0 100) 1 f 0 z0 z0 z0 z0 0
theorem k_same {D : va_G} {cl : List vw_C} {tys : List (ClassId × FieldType)} {s : State} {a b : ClassId} (hK : va_K D cl tys s) (i j : Nat) (h1 : tys[i]? = some (a, .int)) (h2 : tys[j]? = some (b, .int)) : a = b := by
  have e1 : s.vm.findClass _ = some a := (hK.2 i _ h1).2
  have e2 : s.vm.findClass _ = some b := (hK.2 j _ h2).2
  exact Option.some.inj (e1.symm.trans e2)
theorem rt_step {f : FF} {k : Nat} {v : Int32} (hf : ∀ i : Nat, i < k → f i = if i = 0 then 100 else -1) (hv : (if k = 0 then (100 : Int32) else -1) = v) : ∀ i : Nat, i < k + 1 → upd f k v i = if i = 0 then 100 else -1 := by
  intro i hi
  by_cases e : i = k
  · subst e; rw [pk_us, hv]
  · rw [pk_un e]; exact hf i (by omega)
set_option maxHeartbeats 4000000 in
set_option maxRecDepth 100000 in
theorem c0_init (l : Launch) (D : va_G) (q0 sz : Nat) : Met l yX0_init wsX0_init ({ frames := 1, cells := 11, slots := 332, locals := 12 } : Room) (va_Pc [.ref q0] (pW D [] [(q0, .inr (0, [.null, .null, .null, .null, .null, .int 0, .null, .null, .int 0, .int 0, .null, .null, .null, .null, .int 0]))] sz)) (va_Qv (fun u : (Nat → Nat) × ClassId => u.1 0 = q0) (fun u t => va_P D vwCl (w0 u.1 u.2 (m0 z0)) t.heap ∧ va_D (va_A [(q0, .inr (0, [.null, .null, .null, .null, .null, .int 0, .null, .null, .int 0, .int 0, .null, .null, .null, .null, .int 0]))] sz) (w0 u.1 u.2 (m0 z0)) ∧ va_K D vwCl [(u.2, .int)] t) (va_A [(q0, .inr (0, [.null, .null, .null, .null, .null, .int 0, .null, .null, .int 0, .int 0, .null, .null, .null, .null, .int 0]))] sz)) 11 332 (va_A [(q0, .inr (0, [.null, .null, .null, .null, .null, .int 0, .null, .null, .int 0, .int 0, .null, .null, .null, .null, .int 0]))] sz) := by
  refine Met.ofW (cc := cX0_init) (maxL := 1) (ret := none) (by decide) rfl ?_
  intro p e s m args below meth c s₁ B hml hv
  obtain ⟨rfl, hsz, hP, hK, hD0⟩ := hv
  have hx := B.exec
  have hb := B.bytes
  have hr := B.returns
  have hts := atoms_spec (ws := wsX0_init) B.pre
  have hown : s.vm.findClass RX0 = some m.cls := findClass_of_methodNamed B.named
  have hlocks := B.notSynchronized
  have hin : meth.name = "<init>" := (name_of_methodNamed B.named B.method).1
  have kw0 := hts (.methodLink RX0 1 objectInit) (by decide +kernel)
  have kw1 := hts (.instanceMethod objectInit) (by decide +kernel)
  have kw2 := hts (.code objectInit ⟨#[0xb1]⟩ 1 none) (by decide +kernel)
  have kw3 := hts (.arrayClass .int) (by decide +kernel)
  have kw4 := hts (.fieldLink RX0 9 "ProgressBilling" "lineValue" "[I") (by decide +kernel)
  have kw5 := hts (.fieldLink RX0 13 "ProgressBilling" "lineEarned" "[I") (by decide +kernel)
  have kw6 := hts (.fieldLink RX0 16 "ProgressBilling" "lineWork" "[I") (by decide +kernel)
  have kw7 := hts (.fieldLink RX0 19 "ProgressBilling" "lineBilled" "[I") (by decide +kernel)
  have kw8 := hts (.fieldLink RX0 22 "ProgressBilling" "lineHeld" "[I") (by decide +kernel)
  have kw9 := hts (.fieldLink RX0 25 "ProgressBilling" "stepThreshold" "[I") (by decide +kernel)
  have kw10 := hts (.fieldLink RX0 28 "ProgressBilling" "stepRate" "[I") (by decide +kernel)
  have kw11 := hts (.fieldLink RX0 31 "ProgressBilling" "applicationState" "[I") (by decide +kernel)
  have kw12 := hts (.fieldLink RX0 34 "ProgressBilling" "applicationAmount" "[I") (by decide +kernel)
  have kw13 := hts (.fieldLink RX0 37 "ProgressBilling" "applicationBilled" "[I") (by decide +kernel)
  have kw14 := hts (.fieldLink RX0 40 "ProgressBilling" "applicationHeld" "[I") (by decide +kernel)
  have kw15 := hts (.fieldLink RX0 43 "ProgressBilling" "stepCount" "I") (by decide +kernel)
  have hin0 : ∀ w ∈ u_ws RX0 TX0 15, w ∈ wsX0_init := by decide +kernel
  subst hsz
  have hD := hD0.self (sz := s.heap.size)
  generalize hAe : va_A [(q0, .inr (0, [.null, .null, .null, .null, .null, .int 0, .null, .null, .int 0, .int 0, .null, .null, .null, .null, .int 0]))] s.heap.size = A at hD ⊢
  have hA : ∀ q : Nat, s.heap.size ≤ q → A q := fun q h => by rw [← hAe]; exact Or.inr h
  have hS : va_S A s.heap s.heap [] := va_S.rf
  have hl := lv_entry ([.ref q0]) (n := 1) (Nat.le_of_ble_eq_true rfl)
  rw [lg_entry_eq]
  generalize (lg_sl ([.ref q0]) ++ List.replicate (1 - (lg_sl ([.ref q0])).length) Slot.unset).toArray = ls at hl ⊢
  have hl : lv_has ls 1 [(0, .ref q0)] := hl
  refine w_abs (fun Q hQ => ?_)
  refine lv_aload_n hx hb dX0_init_0 rfl (lv_at hl 0 rfl) ?_
  refine W.objInit hx hb hown kw0 kw1 kw2 rfl (by rw [hml]; exact hl.1) rfl dX0_init_1 (Nat.le_of_ble_eq_true rfl) (Nat.le_of_ble_eq_true rfl) ?_
  refine W.eq (g2 := F0 m 4 ls []) rfl ?_
  refine lv_aload_n hx hb dX0_init_4 rfl (lv_at hl 0 rfl) ?_
  refine lv_bipush (v := 16) hx hb dX0_init_5 (by decide) ?_
  refine va_newa (atype := .int) (ty := .int) (a0 := (16, .inl (fun _ => 0))) (N' := 16) hx hb kw3 rfl hK hP hD hS hA (fun cA => by rw [vp_cell_i]; rfl) (by decide) (by decide) (Nat.le_of_ble_eq_true rfl) (by first | omega | exact Nat.le_of_ble_eq_true rfl) (by first | omega | exact Nat.le_of_ble_eq_true rfl) dX0_init_7 (fun q1 cA H hK hP hD hS => ?_)
  have hK : va_K D vwCl [(cA, .int)] s := hK.sub [0] rfl
  have hP : va_P D vwCl [(q0, .inr (0, [.null, .null, .null, .null, .null, .int 0, .null, .null, .int 0, .int 0, .null, .null, .null, .null, .int 0])), (q1, .inl (cA, 16, .inl (fun _ => 0)))] H := hP
  have hD : va_D A [(q0, .inr (0, [.null, .null, .null, .null, .null, .int 0, .null, .null, .int 0, .int 0, .null, .null, .null, .null, .int 0])), (q1, .inl (cA, 16, .inl (fun _ => 0)))] := hD
  refine W.widen (k := 1) (n := 16) (by omega) (by omega) ?_
  refine va_putF (D := D) (ci := 0) (v := .ref q1) (ty := .array .int) (C := RX0) (T := TX0) (N := 15) hx hb hts hin0 tyX0 tyX0_ok nmX0 hown hK hP hD hS 0 rfl rfl 0 (by decide) kw4 (fun _ h9 => h9) rfl hin rfl (by decide +kernel) rfl rfl (Nat.le_of_ble_eq_true rfl) dX0_init_9 (fun H locs hP hD hS => ?_)
  have hP : va_P D vwCl [(q0, .inr (0, [.ref q1, .null, .null, .null, .null, .int 0, .null, .null, .int 0, .int 0, .null, .null, .null, .null, .int 0])), (q1, .inl (cA, 16, .inl (fun _ => 0)))] H := hP
  have hD : va_D A [(q0, .inr (0, [.ref q1, .null, .null, .null, .null, .int 0, .null, .null, .int 0, .int 0, .null, .null, .null, .null, .int 0])), (q1, .inl (cA, 16, .inl (fun _ => 0)))] := hD
  refine lv_aload_n hx hb dX0_init_12 rfl (lv_at hl 0 rfl) ?_
  refine lv_bipush (v := 16) hx hb dX0_init_13 (by decide) ?_
  refine va_newa (atype := .int) (ty := .int) (a0 := (16, .inl (fun _ => 0))) (N' := 16) hx hb kw3 rfl hK hP hD hS hA (fun cA => by rw [vp_cell_i]; rfl) (by decide) (by decide) (Nat.le_of_ble_eq_true rfl) (by first | omega | exact Nat.le_of_ble_eq_true rfl) (by first | omega | exact Nat.le_of_ble_eq_true rfl) dX0_init_15 (fun q2 cB H hK hP hD hS => ?_)
  obtain rfl := k_same hK 0 1 rfl rfl
  have hK : va_K D vwCl [(cA, .int)] s := hK.sub [0] rfl
  have hP : va_P D vwCl [(q0, .inr (0, [.ref q1, .null, .null, .null, .null, .int 0, .null, .null, .int 0, .int 0, .null, .null, .null, .null, .int 0])), (q1, .inl (cA, 16, .inl (fun _ => 0))), (q2, .inl (cA, 16, .inl (fun _ => 0)))] H := hP
  have hD : va_D A [(q0, .inr (0, [.ref q1, .null, .null, .null, .null, .int 0, .null, .null, .int 0, .int 0, .null, .null, .null, .null, .int 0])), (q1, .inl (cA, 16, .inl (fun _ => 0))), (q2, .inl (cA, 16, .inl (fun _ => 0)))] := hD
  refine W.widen (k := 2) (n := 32) (by omega) (by omega) ?_
  refine va_putF (D := D) (ci := 0) (v := .ref q2) (ty := .array .int) (C := RX0) (T := TX0) (N := 15) hx hb hts hin0 tyX0 tyX0_ok nmX0 hown hK hP hD hS 0 rfl rfl 1 (by decide) kw5 (fun _ h9 => h9) rfl hin rfl (by decide +kernel) rfl rfl (Nat.le_of_ble_eq_true rfl) dX0_init_17 (fun H locs hP hD hS => ?_)
  have hP : va_P D vwCl [(q0, .inr (0, [.ref q1, .ref q2, .null, .null, .null, .int 0, .null, .null, .int 0, .int 0, .null, .null, .null, .null, .int 0])), (q1, .inl (cA, 16, .inl (fun _ => 0))), (q2, .inl (cA, 16, .inl (fun _ => 0)))] H := hP
  have hD : va_D A [(q0, .inr (0, [.ref q1, .ref q2, .null, .null, .null, .int 0, .null, .null, .int 0, .int 0, .null, .null, .null, .null, .int 0])), (q1, .inl (cA, 16, .inl (fun _ => 0))), (q2, .inl (cA, 16, .inl (fun _ => 0)))] := hD
  refine lv_aload_n hx hb dX0_init_20 rfl (lv_at hl 0 rfl) ?_
  refine lv_bipush (v := 16) hx hb dX0_init_21 (by decide) ?_
  refine va_newa (atype := .int) (ty := .int) (a0 := (16, .inl (fun _ => 0))) (N' := 16) hx hb kw3 rfl hK hP hD hS hA (fun cA => by rw [vp_cell_i]; rfl) (by decide) (by decide) (Nat.le_of_ble_eq_true rfl) (by first | omega | exact Nat.le_of_ble_eq_true rfl) (by first | omega | exact Nat.le_of_ble_eq_true rfl) dX0_init_23 (fun q3 cB H hK hP hD hS => ?_)
  obtain rfl := k_same hK 0 1 rfl rfl
  have hK : va_K D vwCl [(cA, .int)] s := hK.sub [0] rfl
  have hP : va_P D vwCl [(q0, .inr (0, [.ref q1, .ref q2, .null, .null, .null, .int 0, .null, .null, .int 0, .int 0, .null, .null, .null, .null, .int 0])), (q1, .inl (cA, 16, .inl (fun _ => 0))), (q2, .inl (cA, 16, .inl (fun _ => 0))), (q3, .inl (cA, 16, .inl (fun _ => 0)))] H := hP
  have hD : va_D A [(q0, .inr (0, [.ref q1, .ref q2, .null, .null, .null, .int 0, .null, .null, .int 0, .int 0, .null, .null, .null, .null, .int 0])), (q1, .inl (cA, 16, .inl (fun _ => 0))), (q2, .inl (cA, 16, .inl (fun _ => 0))), (q3, .inl (cA, 16, .inl (fun _ => 0)))] := hD
  refine W.widen (k := 3) (n := 48) (by omega) (by omega) ?_
  refine va_putF (D := D) (ci := 0) (v := .ref q3) (ty := .array .int) (C := RX0) (T := TX0) (N := 15) hx hb hts hin0 tyX0 tyX0_ok nmX0 hown hK hP hD hS 0 rfl rfl 2 (by decide) kw6 (fun _ h9 => h9) rfl hin rfl (by decide +kernel) rfl rfl (Nat.le_of_ble_eq_true rfl) dX0_init_25 (fun H locs hP hD hS => ?_)
  have hP : va_P D vwCl [(q0, .inr (0, [.ref q1, .ref q2, .ref q3, .null, .null, .int 0, .null, .null, .int 0, .int 0, .null, .null, .null, .null, .int 0])), (q1, .inl (cA, 16, .inl (fun _ => 0))), (q2, .inl (cA, 16, .inl (fun _ => 0))), (q3, .inl (cA, 16, .inl (fun _ => 0)))] H := hP
  have hD : va_D A [(q0, .inr (0, [.ref q1, .ref q2, .ref q3, .null, .null, .int 0, .null, .null, .int 0, .int 0, .null, .null, .null, .null, .int 0])), (q1, .inl (cA, 16, .inl (fun _ => 0))), (q2, .inl (cA, 16, .inl (fun _ => 0))), (q3, .inl (cA, 16, .inl (fun _ => 0)))] := hD
  refine lv_aload_n hx hb dX0_init_28 rfl (lv_at hl 0 rfl) ?_
  refine lv_bipush (v := 16) hx hb dX0_init_29 (by decide) ?_
  refine va_newa (atype := .int) (ty := .int) (a0 := (16, .inl (fun _ => 0))) (N' := 16) hx hb kw3 rfl hK hP hD hS hA (fun cA => by rw [vp_cell_i]; rfl) (by decide) (by decide) (Nat.le_of_ble_eq_true rfl) (by first | omega | exact Nat.le_of_ble_eq_true rfl) (by first | omega | exact Nat.le_of_ble_eq_true rfl) dX0_init_31 (fun q4 cB H hK hP hD hS => ?_)
  obtain rfl := k_same hK 0 1 rfl rfl
  have hK : va_K D vwCl [(cA, .int)] s := hK.sub [0] rfl
  have hP : va_P D vwCl [(q0, .inr (0, [.ref q1, .ref q2, .ref q3, .null, .null, .int 0, .null, .null, .int 0, .int 0, .null, .null, .null, .null, .int 0])), (q1, .inl (cA, 16, .inl (fun _ => 0))), (q2, .inl (cA, 16, .inl (fun _ => 0))), (q3, .inl (cA, 16, .inl (fun _ => 0))), (q4, .inl (cA, 16, .inl (fun _ => 0)))] H := hP
  have hD : va_D A [(q0, .inr (0, [.ref q1, .ref q2, .ref q3, .null, .null, .int 0, .null, .null, .int 0, .int 0, .null, .null, .null, .null, .int 0])), (q1, .inl (cA, 16, .inl (fun _ => 0))), (q2, .inl (cA, 16, .inl (fun _ => 0))), (q3, .inl (cA, 16, .inl (fun _ => 0))), (q4, .inl (cA, 16, .inl (fun _ => 0)))] := hD
  refine W.widen (k := 4) (n := 64) (by omega) (by omega) ?_
  refine va_putF (D := D) (ci := 0) (v := .ref q4) (ty := .array .int) (C := RX0) (T := TX0) (N := 15) hx hb hts hin0 tyX0 tyX0_ok nmX0 hown hK hP hD hS 0 rfl rfl 3 (by decide) kw7 (fun _ h9 => h9) rfl hin rfl (by decide +kernel) rfl rfl (Nat.le_of_ble_eq_true rfl) dX0_init_33 (fun H locs hP hD hS => ?_)
  have hP : va_P D vwCl [(q0, .inr (0, [.ref q1, .ref q2, .ref q3, .ref q4, .null, .int 0, .null, .null, .int 0, .int 0, .null, .null, .null, .null, .int 0])), (q1, .inl (cA, 16, .inl (fun _ => 0))), (q2, .inl (cA, 16, .inl (fun _ => 0))), (q3, .inl (cA, 16, .inl (fun _ => 0))), (q4, .inl (cA, 16, .inl (fun _ => 0)))] H := hP
  have hD : va_D A [(q0, .inr (0, [.ref q1, .ref q2, .ref q3, .ref q4, .null, .int 0, .null, .null, .int 0, .int 0, .null, .null, .null, .null, .int 0])), (q1, .inl (cA, 16, .inl (fun _ => 0))), (q2, .inl (cA, 16, .inl (fun _ => 0))), (q3, .inl (cA, 16, .inl (fun _ => 0))), (q4, .inl (cA, 16, .inl (fun _ => 0)))] := hD
  refine lv_aload_n hx hb dX0_init_36 rfl (lv_at hl 0 rfl) ?_
  refine lv_bipush (v := 16) hx hb dX0_init_37 (by decide) ?_
  refine va_newa (atype := .int) (ty := .int) (a0 := (16, .inl (fun _ => 0))) (N' := 16) hx hb kw3 rfl hK hP hD hS hA (fun cA => by rw [vp_cell_i]; rfl) (by decide) (by decide) (Nat.le_of_ble_eq_true rfl) (by first | omega | exact Nat.le_of_ble_eq_true rfl) (by first | omega | exact Nat.le_of_ble_eq_true rfl) dX0_init_39 (fun q5 cB H hK hP hD hS => ?_)
  obtain rfl := k_same hK 0 1 rfl rfl
  have hK : va_K D vwCl [(cA, .int)] s := hK.sub [0] rfl
  have hP : va_P D vwCl [(q0, .inr (0, [.ref q1, .ref q2, .ref q3, .ref q4, .null, .int 0, .null, .null, .int 0, .int 0, .null, .null, .null, .null, .int 0])), (q1, .inl (cA, 16, .inl (fun _ => 0))), (q2, .inl (cA, 16, .inl (fun _ => 0))), (q3, .inl (cA, 16, .inl (fun _ => 0))), (q4, .inl (cA, 16, .inl (fun _ => 0))), (q5, .inl (cA, 16, .inl (fun _ => 0)))] H := hP
  have hD : va_D A [(q0, .inr (0, [.ref q1, .ref q2, .ref q3, .ref q4, .null, .int 0, .null, .null, .int 0, .int 0, .null, .null, .null, .null, .int 0])), (q1, .inl (cA, 16, .inl (fun _ => 0))), (q2, .inl (cA, 16, .inl (fun _ => 0))), (q3, .inl (cA, 16, .inl (fun _ => 0))), (q4, .inl (cA, 16, .inl (fun _ => 0))), (q5, .inl (cA, 16, .inl (fun _ => 0)))] := hD
  refine W.widen (k := 5) (n := 80) (by omega) (by omega) ?_
  refine va_putF (D := D) (ci := 0) (v := .ref q5) (ty := .array .int) (C := RX0) (T := TX0) (N := 15) hx hb hts hin0 tyX0 tyX0_ok nmX0 hown hK hP hD hS 0 rfl rfl 4 (by decide) kw8 (fun _ h9 => h9) rfl hin rfl (by decide +kernel) rfl rfl (Nat.le_of_ble_eq_true rfl) dX0_init_41 (fun H locs hP hD hS => ?_)
  have hP : va_P D vwCl [(q0, .inr (0, [.ref q1, .ref q2, .ref q3, .ref q4, .ref q5, .int 0, .null, .null, .int 0, .int 0, .null, .null, .null, .null, .int 0])), (q1, .inl (cA, 16, .inl (fun _ => 0))), (q2, .inl (cA, 16, .inl (fun _ => 0))), (q3, .inl (cA, 16, .inl (fun _ => 0))), (q4, .inl (cA, 16, .inl (fun _ => 0))), (q5, .inl (cA, 16, .inl (fun _ => 0)))] H := hP
  have hD : va_D A [(q0, .inr (0, [.ref q1, .ref q2, .ref q3, .ref q4, .ref q5, .int 0, .null, .null, .int 0, .int 0, .null, .null, .null, .null, .int 0])), (q1, .inl (cA, 16, .inl (fun _ => 0))), (q2, .inl (cA, 16, .inl (fun _ => 0))), (q3, .inl (cA, 16, .inl (fun _ => 0))), (q4, .inl (cA, 16, .inl (fun _ => 0))), (q5, .inl (cA, 16, .inl (fun _ => 0)))] := hD
  refine lv_aload_n hx hb dX0_init_44 rfl (lv_at hl 0 rfl) ?_
  refine lv_bipush (v := 6) hx hb dX0_init_45 (by decide) ?_
  refine va_newa (atype := .int) (ty := .int) (a0 := (6, .inl (fun _ => 0))) (N' := 6) hx hb kw3 rfl hK hP hD hS hA (fun cA => by rw [vp_cell_i]; rfl) (by decide) (by decide) (Nat.le_of_ble_eq_true rfl) (by first | omega | exact Nat.le_of_ble_eq_true rfl) (by first | omega | exact Nat.le_of_ble_eq_true rfl) dX0_init_47 (fun q6 cB H hK hP hD hS => ?_)
  obtain rfl := k_same hK 0 1 rfl rfl
  have hK : va_K D vwCl [(cA, .int)] s := hK.sub [0] rfl
  have hP : va_P D vwCl [(q0, .inr (0, [.ref q1, .ref q2, .ref q3, .ref q4, .ref q5, .int 0, .null, .null, .int 0, .int 0, .null, .null, .null, .null, .int 0])), (q1, .inl (cA, 16, .inl (fun _ => 0))), (q2, .inl (cA, 16, .inl (fun _ => 0))), (q3, .inl (cA, 16, .inl (fun _ => 0))), (q4, .inl (cA, 16, .inl (fun _ => 0))), (q5, .inl (cA, 16, .inl (fun _ => 0))), (q6, .inl (cA, 6, .inl (fun _ => 0)))] H := hP
  have hD : va_D A [(q0, .inr (0, [.ref q1, .ref q2, .ref q3, .ref q4, .ref q5, .int 0, .null, .null, .int 0, .int 0, .null, .null, .null, .null, .int 0])), (q1, .inl (cA, 16, .inl (fun _ => 0))), (q2, .inl (cA, 16, .inl (fun _ => 0))), (q3, .inl (cA, 16, .inl (fun _ => 0))), (q4, .inl (cA, 16, .inl (fun _ => 0))), (q5, .inl (cA, 16, .inl (fun _ => 0))), (q6, .inl (cA, 6, .inl (fun _ => 0)))] := hD
  refine W.widen (k := 6) (n := 86) (by omega) (by omega) ?_
  refine va_putF (D := D) (ci := 0) (v := .ref q6) (ty := .array .int) (C := RX0) (T := TX0) (N := 15) hx hb hts hin0 tyX0 tyX0_ok nmX0 hown hK hP hD hS 0 rfl rfl 6 (by decide) kw9 (fun _ h9 => h9) rfl hin rfl (by decide +kernel) rfl rfl (Nat.le_of_ble_eq_true rfl) dX0_init_49 (fun H locs hP hD hS => ?_)
  have hP : va_P D vwCl [(q0, .inr (0, [.ref q1, .ref q2, .ref q3, .ref q4, .ref q5, .int 0, .ref q6, .null, .int 0, .int 0, .null, .null, .null, .null, .int 0])), (q1, .inl (cA, 16, .inl (fun _ => 0))), (q2, .inl (cA, 16, .inl (fun _ => 0))), (q3, .inl (cA, 16, .inl (fun _ => 0))), (q4, .inl (cA, 16, .inl (fun _ => 0))), (q5, .inl (cA, 16, .inl (fun _ => 0))), (q6, .inl (cA, 6, .inl (fun _ => 0)))] H := hP
  have hD : va_D A [(q0, .inr (0, [.ref q1, .ref q2, .ref q3, .ref q4, .ref q5, .int 0, .ref q6, .null, .int 0, .int 0, .null, .null, .null, .null, .int 0])), (q1, .inl (cA, 16, .inl (fun _ => 0))), (q2, .inl (cA, 16, .inl (fun _ => 0))), (q3, .inl (cA, 16, .inl (fun _ => 0))), (q4, .inl (cA, 16, .inl (fun _ => 0))), (q5, .inl (cA, 16, .inl (fun _ => 0))), (q6, .inl (cA, 6, .inl (fun _ => 0)))] := hD
  refine lv_aload_n hx hb dX0_init_52 rfl (lv_at hl 0 rfl) ?_
  refine lv_bipush (v := 6) hx hb dX0_init_53 (by decide) ?_
  refine va_newa (atype := .int) (ty := .int) (a0 := (6, .inl (fun _ => 0))) (N' := 6) hx hb kw3 rfl hK hP hD hS hA (fun cA => by rw [vp_cell_i]; rfl) (by decide) (by decide) (Nat.le_of_ble_eq_true rfl) (by first | omega | exact Nat.le_of_ble_eq_true rfl) (by first | omega | exact Nat.le_of_ble_eq_true rfl) dX0_init_55 (fun q7 cB H hK hP hD hS => ?_)
  obtain rfl := k_same hK 0 1 rfl rfl
  have hK : va_K D vwCl [(cA, .int)] s := hK.sub [0] rfl
  have hP : va_P D vwCl [(q0, .inr (0, [.ref q1, .ref q2, .ref q3, .ref q4, .ref q5, .int 0, .ref q6, .null, .int 0, .int 0, .null, .null, .null, .null, .int 0])), (q1, .inl (cA, 16, .inl (fun _ => 0))), (q2, .inl (cA, 16, .inl (fun _ => 0))), (q3, .inl (cA, 16, .inl (fun _ => 0))), (q4, .inl (cA, 16, .inl (fun _ => 0))), (q5, .inl (cA, 16, .inl (fun _ => 0))), (q6, .inl (cA, 6, .inl (fun _ => 0))), (q7, .inl (cA, 6, .inl (fun _ => 0)))] H := hP
  have hD : va_D A [(q0, .inr (0, [.ref q1, .ref q2, .ref q3, .ref q4, .ref q5, .int 0, .ref q6, .null, .int 0, .int 0, .null, .null, .null, .null, .int 0])), (q1, .inl (cA, 16, .inl (fun _ => 0))), (q2, .inl (cA, 16, .inl (fun _ => 0))), (q3, .inl (cA, 16, .inl (fun _ => 0))), (q4, .inl (cA, 16, .inl (fun _ => 0))), (q5, .inl (cA, 16, .inl (fun _ => 0))), (q6, .inl (cA, 6, .inl (fun _ => 0))), (q7, .inl (cA, 6, .inl (fun _ => 0)))] := hD
  refine W.widen (k := 7) (n := 92) (by omega) (by omega) ?_
  refine va_putF (D := D) (ci := 0) (v := .ref q7) (ty := .array .int) (C := RX0) (T := TX0) (N := 15) hx hb hts hin0 tyX0 tyX0_ok nmX0 hown hK hP hD hS 0 rfl rfl 7 (by decide) kw10 (fun _ h9 => h9) rfl hin rfl (by decide +kernel) rfl rfl (Nat.le_of_ble_eq_true rfl) dX0_init_57 (fun H locs hP hD hS => ?_)
  have hP : va_P D vwCl [(q0, .inr (0, [.ref q1, .ref q2, .ref q3, .ref q4, .ref q5, .int 0, .ref q6, .ref q7, .int 0, .int 0, .null, .null, .null, .null, .int 0])), (q1, .inl (cA, 16, .inl (fun _ => 0))), (q2, .inl (cA, 16, .inl (fun _ => 0))), (q3, .inl (cA, 16, .inl (fun _ => 0))), (q4, .inl (cA, 16, .inl (fun _ => 0))), (q5, .inl (cA, 16, .inl (fun _ => 0))), (q6, .inl (cA, 6, .inl (fun _ => 0))), (q7, .inl (cA, 6, .inl (fun _ => 0)))] H := hP
  have hD : va_D A [(q0, .inr (0, [.ref q1, .ref q2, .ref q3, .ref q4, .ref q5, .int 0, .ref q6, .ref q7, .int 0, .int 0, .null, .null, .null, .null, .int 0])), (q1, .inl (cA, 16, .inl (fun _ => 0))), (q2, .inl (cA, 16, .inl (fun _ => 0))), (q3, .inl (cA, 16, .inl (fun _ => 0))), (q4, .inl (cA, 16, .inl (fun _ => 0))), (q5, .inl (cA, 16, .inl (fun _ => 0))), (q6, .inl (cA, 6, .inl (fun _ => 0))), (q7, .inl (cA, 6, .inl (fun _ => 0)))] := hD
  refine lv_aload_n hx hb dX0_init_60 rfl (lv_at hl 0 rfl) ?_
  refine lv_bipush (v := 60) hx hb dX0_init_61 (by decide) ?_
  refine va_newa (atype := .int) (ty := .int) (a0 := (60, .inl (fun _ => 0))) (N' := 60) hx hb kw3 rfl hK hP hD hS hA (fun cA => by rw [vp_cell_i]; rfl) (by decide) (by decide) (Nat.le_of_ble_eq_true rfl) (by first | omega | exact Nat.le_of_ble_eq_true rfl) (by first | omega | exact Nat.le_of_ble_eq_true rfl) dX0_init_63 (fun q8 cB H hK hP hD hS => ?_)
  obtain rfl := k_same hK 0 1 rfl rfl
  have hK : va_K D vwCl [(cA, .int)] s := hK.sub [0] rfl
  have hP : va_P D vwCl [(q0, .inr (0, [.ref q1, .ref q2, .ref q3, .ref q4, .ref q5, .int 0, .ref q6, .ref q7, .int 0, .int 0, .null, .null, .null, .null, .int 0])), (q1, .inl (cA, 16, .inl (fun _ => 0))), (q2, .inl (cA, 16, .inl (fun _ => 0))), (q3, .inl (cA, 16, .inl (fun _ => 0))), (q4, .inl (cA, 16, .inl (fun _ => 0))), (q5, .inl (cA, 16, .inl (fun _ => 0))), (q6, .inl (cA, 6, .inl (fun _ => 0))), (q7, .inl (cA, 6, .inl (fun _ => 0))), (q8, .inl (cA, 60, .inl (fun _ => 0)))] H := hP
  have hD : va_D A [(q0, .inr (0, [.ref q1, .ref q2, .ref q3, .ref q4, .ref q5, .int 0, .ref q6, .ref q7, .int 0, .int 0, .null, .null, .null, .null, .int 0])), (q1, .inl (cA, 16, .inl (fun _ => 0))), (q2, .inl (cA, 16, .inl (fun _ => 0))), (q3, .inl (cA, 16, .inl (fun _ => 0))), (q4, .inl (cA, 16, .inl (fun _ => 0))), (q5, .inl (cA, 16, .inl (fun _ => 0))), (q6, .inl (cA, 6, .inl (fun _ => 0))), (q7, .inl (cA, 6, .inl (fun _ => 0))), (q8, .inl (cA, 60, .inl (fun _ => 0)))] := hD
  refine W.widen (k := 8) (n := 152) (by omega) (by omega) ?_
  refine va_putF (D := D) (ci := 0) (v := .ref q8) (ty := .array .int) (C := RX0) (T := TX0) (N := 15) hx hb hts hin0 tyX0 tyX0_ok nmX0 hown hK hP hD hS 0 rfl rfl 10 (by decide) kw11 (fun _ h9 => h9) rfl hin rfl (by decide +kernel) rfl rfl (Nat.le_of_ble_eq_true rfl) dX0_init_65 (fun H locs hP hD hS => ?_)
  have hP : va_P D vwCl [(q0, .inr (0, [.ref q1, .ref q2, .ref q3, .ref q4, .ref q5, .int 0, .ref q6, .ref q7, .int 0, .int 0, .ref q8, .null, .null, .null, .int 0])), (q1, .inl (cA, 16, .inl (fun _ => 0))), (q2, .inl (cA, 16, .inl (fun _ => 0))), (q3, .inl (cA, 16, .inl (fun _ => 0))), (q4, .inl (cA, 16, .inl (fun _ => 0))), (q5, .inl (cA, 16, .inl (fun _ => 0))), (q6, .inl (cA, 6, .inl (fun _ => 0))), (q7, .inl (cA, 6, .inl (fun _ => 0))), (q8, .inl (cA, 60, .inl (fun _ => 0)))] H := hP
  have hD : va_D A [(q0, .inr (0, [.ref q1, .ref q2, .ref q3, .ref q4, .ref q5, .int 0, .ref q6, .ref q7, .int 0, .int 0, .ref q8, .null, .null, .null, .int 0])), (q1, .inl (cA, 16, .inl (fun _ => 0))), (q2, .inl (cA, 16, .inl (fun _ => 0))), (q3, .inl (cA, 16, .inl (fun _ => 0))), (q4, .inl (cA, 16, .inl (fun _ => 0))), (q5, .inl (cA, 16, .inl (fun _ => 0))), (q6, .inl (cA, 6, .inl (fun _ => 0))), (q7, .inl (cA, 6, .inl (fun _ => 0))), (q8, .inl (cA, 60, .inl (fun _ => 0)))] := hD
  refine lv_aload_n hx hb dX0_init_68 rfl (lv_at hl 0 rfl) ?_
  refine lv_bipush (v := 60) hx hb dX0_init_69 (by decide) ?_
  refine va_newa (atype := .int) (ty := .int) (a0 := (60, .inl (fun _ => 0))) (N' := 60) hx hb kw3 rfl hK hP hD hS hA (fun cA => by rw [vp_cell_i]; rfl) (by decide) (by decide) (Nat.le_of_ble_eq_true rfl) (by first | omega | exact Nat.le_of_ble_eq_true rfl) (by first | omega | exact Nat.le_of_ble_eq_true rfl) dX0_init_71 (fun q9 cB H hK hP hD hS => ?_)
  obtain rfl := k_same hK 0 1 rfl rfl
  have hK : va_K D vwCl [(cA, .int)] s := hK.sub [0] rfl
  have hP : va_P D vwCl [(q0, .inr (0, [.ref q1, .ref q2, .ref q3, .ref q4, .ref q5, .int 0, .ref q6, .ref q7, .int 0, .int 0, .ref q8, .null, .null, .null, .int 0])), (q1, .inl (cA, 16, .inl (fun _ => 0))), (q2, .inl (cA, 16, .inl (fun _ => 0))), (q3, .inl (cA, 16, .inl (fun _ => 0))), (q4, .inl (cA, 16, .inl (fun _ => 0))), (q5, .inl (cA, 16, .inl (fun _ => 0))), (q6, .inl (cA, 6, .inl (fun _ => 0))), (q7, .inl (cA, 6, .inl (fun _ => 0))), (q8, .inl (cA, 60, .inl (fun _ => 0))), (q9, .inl (cA, 60, .inl (fun _ => 0)))] H := hP
  have hD : va_D A [(q0, .inr (0, [.ref q1, .ref q2, .ref q3, .ref q4, .ref q5, .int 0, .ref q6, .ref q7, .int 0, .int 0, .ref q8, .null, .null, .null, .int 0])), (q1, .inl (cA, 16, .inl (fun _ => 0))), (q2, .inl (cA, 16, .inl (fun _ => 0))), (q3, .inl (cA, 16, .inl (fun _ => 0))), (q4, .inl (cA, 16, .inl (fun _ => 0))), (q5, .inl (cA, 16, .inl (fun _ => 0))), (q6, .inl (cA, 6, .inl (fun _ => 0))), (q7, .inl (cA, 6, .inl (fun _ => 0))), (q8, .inl (cA, 60, .inl (fun _ => 0))), (q9, .inl (cA, 60, .inl (fun _ => 0)))] := hD
  refine W.widen (k := 9) (n := 212) (by omega) (by omega) ?_
  refine va_putF (D := D) (ci := 0) (v := .ref q9) (ty := .array .int) (C := RX0) (T := TX0) (N := 15) hx hb hts hin0 tyX0 tyX0_ok nmX0 hown hK hP hD hS 0 rfl rfl 11 (by decide) kw12 (fun _ h9 => h9) rfl hin rfl (by decide +kernel) rfl rfl (Nat.le_of_ble_eq_true rfl) dX0_init_73 (fun H locs hP hD hS => ?_)
  have hP : va_P D vwCl [(q0, .inr (0, [.ref q1, .ref q2, .ref q3, .ref q4, .ref q5, .int 0, .ref q6, .ref q7, .int 0, .int 0, .ref q8, .ref q9, .null, .null, .int 0])), (q1, .inl (cA, 16, .inl (fun _ => 0))), (q2, .inl (cA, 16, .inl (fun _ => 0))), (q3, .inl (cA, 16, .inl (fun _ => 0))), (q4, .inl (cA, 16, .inl (fun _ => 0))), (q5, .inl (cA, 16, .inl (fun _ => 0))), (q6, .inl (cA, 6, .inl (fun _ => 0))), (q7, .inl (cA, 6, .inl (fun _ => 0))), (q8, .inl (cA, 60, .inl (fun _ => 0))), (q9, .inl (cA, 60, .inl (fun _ => 0)))] H := hP
  have hD : va_D A [(q0, .inr (0, [.ref q1, .ref q2, .ref q3, .ref q4, .ref q5, .int 0, .ref q6, .ref q7, .int 0, .int 0, .ref q8, .ref q9, .null, .null, .int 0])), (q1, .inl (cA, 16, .inl (fun _ => 0))), (q2, .inl (cA, 16, .inl (fun _ => 0))), (q3, .inl (cA, 16, .inl (fun _ => 0))), (q4, .inl (cA, 16, .inl (fun _ => 0))), (q5, .inl (cA, 16, .inl (fun _ => 0))), (q6, .inl (cA, 6, .inl (fun _ => 0))), (q7, .inl (cA, 6, .inl (fun _ => 0))), (q8, .inl (cA, 60, .inl (fun _ => 0))), (q9, .inl (cA, 60, .inl (fun _ => 0)))] := hD
  refine lv_aload_n hx hb dX0_init_76 rfl (lv_at hl 0 rfl) ?_
  refine lv_bipush (v := 60) hx hb dX0_init_77 (by decide) ?_
  refine va_newa (atype := .int) (ty := .int) (a0 := (60, .inl (fun _ => 0))) (N' := 60) hx hb kw3 rfl hK hP hD hS hA (fun cA => by rw [vp_cell_i]; rfl) (by decide) (by decide) (Nat.le_of_ble_eq_true rfl) (by first | omega | exact Nat.le_of_ble_eq_true rfl) (by first | omega | exact Nat.le_of_ble_eq_true rfl) dX0_init_79 (fun q10 cB H hK hP hD hS => ?_)
  obtain rfl := k_same hK 0 1 rfl rfl
  have hK : va_K D vwCl [(cA, .int)] s := hK.sub [0] rfl
  have hP : va_P D vwCl [(q0, .inr (0, [.ref q1, .ref q2, .ref q3, .ref q4, .ref q5, .int 0, .ref q6, .ref q7, .int 0, .int 0, .ref q8, .ref q9, .null, .null, .int 0])), (q1, .inl (cA, 16, .inl (fun _ => 0))), (q2, .inl (cA, 16, .inl (fun _ => 0))), (q3, .inl (cA, 16, .inl (fun _ => 0))), (q4, .inl (cA, 16, .inl (fun _ => 0))), (q5, .inl (cA, 16, .inl (fun _ => 0))), (q6, .inl (cA, 6, .inl (fun _ => 0))), (q7, .inl (cA, 6, .inl (fun _ => 0))), (q8, .inl (cA, 60, .inl (fun _ => 0))), (q9, .inl (cA, 60, .inl (fun _ => 0))), (q10, .inl (cA, 60, .inl (fun _ => 0)))] H := hP
  have hD : va_D A [(q0, .inr (0, [.ref q1, .ref q2, .ref q3, .ref q4, .ref q5, .int 0, .ref q6, .ref q7, .int 0, .int 0, .ref q8, .ref q9, .null, .null, .int 0])), (q1, .inl (cA, 16, .inl (fun _ => 0))), (q2, .inl (cA, 16, .inl (fun _ => 0))), (q3, .inl (cA, 16, .inl (fun _ => 0))), (q4, .inl (cA, 16, .inl (fun _ => 0))), (q5, .inl (cA, 16, .inl (fun _ => 0))), (q6, .inl (cA, 6, .inl (fun _ => 0))), (q7, .inl (cA, 6, .inl (fun _ => 0))), (q8, .inl (cA, 60, .inl (fun _ => 0))), (q9, .inl (cA, 60, .inl (fun _ => 0))), (q10, .inl (cA, 60, .inl (fun _ => 0)))] := hD
  refine W.widen (k := 10) (n := 272) (by omega) (by omega) ?_
  refine va_putF (D := D) (ci := 0) (v := .ref q10) (ty := .array .int) (C := RX0) (T := TX0) (N := 15) hx hb hts hin0 tyX0 tyX0_ok nmX0 hown hK hP hD hS 0 rfl rfl 12 (by decide) kw13 (fun _ h9 => h9) rfl hin rfl (by decide +kernel) rfl rfl (Nat.le_of_ble_eq_true rfl) dX0_init_81 (fun H locs hP hD hS => ?_)
  have hP : va_P D vwCl [(q0, .inr (0, [.ref q1, .ref q2, .ref q3, .ref q4, .ref q5, .int 0, .ref q6, .ref q7, .int 0, .int 0, .ref q8, .ref q9, .ref q10, .null, .int 0])), (q1, .inl (cA, 16, .inl (fun _ => 0))), (q2, .inl (cA, 16, .inl (fun _ => 0))), (q3, .inl (cA, 16, .inl (fun _ => 0))), (q4, .inl (cA, 16, .inl (fun _ => 0))), (q5, .inl (cA, 16, .inl (fun _ => 0))), (q6, .inl (cA, 6, .inl (fun _ => 0))), (q7, .inl (cA, 6, .inl (fun _ => 0))), (q8, .inl (cA, 60, .inl (fun _ => 0))), (q9, .inl (cA, 60, .inl (fun _ => 0))), (q10, .inl (cA, 60, .inl (fun _ => 0)))] H := hP
  have hD : va_D A [(q0, .inr (0, [.ref q1, .ref q2, .ref q3, .ref q4, .ref q5, .int 0, .ref q6, .ref q7, .int 0, .int 0, .ref q8, .ref q9, .ref q10, .null, .int 0])), (q1, .inl (cA, 16, .inl (fun _ => 0))), (q2, .inl (cA, 16, .inl (fun _ => 0))), (q3, .inl (cA, 16, .inl (fun _ => 0))), (q4, .inl (cA, 16, .inl (fun _ => 0))), (q5, .inl (cA, 16, .inl (fun _ => 0))), (q6, .inl (cA, 6, .inl (fun _ => 0))), (q7, .inl (cA, 6, .inl (fun _ => 0))), (q8, .inl (cA, 60, .inl (fun _ => 0))), (q9, .inl (cA, 60, .inl (fun _ => 0))), (q10, .inl (cA, 60, .inl (fun _ => 0)))] := hD
  refine lv_aload_n hx hb dX0_init_84 rfl (lv_at hl 0 rfl) ?_
  refine lv_bipush (v := 60) hx hb dX0_init_85 (by decide) ?_
  refine va_newa (atype := .int) (ty := .int) (a0 := (60, .inl (fun _ => 0))) (N' := 60) hx hb kw3 rfl hK hP hD hS hA (fun cA => by rw [vp_cell_i]; rfl) (by decide) (by decide) (Nat.le_of_ble_eq_true rfl) (by first | omega | exact Nat.le_of_ble_eq_true rfl) (by first | omega | exact Nat.le_of_ble_eq_true rfl) dX0_init_87 (fun q11 cB H hK hP hD hS => ?_)
  obtain rfl := k_same hK 0 1 rfl rfl
  have hK : va_K D vwCl [(cA, .int)] s := hK.sub [0] rfl
  have hP : va_P D vwCl [(q0, .inr (0, [.ref q1, .ref q2, .ref q3, .ref q4, .ref q5, .int 0, .ref q6, .ref q7, .int 0, .int 0, .ref q8, .ref q9, .ref q10, .null, .int 0])), (q1, .inl (cA, 16, .inl (fun _ => 0))), (q2, .inl (cA, 16, .inl (fun _ => 0))), (q3, .inl (cA, 16, .inl (fun _ => 0))), (q4, .inl (cA, 16, .inl (fun _ => 0))), (q5, .inl (cA, 16, .inl (fun _ => 0))), (q6, .inl (cA, 6, .inl (fun _ => 0))), (q7, .inl (cA, 6, .inl (fun _ => 0))), (q8, .inl (cA, 60, .inl (fun _ => 0))), (q9, .inl (cA, 60, .inl (fun _ => 0))), (q10, .inl (cA, 60, .inl (fun _ => 0))), (q11, .inl (cA, 60, .inl (fun _ => 0)))] H := hP
  have hD : va_D A [(q0, .inr (0, [.ref q1, .ref q2, .ref q3, .ref q4, .ref q5, .int 0, .ref q6, .ref q7, .int 0, .int 0, .ref q8, .ref q9, .ref q10, .null, .int 0])), (q1, .inl (cA, 16, .inl (fun _ => 0))), (q2, .inl (cA, 16, .inl (fun _ => 0))), (q3, .inl (cA, 16, .inl (fun _ => 0))), (q4, .inl (cA, 16, .inl (fun _ => 0))), (q5, .inl (cA, 16, .inl (fun _ => 0))), (q6, .inl (cA, 6, .inl (fun _ => 0))), (q7, .inl (cA, 6, .inl (fun _ => 0))), (q8, .inl (cA, 60, .inl (fun _ => 0))), (q9, .inl (cA, 60, .inl (fun _ => 0))), (q10, .inl (cA, 60, .inl (fun _ => 0))), (q11, .inl (cA, 60, .inl (fun _ => 0)))] := hD
  refine W.widen (k := 11) (n := 332) (by omega) (by omega) ?_
  refine va_putF (D := D) (ci := 0) (v := .ref q11) (ty := .array .int) (C := RX0) (T := TX0) (N := 15) hx hb hts hin0 tyX0 tyX0_ok nmX0 hown hK hP hD hS 0 rfl rfl 13 (by decide) kw14 (fun _ h9 => h9) rfl hin rfl (by decide +kernel) rfl rfl (Nat.le_of_ble_eq_true rfl) dX0_init_89 (fun H locs hP hD hS => ?_)
  have hP : va_P D vwCl [(q0, .inr (0, [.ref q1, .ref q2, .ref q3, .ref q4, .ref q5, .int 0, .ref q6, .ref q7, .int 0, .int 0, .ref q8, .ref q9, .ref q10, .ref q11, .int 0])), (q1, .inl (cA, 16, .inl (fun _ => 0))), (q2, .inl (cA, 16, .inl (fun _ => 0))), (q3, .inl (cA, 16, .inl (fun _ => 0))), (q4, .inl (cA, 16, .inl (fun _ => 0))), (q5, .inl (cA, 16, .inl (fun _ => 0))), (q6, .inl (cA, 6, .inl (fun _ => 0))), (q7, .inl (cA, 6, .inl (fun _ => 0))), (q8, .inl (cA, 60, .inl (fun _ => 0))), (q9, .inl (cA, 60, .inl (fun _ => 0))), (q10, .inl (cA, 60, .inl (fun _ => 0))), (q11, .inl (cA, 60, .inl (fun _ => 0)))] H := hP
  have hD : va_D A [(q0, .inr (0, [.ref q1, .ref q2, .ref q3, .ref q4, .ref q5, .int 0, .ref q6, .ref q7, .int 0, .int 0, .ref q8, .ref q9, .ref q10, .ref q11, .int 0])), (q1, .inl (cA, 16, .inl (fun _ => 0))), (q2, .inl (cA, 16, .inl (fun _ => 0))), (q3, .inl (cA, 16, .inl (fun _ => 0))), (q4, .inl (cA, 16, .inl (fun _ => 0))), (q5, .inl (cA, 16, .inl (fun _ => 0))), (q6, .inl (cA, 6, .inl (fun _ => 0))), (q7, .inl (cA, 6, .inl (fun _ => 0))), (q8, .inl (cA, 60, .inl (fun _ => 0))), (q9, .inl (cA, 60, .inl (fun _ => 0))), (q10, .inl (cA, 60, .inl (fun _ => 0))), (q11, .inl (cA, 60, .inl (fun _ => 0)))] := hD
  refine lv_aload_n hx hb dX0_init_92 rfl (lv_at hl 0 rfl) ?_
  refine va_get (D := D) (ci := 0) (v := .ref q7) (C := RX0) (T := TX0) (N := 15) hx hb hts hin0 hown hK hP 0 rfl rfl 7 (by decide) kw10 (fun _ h9 => h9) rfl dX0_init_93 ?_
  refine lv_iconst (v := 0) hx hb dX0_init_96 (by decide) ?_
  refine lv_bipush (v := 100) hx hb dX0_init_97 (by decide) ?_
  refine r_ast (f := fun _ => 0) (j := 0) (v := 100) hx hb hK hP hD hS 7 0 rfl rfl (by decide) (by decide) dX0_init_99 (fun H locs hP hD hS => ?_)
  have hP : va_P D vwCl [(q0, .inr (0, [.ref q1, .ref q2, .ref q3, .ref q4, .ref q5, .int 0, .ref q6, .ref q7, .int 0, .int 0, .ref q8, .ref q9, .ref q10, .ref q11, .int 0])), (q1, .inl (cA, 16, .inl (fun _ => 0))), (q2, .inl (cA, 16, .inl (fun _ => 0))), (q3, .inl (cA, 16, .inl (fun _ => 0))), (q4, .inl (cA, 16, .inl (fun _ => 0))), (q5, .inl (cA, 16, .inl (fun _ => 0))), (q6, .inl (cA, 6, .inl (fun _ => 0))), (q7, .inl (cA, 6, .inl (upd (fun _ => 0) 0 100))), (q8, .inl (cA, 60, .inl (fun _ => 0))), (q9, .inl (cA, 60, .inl (fun _ => 0))), (q10, .inl (cA, 60, .inl (fun _ => 0))), (q11, .inl (cA, 60, .inl (fun _ => 0)))] H := hP
  have hD : va_D A [(q0, .inr (0, [.ref q1, .ref q2, .ref q3, .ref q4, .ref q5, .int 0, .ref q6, .ref q7, .int 0, .int 0, .ref q8, .ref q9, .ref q10, .ref q11, .int 0])), (q1, .inl (cA, 16, .inl (fun _ => 0))), (q2, .inl (cA, 16, .inl (fun _ => 0))), (q3, .inl (cA, 16, .inl (fun _ => 0))), (q4, .inl (cA, 16, .inl (fun _ => 0))), (q5, .inl (cA, 16, .inl (fun _ => 0))), (q6, .inl (cA, 6, .inl (fun _ => 0))), (q7, .inl (cA, 6, .inl (upd (fun _ => 0) 0 100))), (q8, .inl (cA, 60, .inl (fun _ => 0))), (q9, .inl (cA, 60, .inl (fun _ => 0))), (q10, .inl (cA, 60, .inl (fun _ => 0))), (q11, .inl (cA, 60, .inl (fun _ => 0)))] := hD
  refine lv_aload_n hx hb dX0_init_100 rfl (lv_at hl 0 rfl) ?_
  refine lv_iconst (v := 1) hx hb dX0_init_101 (by decide) ?_
  refine va_put (D := D) (ci := 0) (v := .int 1) (ty := .int) (C := RX0) (T := TX0) (N := 15) hx hb hts hin0 tyX0 tyX0_ok nmX0 hown hK hP hD hS 0 rfl rfl 8 (by decide) kw15 (fun _ h9 => h9) rfl (by decide +kernel) rfl rfl (Nat.le_of_ble_eq_true rfl) dX0_init_102 (fun H locs hP hD hS => ?_)
  have hP : va_P D vwCl [(q0, .inr (0, [.ref q1, .ref q2, .ref q3, .ref q4, .ref q5, .int 0, .ref q6, .ref q7, .int 1, .int 0, .ref q8, .ref q9, .ref q10, .ref q11, .int 0])), (q1, .inl (cA, 16, .inl (fun _ => 0))), (q2, .inl (cA, 16, .inl (fun _ => 0))), (q3, .inl (cA, 16, .inl (fun _ => 0))), (q4, .inl (cA, 16, .inl (fun _ => 0))), (q5, .inl (cA, 16, .inl (fun _ => 0))), (q6, .inl (cA, 6, .inl (fun _ => 0))), (q7, .inl (cA, 6, .inl (upd (fun _ => 0) 0 100))), (q8, .inl (cA, 60, .inl (fun _ => 0))), (q9, .inl (cA, 60, .inl (fun _ => 0))), (q10, .inl (cA, 60, .inl (fun _ => 0))), (q11, .inl (cA, 60, .inl (fun _ => 0)))] H := hP
  have hD : va_D A [(q0, .inr (0, [.ref q1, .ref q2, .ref q3, .ref q4, .ref q5, .int 0, .ref q6, .ref q7, .int 1, .int 0, .ref q8, .ref q9, .ref q10, .ref q11, .int 0])), (q1, .inl (cA, 16, .inl (fun _ => 0))), (q2, .inl (cA, 16, .inl (fun _ => 0))), (q3, .inl (cA, 16, .inl (fun _ => 0))), (q4, .inl (cA, 16, .inl (fun _ => 0))), (q5, .inl (cA, 16, .inl (fun _ => 0))), (q6, .inl (cA, 6, .inl (fun _ => 0))), (q7, .inl (cA, 6, .inl (upd (fun _ => 0) 0 100))), (q8, .inl (cA, 60, .inl (fun _ => 0))), (q9, .inl (cA, 60, .inl (fun _ => 0))), (q10, .inl (cA, 60, .inl (fun _ => 0))), (q11, .inl (cA, 60, .inl (fun _ => 0)))] := hD
  subst hQ
  exact W.vret hx hb hr (fun t ht hW => ⟨⟨(fun i => List.getD [q0, q1, q2, q3, q4, q5, q6, q7, q8, q9, q10, q11] i 0, cA), rfl, rfl, by rw [ht]; exact hP, hD, va_K.moved hW.alike hK⟩, hS.F ht⟩) hS.2.2 dX0_init_105
