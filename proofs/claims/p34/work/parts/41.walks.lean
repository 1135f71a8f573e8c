/-! THE LAW'S LARGER METHODS, on the empty billing and the number 11 -/
set_option maxHeartbeats 4000000 in
set_option maxRecDepth 100000 in
theorem eL_refuses (l : Launch) (hlt : l.stackTraces = false) (D : va_G) (h : Nat → Nat) (cA : ClassId) (sz : Nat) : Met l yL_refuses wsL_refuses ({ frames := 9, cells := 26, slots := 156, locals := 159 } : Room) (va_Pc [.ref (h 0), .int 11] (fun U => pW D [(cA, .int)] (w0 h cA M0) sz U ∧ x_En U)) (va_Qi (fun (r : Int32) (_ : Unit) => r = 1) (tN sz 26) (va_A [] sz)) 26 156 (va_A [] sz) := by
  refine Met.ofW (cc := cL_refuses) (maxL := 7) (ret := (some .boolean)) (by decide) rfl ?_
  intro p e s m args below meth c s₁ B hml hv
  obtain ⟨rfl, ⟨hsz, hP, hK, hD0⟩, hE⟩ := hv
  have hx := B.exec
  have hb := B.bytes
  have hr := B.returns
  have hts := atoms_spec (ws := wsL_refuses) B.pre
  have hown : s.vm.findClass RL = some m.cls := findClass_of_methodNamed B.named
  have kw0 := hts (.constant RL 15 (-2000000002)) (by decide +kernel)
  have kw1 := hts (.constant RL 98 (10000001)) (by decide +kernel)
  have kw2 := hts (.constant RL 25 (-2000000001)) (by decide +kernel)
  have kw3 := hts (.constant RL 18 (-2000000003)) (by decide +kernel)
  subst hsz
  have hA : ∀ q : Nat, s.heap.size ≤ q → va_A ([] : va_W) s.heap.size q := fun q h => Or.inr h
  have hS : va_S (va_A [] s.heap.size) s.heap s.heap [] := va_S.rf
  have hG : s.heap.size + 0 ≤ s.heap.size := Nat.le_refl _
  have hP : va_P D vwCl (w0 h cA M0) s.heap := hP
  have hl := lv_entry ([.ref (h 0), .int 11]) (n := 7) (Nat.le_of_ble_eq_true rfl)
  rw [lg_entry_eq]
  generalize (lg_sl ([.ref (h 0), .int 11]) ++ List.replicate (7 - (lg_sl ([.ref (h 0), .int 11])).length) Slot.unset).toArray = ls at hl ⊢
  have hl : lv_has ls 7 [(0, .ref (h 0)), (1, .int 11)] := hl
  refine w_abs (fun Q hQ => ?_)
  refine lv_iload_n hx hb dL_refuses_0 rfl (lv_at hl 1 rfl) ?_
  refine lv_iconst (v := 2) hx hb dL_refuses_1 (by decide) ?_
  refine lv_irem hx hb dL_refuses_2 (by decide) ?_
  refine lv_topi (fun y1 ey1 => ?_)
  obtain rfl : y1 = 1 := ey1.trans (by decide +kernel)
  refine lv_if_ne (tgt := 15) hx hb dL_refuses_3 (by decide) (fun _ => ?_) (fun z => absurd z (by decide +kernel))
  refine lv_aload_n hx hb dL_refuses_15 rfl (lv_at hl 0 rfl) ?_
  refine vp_callSi (W.runV (As := []) (rest := []) ⟨hx, hb, hml, hown, hts⟩ (c0_lines l D h cA M0 ok0) (cwV 0 hts gL_refuses_X0_lines rfl rfl rfl (by decide +kernel) ⟨Nat.le_of_ble_eq_true rfl, Nat.le_of_ble_eq_true rfl⟩) ⟨pR_fb, va_recv hK hP (ci := 0) (q0 := 0) rfl rfl, pR_mk hP hK⟩ rfl rfl hl.1 rfl (lv_room (Nat.le_of_ble_eq_true rfl)) dL_refuses_16 ⟨Nat.le_of_ble_eq_true rfl, Nat.le_of_ble_eq_true rfl⟩) (fun r2 qr2 => ?_)
  obtain rfl : r2 = 0 := qr2.trans (by decide +kernel)
  refine lv_iload_n hx hb dL_refuses_19 rfl (lv_at hl 1 rfl) ?_
  refine lv_bipush (v := 50) hx hb dL_refuses_20 (by decide) ?_
  refine lv_irem hx hb dL_refuses_22 (by decide) ?_
  refine lv_topi (fun y3 ey3 => ?_)
  obtain rfl : y3 = 11 := ey3.trans (by decide +kernel)
  refine lv_iadd hx hb dL_refuses_23 ?_
  refine lv_topi (fun y4 ey4 => ?_)
  obtain rfl : y4 = 11 := ey4.trans (by decide +kernel)
  refine lv_istore_n (lv' := [(2, .int 11), (0, .ref (h 0)), (1, .int 11)]) hx hb dL_refuses_24 rfl hl (by decide) rfl (fun ls hl => ?_)
  refine lv_iload_n hx hb dL_refuses_25 rfl (lv_at hl 2 rfl) ?_
  refine lv_iconst (v := 2) hx hb dL_refuses_26 (by decide) ?_
  refine lv_irem hx hb dL_refuses_27 (by decide) ?_
  refine lv_topi (fun y5 ey5 => ?_)
  obtain rfl : y5 = 1 := ey5.trans (by decide +kernel)
  refine lv_if_ne (tgt := 40) hx hb dL_refuses_28 (by decide) (fun _ => ?_) (fun z => absurd z (by decide +kernel))
  refine lv_aload_n hx hb dL_refuses_40 rfl (lv_at hl 1 rfl) ?_
  refine vp_callSi (W.runV (As := []) (rest := []) ⟨hx, hb, hml, hown, hts⟩ (c0_applications l D h cA M0 ok0) (cwV 0 hts gL_refuses_X0_applications rfl rfl rfl (by decide +kernel) ⟨Nat.le_of_ble_eq_true rfl, Nat.le_of_ble_eq_true rfl⟩) ⟨pR_fb, va_recv hK hP (ci := 0) (q0 := 0) rfl rfl, pR_mk hP hK⟩ rfl rfl hl.1 rfl (lv_room (Nat.le_of_ble_eq_true rfl)) dL_refuses_41 ⟨Nat.le_of_ble_eq_true rfl, Nat.le_of_ble_eq_true rfl⟩) (fun r6 qr6 => ?_)
  obtain rfl : r6 = 0 := qr6.trans (by decide +kernel)
  refine lv_iload_n hx hb dL_refuses_44 rfl (lv_at hl 2 rfl) ?_
  refine lv_bipush (v := 50) hx hb dL_refuses_45 (by decide) ?_
  refine lv_irem hx hb dL_refuses_47 (by decide) ?_
  refine lv_topi (fun y7 ey7 => ?_)
  obtain rfl : y7 = 11 := ey7.trans (by decide +kernel)
  refine lv_iadd hx hb dL_refuses_48 ?_
  refine lv_topi (fun y8 ey8 => ?_)
  obtain rfl : y8 = 11 := ey8.trans (by decide +kernel)
  refine lv_istore_n (lv' := [(3, .int 11), (2, .int 11), (0, .ref (h 0)), (1, .int 11)]) hx hb dL_refuses_49 rfl hl (by decide) rfl (fun ls hl => ?_)
  refine lv_aload_n hx hb dL_refuses_50 rfl (lv_at hl 2 rfl) ?_
  refine lv_iconst (v := -1) hx hb dL_refuses_51 (by decide) ?_
  refine lv_iload_n hx hb dL_refuses_52 rfl (lv_at hl 3 rfl) ?_
  refine lv_isub hx hb dL_refuses_53 ?_
  refine lv_topi (fun y9 ey9 => ?_)
  obtain rfl : y9 = (-12) := ey9.trans (by decide +kernel)
  refine g_new (vx_runSW (As := [.ref (h 0), .int (-12)]) (rest := []) ⟨hx, hb, hml, hown, hts⟩ (eL_adds l hlt D h cA (-12) (by decide +kernel) s.heap.size) (vx_cwSW 2 hts gL_refuses_L_adds rfl rfl rfl (by decide +kernel) ⟨Nat.le_of_ble_eq_true rfl, Nat.le_of_ble_eq_true rfl⟩) ⟨pE_fb pW_fb, e_mk hP hK hD0 hE hS⟩ rfl rfl hl.1 rfl (lv_room (Nat.le_of_ble_eq_true rfl)) dL_refuses_54 ⟨Nat.le_of_ble_eq_true rfl, Nat.le_of_ble_eq_true rfl⟩) hP hS hA hG (fun r10 H locs qr10 hP hS hG => ?_)
  obtain rfl : r10 = (-2000000002) := qr10
  refine lv_ldc hx hb hown kw0 dL_refuses_57 ?_
  refine lv_icmp_ne (tgt := 382) hx hb dL_refuses_59 (by decide) (fun z => absurd z (by decide +kernel)) (fun _ => ?_)
  refine lv_aload_n hx hb dL_refuses_62 rfl (lv_at hl 2 rfl) ?_
  refine lv_ldc hx hb hown kw1 dL_refuses_63 ?_
  refine lv_iload_n hx hb dL_refuses_65 rfl (lv_at hl 3 rfl) ?_
  refine lv_iadd hx hb dL_refuses_66 ?_
  refine lv_topi (fun y11 ey11 => ?_)
  obtain rfl : y11 = 10000012 := ey11.trans (by decide +kernel)
  refine g_new (vx_runSW (As := [.ref (h 0), .int 10000012]) (rest := []) ⟨hx, hb, hml, hown, hts⟩ (eL_adds l hlt D h cA 10000012 (by decide +kernel) H.size) (vx_cwSW 2 hts gL_refuses_L_adds rfl rfl rfl (by decide +kernel) ⟨Nat.le_of_ble_eq_true rfl, Nat.le_of_ble_eq_true rfl⟩) ⟨pE_fb pW_fb, e_mk hP hK hD0 hE hS⟩ rfl rfl hl.1 rfl (lv_room (Nat.le_of_ble_eq_true rfl)) dL_refuses_67 ⟨Nat.le_of_ble_eq_true rfl, Nat.le_of_ble_eq_true rfl⟩) hP hS hA hG (fun r12 H locs qr12 hP hS hG => ?_)
  obtain rfl : r12 = (-2000000002) := qr12
  refine lv_ldc hx hb hown kw0 dL_refuses_70 ?_
  refine lv_icmp_ne (tgt := 382) hx hb dL_refuses_72 (by decide) (fun z => absurd z (by decide +kernel)) (fun _ => ?_)
  refine lv_aload_n hx hb dL_refuses_75 rfl (lv_at hl 2 rfl) ?_
  refine lv_iload_n hx hb dL_refuses_76 rfl (lv_at hl 1 rfl) ?_
  refine lv_iconst (v := -1) hx hb dL_refuses_77 (by decide) ?_
  refine g_new (vx_runSW (As := [.ref (h 0), .int 11, .int (-1)]) (rest := []) ⟨hx, hb, hml, hown, hts⟩ (eL_changes l hlt D h cA 11 (-1) (by decide +kernel) H.size) (vx_cwSW 3 hts gL_refuses_L_changes rfl rfl rfl (by decide +kernel) ⟨Nat.le_of_ble_eq_true rfl, Nat.le_of_ble_eq_true rfl⟩) ⟨pE_fb pW_fb, e_mk hP hK hD0 hE hS⟩ rfl rfl hl.1 rfl (lv_room (Nat.le_of_ble_eq_true rfl)) dL_refuses_78 ⟨Nat.le_of_ble_eq_true rfl, Nat.le_of_ble_eq_true rfl⟩) hP hS hA hG (fun r13 H locs qr13 hP hS hG => ?_)
  obtain rfl : r13 = (-2000000001) := qr13
  refine lv_ldc hx hb hown kw2 dL_refuses_81 ?_
  refine lv_icmp_ne (tgt := 382) hx hb dL_refuses_83 (by decide) (fun z => absurd z (by decide +kernel)) (fun _ => ?_)
  refine lv_aload_n hx hb dL_refuses_86 rfl (lv_at hl 2 rfl) ?_
  refine lv_iload_n hx hb dL_refuses_87 rfl (lv_at hl 1 rfl) ?_
  refine lv_iconst (v := 0) hx hb dL_refuses_88 (by decide) ?_
  refine g_new (vx_runSW (As := [.ref (h 0), .int 11, .int 0]) (rest := []) ⟨hx, hb, hml, hown, hts⟩ (eL_splits l hlt D h cA 11 0 (by decide +kernel) H.size) (vx_cwSW 3 hts gL_refuses_L_splits rfl rfl rfl (by decide +kernel) ⟨Nat.le_of_ble_eq_true rfl, Nat.le_of_ble_eq_true rfl⟩) ⟨pE_fb pW_fb, e_mk hP hK hD0 hE hS⟩ rfl rfl hl.1 rfl (lv_room (Nat.le_of_ble_eq_true rfl)) dL_refuses_89 ⟨Nat.le_of_ble_eq_true rfl, Nat.le_of_ble_eq_true rfl⟩) hP hS hA hG (fun r14 H locs qr14 hP hS hG => ?_)
  obtain rfl : r14 = (-2000000001) := qr14
  refine lv_ldc hx hb hown kw2 dL_refuses_92 ?_
  refine lv_icmp_ne (tgt := 382) hx hb dL_refuses_94 (by decide) (fun z => absurd z (by decide +kernel)) (fun _ => ?_)
  refine lv_aload_n hx hb dL_refuses_97 rfl (lv_at hl 2 rfl) ?_
  refine lv_iload_n hx hb dL_refuses_98 rfl (lv_at hl 1 rfl) ?_
  refine lv_bipush (v := -5) hx hb dL_refuses_99 (by decide) ?_
  refine g_new (vx_runSW (As := [.ref (h 0), .int 11, .int (-5)]) (rest := []) ⟨hx, hb, hml, hown, hts⟩ (eL_works l hlt D h cA 11 (-5) (by decide +kernel) H.size) (vx_cwSW 3 hts gL_refuses_L_works rfl rfl rfl (by decide +kernel) ⟨Nat.le_of_ble_eq_true rfl, Nat.le_of_ble_eq_true rfl⟩) ⟨pE_fb pW_fb, e_mk hP hK hD0 hE hS⟩ rfl rfl hl.1 rfl (lv_room (Nat.le_of_ble_eq_true rfl)) dL_refuses_101 ⟨Nat.le_of_ble_eq_true rfl, Nat.le_of_ble_eq_true rfl⟩) hP hS hA hG (fun r15 H locs qr15 hP hS hG => ?_)
  obtain rfl : r15 = (-2000000001) := qr15
  refine lv_ldc hx hb hown kw2 dL_refuses_104 ?_
  refine lv_icmp_ne (tgt := 382) hx hb dL_refuses_106 (by decide) (fun z => absurd z (by decide +kernel)) (fun _ => ?_)
  refine lv_aload_n hx hb dL_refuses_109 rfl (lv_at hl 2 rfl) ?_
  refine lv_iload_n hx hb dL_refuses_110 rfl (lv_at hl 1 rfl) ?_
  refine lv_iconst (v := 0) hx hb dL_refuses_111 (by decide) ?_
  refine g_new (vx_runSW (As := [.ref (h 0), .int 11, .int 0]) (rest := []) ⟨hx, hb, hml, hown, hts⟩ (eL_stores l hlt D h cA 11 0 (by decide +kernel) H.size) (vx_cwSW 3 hts gL_refuses_L_stores rfl rfl rfl (by decide +kernel) ⟨Nat.le_of_ble_eq_true rfl, Nat.le_of_ble_eq_true rfl⟩) ⟨pE_fb pW_fb, e_mk hP hK hD0 hE hS⟩ rfl rfl hl.1 rfl (lv_room (Nat.le_of_ble_eq_true rfl)) dL_refuses_112 ⟨Nat.le_of_ble_eq_true rfl, Nat.le_of_ble_eq_true rfl⟩) hP hS hA hG (fun r16 H locs qr16 hP hS hG => ?_)
  obtain rfl : r16 = (-2000000001) := qr16
  refine lv_ldc hx hb hown kw2 dL_refuses_115 ?_
  refine lv_icmp_ne (tgt := 382) hx hb dL_refuses_117 (by decide) (fun z => absurd z (by decide +kernel)) (fun _ => ?_)
  refine lv_aload_n hx hb dL_refuses_120 rfl (lv_at hl 2 rfl) ?_
  refine lv_iload_n hx hb dL_refuses_121 rfl (lv_at hl 1 rfl) ?_
  refine lv_iconst (v := 0) hx hb dL_refuses_122 (by decide) ?_
  refine g_new (vx_runSW (As := [.ref (h 0), .int 11, .int 0]) (rest := []) ⟨hx, hb, hml, hown, hts⟩ (eL_places l hlt D h cA 11 0 (by decide +kernel) H.size) (vx_cwSW 3 hts gL_refuses_L_places rfl rfl rfl (by decide +kernel) ⟨Nat.le_of_ble_eq_true rfl, Nat.le_of_ble_eq_true rfl⟩) ⟨pE_fb pW_fb, e_mk hP hK hD0 hE hS⟩ rfl rfl hl.1 rfl (lv_room (Nat.le_of_ble_eq_true rfl)) dL_refuses_123 ⟨Nat.le_of_ble_eq_true rfl, Nat.le_of_ble_eq_true rfl⟩) hP hS hA hG (fun r17 H locs qr17 hP hS hG => ?_)
  obtain rfl : r17 = (-2000000001) := qr17
  refine lv_ldc hx hb hown kw2 dL_refuses_126 ?_
  refine lv_icmp_ne (tgt := 382) hx hb dL_refuses_128 (by decide) (fun z => absurd z (by decide +kernel)) (fun _ => ?_)
  refine lv_aload_n hx hb dL_refuses_131 rfl (lv_at hl 2 rfl) ?_
  refine lv_iconst (v := -1) hx hb dL_refuses_132 (by decide) ?_
  refine lv_iconst (v := 5) hx hb dL_refuses_133 (by decide) ?_
  refine g_new (vx_runSW (As := [.ref (h 0), .int (-1), .int 5]) (rest := []) ⟨hx, hb, hml, hown, hts⟩ (eL_sets l hlt D h cA (-1) 5 (by decide +kernel) H.size) (vx_cwSW 3 hts gL_refuses_L_sets rfl rfl rfl (by decide +kernel) ⟨Nat.le_of_ble_eq_true rfl, Nat.le_of_ble_eq_true rfl⟩) ⟨pE_fb pW_fb, e_mk hP hK hD0 hE hS⟩ rfl rfl hl.1 rfl (lv_room (Nat.le_of_ble_eq_true rfl)) dL_refuses_134 ⟨Nat.le_of_ble_eq_true rfl, Nat.le_of_ble_eq_true rfl⟩) hP hS hA hG (fun r18 H locs qr18 hP hS hG => ?_)
  obtain rfl : r18 = (-2000000002) := qr18
  refine lv_ldc hx hb hown kw0 dL_refuses_137 ?_
  refine lv_icmp_ne (tgt := 382) hx hb dL_refuses_139 (by decide) (fun z => absurd z (by decide +kernel)) (fun _ => ?_)
  refine lv_aload_n hx hb dL_refuses_142 rfl (lv_at hl 2 rfl) ?_
  refine lv_sipush (v := 1001) hx hb dL_refuses_143 (by decide) ?_
  refine lv_iload_n hx hb dL_refuses_146 rfl (lv_at hl 3 rfl) ?_
  refine lv_iadd hx hb dL_refuses_147 ?_
  refine lv_topi (fun y19 ey19 => ?_)
  obtain rfl : y19 = 1012 := ey19.trans (by decide +kernel)
  refine lv_iconst (v := 5) hx hb dL_refuses_148 (by decide) ?_
  refine g_new (vx_runSW (As := [.ref (h 0), .int 1012, .int 5]) (rest := []) ⟨hx, hb, hml, hown, hts⟩ (eL_sets l hlt D h cA 1012 5 (by decide +kernel) H.size) (vx_cwSW 3 hts gL_refuses_L_sets rfl rfl rfl (by decide +kernel) ⟨Nat.le_of_ble_eq_true rfl, Nat.le_of_ble_eq_true rfl⟩) ⟨pE_fb pW_fb, e_mk hP hK hD0 hE hS⟩ rfl rfl hl.1 rfl (lv_room (Nat.le_of_ble_eq_true rfl)) dL_refuses_149 ⟨Nat.le_of_ble_eq_true rfl, Nat.le_of_ble_eq_true rfl⟩) hP hS hA hG (fun r20 H locs qr20 hP hS hG => ?_)
  obtain rfl : r20 = (-2000000002) := qr20
  refine lv_ldc hx hb hown kw0 dL_refuses_152 ?_
  refine lv_icmp_ne (tgt := 382) hx hb dL_refuses_154 (by decide) (fun z => absurd z (by decide +kernel)) (fun _ => ?_)
  refine lv_aload_n hx hb dL_refuses_157 rfl (lv_at hl 2 rfl) ?_
  refine lv_iconst (v := 5) hx hb dL_refuses_158 (by decide) ?_
  refine lv_sipush (v := 1001) hx hb dL_refuses_159 (by decide) ?_
  refine lv_iload_n hx hb dL_refuses_162 rfl (lv_at hl 3 rfl) ?_
  refine lv_iadd hx hb dL_refuses_163 ?_
  refine lv_topi (fun y21 ey21 => ?_)
  obtain rfl : y21 = 1012 := ey21.trans (by decide +kernel)
  refine g_new (vx_runSW (As := [.ref (h 0), .int 5, .int 1012]) (rest := []) ⟨hx, hb, hml, hown, hts⟩ (eL_sets l hlt D h cA 5 1012 (by decide +kernel) H.size) (vx_cwSW 3 hts gL_refuses_L_sets rfl rfl rfl (by decide +kernel) ⟨Nat.le_of_ble_eq_true rfl, Nat.le_of_ble_eq_true rfl⟩) ⟨pE_fb pW_fb, e_mk hP hK hD0 hE hS⟩ rfl rfl hl.1 rfl (lv_room (Nat.le_of_ble_eq_true rfl)) dL_refuses_164 ⟨Nat.le_of_ble_eq_true rfl, Nat.le_of_ble_eq_true rfl⟩) hP hS hA hG (fun r22 H locs qr22 hP hS hG => ?_)
  obtain rfl : r22 = (-2000000002) := qr22
  refine lv_ldc hx hb hown kw0 dL_refuses_167 ?_
  refine lv_icmp_ne (tgt := 382) hx hb dL_refuses_169 (by decide) (fun z => absurd z (by decide +kernel)) (fun _ => ?_)
  refine lv_aload_n hx hb dL_refuses_172 rfl (lv_at hl 2 rfl) ?_
  refine lv_iconst (v := 0) hx hb dL_refuses_173 (by decide) ?_
  refine g_new (vx_runSW (As := [.ref (h 0), .int 0]) (rest := []) ⟨hx, hb, hml, hown, hts⟩ (eL_drops l hlt D h cA 0 (by decide +kernel) H.size) (vx_cwSW 2 hts gL_refuses_L_drops rfl rfl rfl (by decide +kernel) ⟨Nat.le_of_ble_eq_true rfl, Nat.le_of_ble_eq_true rfl⟩) ⟨pE_fb pW_fb, e_mk hP hK hD0 hE hS⟩ rfl rfl hl.1 rfl (lv_room (Nat.le_of_ble_eq_true rfl)) dL_refuses_174 ⟨Nat.le_of_ble_eq_true rfl, Nat.le_of_ble_eq_true rfl⟩) hP hS hA hG (fun r23 H locs qr23 hP hS hG => ?_)
  obtain rfl : r23 = (-2000000002) := qr23
  refine lv_ldc hx hb hown kw0 dL_refuses_177 ?_
  refine lv_icmp_ne (tgt := 382) hx hb dL_refuses_179 (by decide) (fun z => absurd z (by decide +kernel)) (fun _ => ?_)
  refine lv_aload_n hx hb dL_refuses_182 rfl (lv_at hl 2 rfl) ?_
  refine lv_iload_n hx hb dL_refuses_183 rfl (lv_at hl 3 rfl) ?_
  refine lv_ineg hx hb dL_refuses_184 ?_
  refine lv_topi (fun y24 ey24 => ?_)
  obtain rfl : y24 = (-11) := ey24.trans (by decide +kernel)
  refine g_new (vx_runSW (As := [.ref (h 0), .int (-11)]) (rest := []) ⟨hx, hb, hml, hown, hts⟩ (eL_drops l hlt D h cA (-11) (by decide +kernel) H.size) (vx_cwSW 2 hts gL_refuses_L_drops rfl rfl rfl (by decide +kernel) ⟨Nat.le_of_ble_eq_true rfl, Nat.le_of_ble_eq_true rfl⟩) ⟨pE_fb pW_fb, e_mk hP hK hD0 hE hS⟩ rfl rfl hl.1 rfl (lv_room (Nat.le_of_ble_eq_true rfl)) dL_refuses_185 ⟨Nat.le_of_ble_eq_true rfl, Nat.le_of_ble_eq_true rfl⟩) hP hS hA hG (fun r25 H locs qr25 hP hS hG => ?_)
  obtain rfl : r25 = (-2000000002) := qr25
  refine lv_ldc hx hb hown kw0 dL_refuses_188 ?_
  refine lv_icmp_ne (tgt := 382) hx hb dL_refuses_190 (by decide) (fun z => absurd z (by decide +kernel)) (fun _ => ?_)
  refine lv_aload_n hx hb dL_refuses_193 rfl (lv_at hl 2 rfl) ?_
  refine lv_sipush (v := 1001) hx hb dL_refuses_194 (by decide) ?_
  refine g_new (vx_runSW (As := [.ref (h 0), .int 1001]) (rest := []) ⟨hx, hb, hml, hown, hts⟩ (eL_drops l hlt D h cA 1001 (by decide +kernel) H.size) (vx_cwSW 2 hts gL_refuses_L_drops rfl rfl rfl (by decide +kernel) ⟨Nat.le_of_ble_eq_true rfl, Nat.le_of_ble_eq_true rfl⟩) ⟨pE_fb pW_fb, e_mk hP hK hD0 hE hS⟩ rfl rfl hl.1 rfl (lv_room (Nat.le_of_ble_eq_true rfl)) dL_refuses_197 ⟨Nat.le_of_ble_eq_true rfl, Nat.le_of_ble_eq_true rfl⟩) hP hS hA hG (fun r26 H locs qr26 hP hS hG => ?_)
  obtain rfl : r26 = (-2000000002) := qr26
  refine lv_ldc hx hb hown kw0 dL_refuses_200 ?_
  refine lv_icmp_ne (tgt := 382) hx hb dL_refuses_202 (by decide) (fun z => absurd z (by decide +kernel)) (fun _ => ?_)
  refine lv_aload_n hx hb dL_refuses_205 rfl (lv_at hl 2 rfl) ?_
  refine lv_iload_n hx hb dL_refuses_206 rfl (lv_at hl 0 rfl) ?_
  refine g_new (vx_runSW (As := [.ref (h 0), .int 11]) (rest := []) ⟨hx, hb, hml, hown, hts⟩ (eL_pays l hlt D h cA 11 (by decide +kernel) H.size) (vx_cwSW 2 hts gL_refuses_L_pays rfl rfl rfl (by decide +kernel) ⟨Nat.le_of_ble_eq_true rfl, Nat.le_of_ble_eq_true rfl⟩) ⟨pE_fb pW_fb, e_mk hP hK hD0 hE hS⟩ rfl rfl hl.1 rfl (lv_room (Nat.le_of_ble_eq_true rfl)) dL_refuses_207 ⟨Nat.le_of_ble_eq_true rfl, Nat.le_of_ble_eq_true rfl⟩) hP hS hA hG (fun r27 H locs qr27 hP hS hG => ?_)
  obtain rfl : r27 = (-2000000001) := qr27
  refine lv_ldc hx hb hown kw2 dL_refuses_210 ?_
  refine lv_icmp_ne (tgt := 382) hx hb dL_refuses_212 (by decide) (fun z => absurd z (by decide +kernel)) (fun _ => ?_)
  refine lv_aload_n hx hb dL_refuses_215 rfl (lv_at hl 2 rfl) ?_
  refine lv_iload_n hx hb dL_refuses_216 rfl (lv_at hl 0 rfl) ?_
  refine g_new (vx_runSW (As := [.ref (h 0), .int 11]) (rest := []) ⟨hx, hb, hml, hown, hts⟩ (eL_waives l hlt D h cA 11 (by decide +kernel) H.size) (vx_cwSW 2 hts gL_refuses_L_waives rfl rfl rfl (by decide +kernel) ⟨Nat.le_of_ble_eq_true rfl, Nat.le_of_ble_eq_true rfl⟩) ⟨pE_fb pW_fb, e_mk hP hK hD0 hE hS⟩ rfl rfl hl.1 rfl (lv_room (Nat.le_of_ble_eq_true rfl)) dL_refuses_217 ⟨Nat.le_of_ble_eq_true rfl, Nat.le_of_ble_eq_true rfl⟩) hP hS hA hG (fun r28 H locs qr28 hP hS hG => ?_)
  obtain rfl : r28 = (-2000000001) := qr28
  refine lv_ldc hx hb hown kw2 dL_refuses_220 ?_
  refine lv_icmp_ne (tgt := 382) hx hb dL_refuses_222 (by decide) (fun z => absurd z (by decide +kernel)) (fun _ => ?_)
  refine lv_aload_n hx hb dL_refuses_225 rfl (lv_at hl 2 rfl) ?_
  refine lv_iload_n hx hb dL_refuses_226 rfl (lv_at hl 0 rfl) ?_
  refine g_new (vx_runSW (As := [.ref (h 0), .int 11]) (rest := []) ⟨hx, hb, hml, hown, hts⟩ (eL_state l hlt D h cA 11 (by decide +kernel) H.size) (vx_cwSW 2 hts gL_refuses_L_state rfl rfl rfl (by decide +kernel) ⟨Nat.le_of_ble_eq_true rfl, Nat.le_of_ble_eq_true rfl⟩) ⟨pE_fb pW_fb, e_mk hP hK hD0 hE hS⟩ rfl rfl hl.1 rfl (lv_room (Nat.le_of_ble_eq_true rfl)) dL_refuses_227 ⟨Nat.le_of_ble_eq_true rfl, Nat.le_of_ble_eq_true rfl⟩) hP hS hA hG (fun r29 H locs qr29 hP hS hG => ?_)
  obtain rfl : r29 = (-2000000001) := qr29
  refine lv_ldc hx hb hown kw2 dL_refuses_230 ?_
  refine lv_icmp_ne (tgt := 382) hx hb dL_refuses_232 (by decide) (fun z => absurd z (by decide +kernel)) (fun _ => ?_)
  refine lv_aload_n hx hb dL_refuses_235 rfl (lv_at hl 2 rfl) ?_
  refine lv_iload_n hx hb dL_refuses_236 rfl (lv_at hl 0 rfl) ?_
  refine g_new (vx_runSW (As := [.ref (h 0), .int 11]) (rest := []) ⟨hx, hb, hml, hown, hts⟩ (eL_amount l hlt D h cA 11 (by decide +kernel) H.size) (vx_cwSW 2 hts gL_refuses_L_amount rfl rfl rfl (by decide +kernel) ⟨Nat.le_of_ble_eq_true rfl, Nat.le_of_ble_eq_true rfl⟩) ⟨pE_fb pW_fb, e_mk hP hK hD0 hE hS⟩ rfl rfl hl.1 rfl (lv_room (Nat.le_of_ble_eq_true rfl)) dL_refuses_237 ⟨Nat.le_of_ble_eq_true rfl, Nat.le_of_ble_eq_true rfl⟩) hP hS hA hG (fun r30 H locs qr30 hP hS hG => ?_)
  obtain rfl : r30 = (-2000000001) := qr30
  refine lv_ldc hx hb hown kw2 dL_refuses_240 ?_
  refine lv_icmp_ne (tgt := 382) hx hb dL_refuses_242 (by decide) (fun z => absurd z (by decide +kernel)) (fun _ => ?_)
  refine lv_aload_n hx hb dL_refuses_245 rfl (lv_at hl 2 rfl) ?_
  refine lv_iload_n hx hb dL_refuses_246 rfl (lv_at hl 0 rfl) ?_
  refine g_new (vx_runSW (As := [.ref (h 0), .int 11]) (rest := []) ⟨hx, hb, hml, hown, hts⟩ (eL_billedBehind l hlt D h cA 11 (by decide +kernel) H.size) (vx_cwSW 2 hts gL_refuses_L_billedBehind rfl rfl rfl (by decide +kernel) ⟨Nat.le_of_ble_eq_true rfl, Nat.le_of_ble_eq_true rfl⟩) ⟨pE_fb pW_fb, e_mk hP hK hD0 hE hS⟩ rfl rfl hl.1 rfl (lv_room (Nat.le_of_ble_eq_true rfl)) dL_refuses_247 ⟨Nat.le_of_ble_eq_true rfl, Nat.le_of_ble_eq_true rfl⟩) hP hS hA hG (fun r31 H locs qr31 hP hS hG => ?_)
  obtain rfl : r31 = (-2000000001) := qr31
  refine lv_ldc hx hb hown kw2 dL_refuses_250 ?_
  refine lv_icmp_ne (tgt := 382) hx hb dL_refuses_252 (by decide) (fun z => absurd z (by decide +kernel)) (fun _ => ?_)
  refine lv_aload_n hx hb dL_refuses_255 rfl (lv_at hl 2 rfl) ?_
  refine lv_iload_n hx hb dL_refuses_256 rfl (lv_at hl 0 rfl) ?_
  refine g_new (vx_runSW (As := [.ref (h 0), .int 11]) (rest := []) ⟨hx, hb, hml, hown, hts⟩ (eL_heldBehind l hlt D h cA 11 (by decide +kernel) H.size) (vx_cwSW 2 hts gL_refuses_L_heldBehind rfl rfl rfl (by decide +kernel) ⟨Nat.le_of_ble_eq_true rfl, Nat.le_of_ble_eq_true rfl⟩) ⟨pE_fb pW_fb, e_mk hP hK hD0 hE hS⟩ rfl rfl hl.1 rfl (lv_room (Nat.le_of_ble_eq_true rfl)) dL_refuses_257 ⟨Nat.le_of_ble_eq_true rfl, Nat.le_of_ble_eq_true rfl⟩) hP hS hA hG (fun r32 H locs qr32 hP hS hG => ?_)
  obtain rfl : r32 = (-2000000001) := qr32
  refine lv_ldc hx hb hown kw2 dL_refuses_260 ?_
  refine lv_icmp_ne (tgt := 382) hx hb dL_refuses_262 (by decide) (fun z => absurd z (by decide +kernel)) (fun _ => ?_)
  refine lv_aload_n hx hb dL_refuses_265 rfl (lv_at hl 2 rfl) ?_
  refine lv_iload_n hx hb dL_refuses_266 rfl (lv_at hl 1 rfl) ?_
  refine g_new (vx_runSW (As := [.ref (h 0), .int 11]) (rest := []) ⟨hx, hb, hml, hown, hts⟩ (eL_value l hlt D h cA 11 (by decide +kernel) H.size) (vx_cwSW 2 hts gL_refuses_L_value rfl rfl rfl (by decide +kernel) ⟨Nat.le_of_ble_eq_true rfl, Nat.le_of_ble_eq_true rfl⟩) ⟨pE_fb pW_fb, e_mk hP hK hD0 hE hS⟩ rfl rfl hl.1 rfl (lv_room (Nat.le_of_ble_eq_true rfl)) dL_refuses_267 ⟨Nat.le_of_ble_eq_true rfl, Nat.le_of_ble_eq_true rfl⟩) hP hS hA hG (fun r33 H locs qr33 hP hS hG => ?_)
  obtain rfl : r33 = (-2000000001) := qr33
  refine lv_ldc hx hb hown kw2 dL_refuses_270 ?_
  refine lv_icmp_ne (tgt := 382) hx hb dL_refuses_272 (by decide) (fun z => absurd z (by decide +kernel)) (fun _ => ?_)
  refine lv_aload_n hx hb dL_refuses_275 rfl (lv_at hl 2 rfl) ?_
  refine lv_iload_n hx hb dL_refuses_276 rfl (lv_at hl 1 rfl) ?_
  refine g_new (vx_runSW (As := [.ref (h 0), .int 11]) (rest := []) ⟨hx, hb, hml, hown, hts⟩ (eL_work l hlt D h cA 11 (by decide +kernel) H.size) (vx_cwSW 2 hts gL_refuses_L_work rfl rfl rfl (by decide +kernel) ⟨Nat.le_of_ble_eq_true rfl, Nat.le_of_ble_eq_true rfl⟩) ⟨pE_fb pW_fb, e_mk hP hK hD0 hE hS⟩ rfl rfl hl.1 rfl (lv_room (Nat.le_of_ble_eq_true rfl)) dL_refuses_277 ⟨Nat.le_of_ble_eq_true rfl, Nat.le_of_ble_eq_true rfl⟩) hP hS hA hG (fun r34 H locs qr34 hP hS hG => ?_)
  obtain rfl : r34 = (-2000000001) := qr34
  refine lv_ldc hx hb hown kw2 dL_refuses_280 ?_
  refine lv_icmp_ne (tgt := 382) hx hb dL_refuses_282 (by decide) (fun z => absurd z (by decide +kernel)) (fun _ => ?_)
  refine lv_aload_n hx hb dL_refuses_285 rfl (lv_at hl 2 rfl) ?_
  refine lv_iload_n hx hb dL_refuses_286 rfl (lv_at hl 1 rfl) ?_
  refine g_new (vx_runSW (As := [.ref (h 0), .int 11]) (rest := []) ⟨hx, hb, hml, hown, hts⟩ (eL_goods l hlt D h cA 11 (by decide +kernel) H.size) (vx_cwSW 2 hts gL_refuses_L_goods rfl rfl rfl (by decide +kernel) ⟨Nat.le_of_ble_eq_true rfl, Nat.le_of_ble_eq_true rfl⟩) ⟨pE_fb pW_fb, e_mk hP hK hD0 hE hS⟩ rfl rfl hl.1 rfl (lv_room (Nat.le_of_ble_eq_true rfl)) dL_refuses_287 ⟨Nat.le_of_ble_eq_true rfl, Nat.le_of_ble_eq_true rfl⟩) hP hS hA hG (fun r35 H locs qr35 hP hS hG => ?_)
  obtain rfl : r35 = (-2000000001) := qr35
  refine lv_ldc hx hb hown kw2 dL_refuses_290 ?_
  refine lv_icmp_ne (tgt := 382) hx hb dL_refuses_292 (by decide) (fun z => absurd z (by decide +kernel)) (fun _ => ?_)
  refine lv_aload_n hx hb dL_refuses_295 rfl (lv_at hl 2 rfl) ?_
  refine lv_iload_n hx hb dL_refuses_296 rfl (lv_at hl 1 rfl) ?_
  refine g_new (vx_runSW (As := [.ref (h 0), .int 11]) (rest := []) ⟨hx, hb, hml, hown, hts⟩ (eL_billed l hlt D h cA 11 (by decide +kernel) H.size) (vx_cwSW 2 hts gL_refuses_L_billed rfl rfl rfl (by decide +kernel) ⟨Nat.le_of_ble_eq_true rfl, Nat.le_of_ble_eq_true rfl⟩) ⟨pE_fb pW_fb, e_mk hP hK hD0 hE hS⟩ rfl rfl hl.1 rfl (lv_room (Nat.le_of_ble_eq_true rfl)) dL_refuses_297 ⟨Nat.le_of_ble_eq_true rfl, Nat.le_of_ble_eq_true rfl⟩) hP hS hA hG (fun r36 H locs qr36 hP hS hG => ?_)
  obtain rfl : r36 = (-2000000001) := qr36
  refine lv_ldc hx hb hown kw2 dL_refuses_300 ?_
  refine lv_icmp_ne (tgt := 382) hx hb dL_refuses_302 (by decide) (fun z => absurd z (by decide +kernel)) (fun _ => ?_)
  refine lv_aload_n hx hb dL_refuses_305 rfl (lv_at hl 2 rfl) ?_
  refine lv_iload_n hx hb dL_refuses_306 rfl (lv_at hl 1 rfl) ?_
  refine g_new (vx_runSW (As := [.ref (h 0), .int 11]) (rest := []) ⟨hx, hb, hml, hown, hts⟩ (eL_held l hlt D h cA 11 (by decide +kernel) H.size) (vx_cwSW 2 hts gL_refuses_L_held rfl rfl rfl (by decide +kernel) ⟨Nat.le_of_ble_eq_true rfl, Nat.le_of_ble_eq_true rfl⟩) ⟨pE_fb pW_fb, e_mk hP hK hD0 hE hS⟩ rfl rfl hl.1 rfl (lv_room (Nat.le_of_ble_eq_true rfl)) dL_refuses_307 ⟨Nat.le_of_ble_eq_true rfl, Nat.le_of_ble_eq_true rfl⟩) hP hS hA hG (fun r37 H locs qr37 hP hS hG => ?_)
  obtain rfl : r37 = (-2000000001) := qr37
  refine lv_ldc hx hb hown kw2 dL_refuses_310 ?_
  refine lv_icmp_ne (tgt := 382) hx hb dL_refuses_312 (by decide) (fun z => absurd z (by decide +kernel)) (fun _ => ?_)
  refine lv_aload_n hx hb dL_refuses_315 rfl (lv_at hl 2 rfl) ?_
  refine lv_iload_n hx hb dL_refuses_316 rfl (lv_at hl 1 rfl) ?_
  refine g_new (vx_runSW (As := [.ref (h 0), .int 11]) (rest := []) ⟨hx, hb, hml, hown, hts⟩ (eL_byShare l hlt D h cA 11 (by decide +kernel) H.size) (vx_cwSW 2 hts gL_refuses_L_byShare rfl rfl rfl (by decide +kernel) ⟨Nat.le_of_ble_eq_true rfl, Nat.le_of_ble_eq_true rfl⟩) ⟨pE_fb pW_fb, e_mk hP hK hD0 hE hS⟩ rfl rfl hl.1 rfl (lv_room (Nat.le_of_ble_eq_true rfl)) dL_refuses_317 ⟨Nat.le_of_ble_eq_true rfl, Nat.le_of_ble_eq_true rfl⟩) hP hS hA hG (fun r38 H locs qr38 hP hS hG => ?_)
  obtain rfl : r38 = (-2000000001) := qr38
  refine lv_ldc hx hb hown kw2 dL_refuses_320 ?_
  refine lv_icmp_ne (tgt := 382) hx hb dL_refuses_322 (by decide) (fun z => absurd z (by decide +kernel)) (fun _ => ?_)
  refine lv_aload_n hx hb dL_refuses_325 rfl (lv_at hl 2 rfl) ?_
  refine vp_callSi (W.runV (As := []) (rest := []) ⟨hx, hb, hml, hown, hts⟩ (c0_lines l D h cA M0 ok0) (cwV 0 hts gL_refuses_X0_lines rfl rfl rfl (by decide +kernel) ⟨Nat.le_of_ble_eq_true rfl, Nat.le_of_ble_eq_true rfl⟩) ⟨pR_fb, va_recv hK hP (ci := 0) (q0 := 0) rfl rfl, pR_mk hP hK⟩ rfl rfl hl.1 rfl (lv_room (Nat.le_of_ble_eq_true rfl)) dL_refuses_326 ⟨Nat.le_of_ble_eq_true rfl, Nat.le_of_ble_eq_true rfl⟩) (fun r39 qr39 => ?_)
  obtain rfl : r39 = 0 := qr39.trans (by decide +kernel)
  refine lv_if_gt (tgt := 341) hx hb dL_refuses_329 (by decide) (fun z => absurd z (by decide +kernel)) (fun _ => ?_)
  refine lv_aload_n hx hb dL_refuses_332 rfl (lv_at hl 2 rfl) ?_
  refine g_new (vx_runSW (As := [.ref (h 0)]) (rest := []) ⟨hx, hb, hml, hown, hts⟩ (eL_closes l hlt D h cA (by decide +kernel) H.size) (vx_cwSW 1 hts gL_refuses_L_closes rfl rfl rfl (by decide +kernel) ⟨Nat.le_of_ble_eq_true rfl, Nat.le_of_ble_eq_true rfl⟩) ⟨pE_fb pW_fb, e_mk hP hK hD0 hE hS⟩ rfl rfl hl.1 rfl (lv_room (Nat.le_of_ble_eq_true rfl)) dL_refuses_333 ⟨Nat.le_of_ble_eq_true rfl, Nat.le_of_ble_eq_true rfl⟩) hP hS hA hG (fun r40 H locs qr40 hP hS hG => ?_)
  obtain rfl : r40 = (-2000000003) := qr40
  refine lv_ldc hx hb hown kw3 dL_refuses_336 ?_
  refine lv_icmp_ne (tgt := 382) hx hb dL_refuses_338 (by decide) (fun z => absurd z (by decide +kernel)) (fun _ => ?_)
  refine lv_aload_n hx hb dL_refuses_341 rfl (lv_at hl 2 rfl) ?_
  refine vp_callSi (W.runV (As := []) (rest := []) ⟨hx, hb, hml, hown, hts⟩ (c0_lines l D h cA M0 ok0) (cwV 0 hts gL_refuses_X0_lines rfl rfl rfl (by decide +kernel) ⟨Nat.le_of_ble_eq_true rfl, Nat.le_of_ble_eq_true rfl⟩) ⟨pR_fb, va_recv hK hP (ci := 0) (q0 := 0) rfl rfl, pR_mk hP hK⟩ rfl rfl hl.1 rfl (lv_room (Nat.le_of_ble_eq_true rfl)) dL_refuses_342 ⟨Nat.le_of_ble_eq_true rfl, Nat.le_of_ble_eq_true rfl⟩) (fun r41 qr41 => ?_)
  obtain rfl : r41 = 0 := qr41.trans (by decide +kernel)
  refine lv_bipush (v := 16) hx hb dL_refuses_345 (by decide) ?_
  refine lv_icmp_lt (tgt := 360) hx hb dL_refuses_347 (by decide) (fun _ => ?_) (fun z => absurd z (by decide +kernel))
  refine lv_aload_n hx hb dL_refuses_360 rfl (lv_at hl 2 rfl) ?_
  refine vp_callSi (W.runV (As := []) (rest := []) ⟨hx, hb, hml, hown, hts⟩ (c0_applications l D h cA M0 ok0) (cwV 0 hts gL_refuses_X0_applications rfl rfl rfl (by decide +kernel) ⟨Nat.le_of_ble_eq_true rfl, Nat.le_of_ble_eq_true rfl⟩) ⟨pR_fb, va_recv hK hP (ci := 0) (q0 := 0) rfl rfl, pR_mk hP hK⟩ rfl rfl hl.1 rfl (lv_room (Nat.le_of_ble_eq_true rfl)) dL_refuses_361 ⟨Nat.le_of_ble_eq_true rfl, Nat.le_of_ble_eq_true rfl⟩) (fun r42 qr42 => ?_)
  obtain rfl : r42 = 0 := qr42.trans (by decide +kernel)
  refine lv_bipush (v := 60) hx hb dL_refuses_364 (by decide) ?_
  refine lv_icmp_lt (tgt := 378) hx hb dL_refuses_366 (by decide) (fun _ => ?_) (fun z => absurd z (by decide +kernel))
  refine lv_iconst (v := 1) hx hb dL_refuses_378 (by decide) ?_
  refine lv_goto (tgt := 383) hx hb dL_refuses_379 (by decide) ?_
  refine lv_istore (lv' := [(4, .int 1), (3, .int 11), (2, .int 11), (0, .ref (h 0)), (1, .int 11)]) hx hb dL_refuses_383 hl (by decide) rfl (fun ls hl => ?_)
  refine lv_iload hx hb dL_refuses_385 (lv_at hl 0 rfl) ?_
  refine lv_if_eq (tgt := 607) hx hb dL_refuses_387 (by decide) (fun z => absurd z (by decide +kernel)) (fun _ => ?_)
  refine lv_aload_n hx hb dL_refuses_390 rfl (lv_at hl 3 rfl) ?_
  refine vp_callSi (W.runV (As := []) (rest := []) ⟨hx, hb, hml, hown, hts⟩ (c0_lines l D h cA M0 ok0) (cwV 0 hts gL_refuses_X0_lines rfl rfl rfl (by decide +kernel) ⟨Nat.le_of_ble_eq_true rfl, Nat.le_of_ble_eq_true rfl⟩) ⟨pR_fb, va_recv hK hP (ci := 0) (q0 := 0) rfl rfl, pR_mk hP hK⟩ rfl rfl hl.1 rfl (lv_room (Nat.le_of_ble_eq_true rfl)) dL_refuses_391 ⟨Nat.le_of_ble_eq_true rfl, Nat.le_of_ble_eq_true rfl⟩) (fun r43 qr43 => ?_)
  obtain rfl : r43 = 0 := qr43.trans (by decide +kernel)
  refine lv_if_le (tgt := 607) hx hb dL_refuses_394 (by decide) (fun _ => ?_) (fun z => absurd z (by decide +kernel))
  refine lv_iconst (v := 0) hx hb dL_refuses_607 (by decide) ?_
  refine lv_istore (lv' := [(5, .int 0), (4, .int 1), (3, .int 11), (2, .int 11), (0, .ref (h 0)), (1, .int 11)]) hx hb dL_refuses_608 hl (by decide) rfl (fun ls hl => ?_)
  refine lv_iload hx hb dL_refuses_610 (lv_at hl 0 rfl) ?_
  refine lv_aload_n hx hb dL_refuses_612 rfl (lv_at hl 4 rfl) ?_
  refine vp_callSi (W.runV (As := []) (rest := [.int 0]) ⟨hx, hb, hml, hown, hts⟩ (c0_applications l D h cA M0 ok0) (cwV 0 hts gL_refuses_X0_applications rfl rfl rfl (by decide +kernel) ⟨Nat.le_of_ble_eq_true rfl, Nat.le_of_ble_eq_true rfl⟩) ⟨pR_fb, va_recv hK hP (ci := 0) (q0 := 0) rfl rfl, pR_mk hP hK⟩ rfl rfl hl.1 rfl (lv_room (Nat.le_of_ble_eq_true rfl)) dL_refuses_613 ⟨Nat.le_of_ble_eq_true rfl, Nat.le_of_ble_eq_true rfl⟩) (fun r44 qr44 => ?_)
  obtain rfl : r44 = 0 := qr44.trans (by decide +kernel)
  refine lv_icmp_ge (tgt := 706) hx hb dL_refuses_616 (by decide) (fun _ => ?_) (fun z => absurd z (by decide +kernel))
  refine lv_iload hx hb dL_refuses_706 (lv_at hl 1 rfl) ?_
  subst hQ
  refine W.widen (k := 26) (n := 156) (Nat.le_of_ble_eq_true rfl) (Nat.le_of_ble_eq_true rfl) ?_
  exact W.zret (v := 1) (ty := .boolean) hx hb hr rfl (fun t ht hW => ⟨⟨1, (), rfl, rfl, by unfold tN; rw [ht]; omega⟩, hS.F ht⟩) hS.2.2 dL_refuses_708
set_option maxHeartbeats 4000000 in
set_option maxRecDepth 100000 in
theorem eL_act (l : Launch) (hlt : l.stackTraces = false) (D : va_G) (h : Nat → Nat) (cA : ClassId) (sz : Nat) : Met l yL_act wsL_act ({ frames := 8, cells := 1, slots := 6, locals := 155 } : Room) (va_Pc [.ref (h 0), .int 11] (fun U => pW D [(cA, .int)] (w0 h cA M0) sz U ∧ x_En U)) (va_Qi (fun (r : Int32) (_ : Unit) => r = (-2000000003)) (tN sz 1) (va_A [] sz)) 1 6 (va_A [] sz) := by
  refine Met.ofW (cc := cL_act) (maxL := 5) (ret := (some .int)) (by decide) rfl ?_
  intro p e s m args below meth c s₁ B hml hv
  obtain ⟨rfl, ⟨hsz, hP, hK, hD0⟩, hE⟩ := hv
  have hx := B.exec
  have hb := B.bytes
  have hr := B.returns
  have hts := atoms_spec (ws := wsL_act) B.pre
  have hown : s.vm.findClass RL = some m.cls := findClass_of_methodNamed B.named
  subst hsz
  have hA : ∀ q : Nat, s.heap.size ≤ q → va_A ([] : va_W) s.heap.size q := fun q h => Or.inr h
  have hS : va_S (va_A [] s.heap.size) s.heap s.heap [] := va_S.rf
  have hG : s.heap.size + 0 ≤ s.heap.size := Nat.le_refl _
  have hP : va_P D vwCl (w0 h cA M0) s.heap := hP
  have hl := lv_entry ([.ref (h 0), .int 11]) (n := 5) (Nat.le_of_ble_eq_true rfl)
  rw [lg_entry_eq]
  generalize (lg_sl ([.ref (h 0), .int 11]) ++ List.replicate (5 - (lg_sl ([.ref (h 0), .int 11])).length) Slot.unset).toArray = ls at hl ⊢
  have hl : lv_has ls 5 [(0, .ref (h 0)), (1, .int 11)] := hl
  refine w_abs (fun Q hQ => ?_)
  refine lv_iload_n hx hb dL_act_0 rfl (lv_at hl 1 rfl) ?_
  refine lv_bipush (v := 16) hx hb dL_act_1 (by decide) ?_
  refine lv_idiv hx hb dL_act_3 (by decide) ?_
  refine lv_topi (fun y1 ey1 => ?_)
  obtain rfl : y1 = 0 := ey1.trans (by decide +kernel)
  refine lv_istore_n (lv' := [(2, .int 0), (0, .ref (h 0)), (1, .int 11)]) hx hb dL_act_4 rfl hl (by decide) rfl (fun ls hl => ?_)
  refine lv_aload_n hx hb dL_act_5 rfl (lv_at hl 1 rfl) ?_
  refine vp_callSi (W.runV (As := []) (rest := []) ⟨hx, hb, hml, hown, hts⟩ (c0_lines l D h cA M0 ok0) (cwV 0 hts gL_act_X0_lines rfl rfl rfl (by decide +kernel) ⟨Nat.le_of_ble_eq_true rfl, Nat.le_of_ble_eq_true rfl⟩) ⟨pR_fb, va_recv hK hP (ci := 0) (q0 := 0) rfl rfl, pR_mk hP hK⟩ rfl rfl hl.1 rfl (lv_room (Nat.le_of_ble_eq_true rfl)) dL_act_6 ⟨Nat.le_of_ble_eq_true rfl, Nat.le_of_ble_eq_true rfl⟩) (fun r2 qr2 => ?_)
  obtain rfl : r2 = 0 := qr2.trans (by decide +kernel)
  refine lv_if_ne (tgt := 16) hx hb dL_act_9 (by decide) (fun z => absurd z (by decide +kernel)) (fun _ => ?_)
  refine lv_iconst (v := 0) hx hb dL_act_12 (by decide) ?_
  refine lv_goto (tgt := 22) hx hb dL_act_13 (by decide) ?_
  refine lv_istore_n (lv' := [(3, .int 0), (2, .int 0), (0, .ref (h 0)), (1, .int 11)]) hx hb dL_act_22 rfl hl (by decide) rfl (fun ls hl => ?_)
  refine lv_aload_n hx hb dL_act_23 rfl (lv_at hl 2 rfl) ?_
  refine vp_callSi (W.runV (As := []) (rest := []) ⟨hx, hb, hml, hown, hts⟩ (c0_lines l D h cA M0 ok0) (cwV 0 hts gL_act_X0_lines rfl rfl rfl (by decide +kernel) ⟨Nat.le_of_ble_eq_true rfl, Nat.le_of_ble_eq_true rfl⟩) ⟨pR_fb, va_recv hK hP (ci := 0) (q0 := 0) rfl rfl, pR_mk hP hK⟩ rfl rfl hl.1 rfl (lv_room (Nat.le_of_ble_eq_true rfl)) dL_act_24 ⟨Nat.le_of_ble_eq_true rfl, Nat.le_of_ble_eq_true rfl⟩) (fun r3 qr3 => ?_)
  obtain rfl : r3 = 0 := qr3.trans (by decide +kernel)
  refine lv_if_ne (tgt := 34) hx hb dL_act_27 (by decide) (fun z => absurd z (by decide +kernel)) (fun _ => ?_)
  refine lv_iconst (v := 0) hx hb dL_act_30 (by decide) ?_
  refine lv_goto (tgt := 39) hx hb dL_act_31 (by decide) ?_
  refine lv_istore (lv' := [(4, .int 0), (3, .int 0), (2, .int 0), (0, .ref (h 0)), (1, .int 11)]) hx hb dL_act_39 hl (by decide) rfl (fun ls hl => ?_)
  refine lv_iload_n hx hb dL_act_41 rfl (lv_at hl 4 rfl) ?_
  refine lv_bipush (v := 16) hx hb dL_act_42 (by decide) ?_
  refine lv_irem hx hb dL_act_44 (by decide) ?_
  refine lv_topi (fun y4 ey4 => ?_)
  obtain rfl : y4 = 11 := ey4.trans (by decide +kernel)
  refine lv_tableIn (x := 11) (off := 221) (tgt := 266) hx hb dL_act_45 (by decide) (by decide) (by decide) (by decide) ?_
  refine lv_aload_n hx hb dL_act_266 rfl (lv_at hl 3 rfl) ?_
  refine g_new (vx_runSW (As := [.ref (h 0)]) (rest := []) ⟨hx, hb, hml, hown, hts⟩ (eL_closes l hlt D h cA (by decide +kernel) s.heap.size) (vx_cwSW 1 hts gL_act_L_closes rfl rfl rfl (by decide +kernel) ⟨Nat.le_of_ble_eq_true rfl, Nat.le_of_ble_eq_true rfl⟩) ⟨pE_fb pW_fb, e_mk hP hK hD0 hE hS⟩ rfl rfl hl.1 rfl (lv_room (Nat.le_of_ble_eq_true rfl)) dL_act_267 ⟨Nat.le_of_ble_eq_true rfl, Nat.le_of_ble_eq_true rfl⟩) hP hS hA hG (fun r5 H locs qr5 hP hS hG => ?_)
  obtain rfl : r5 = (-2000000003) := qr5
  subst hQ
  refine W.widen (k := 1) (n := 6) (Nat.le_of_ble_eq_true rfl) (Nat.le_of_ble_eq_true rfl) ?_
  exact W.iret (v := (-2000000003)) hx hb hr (fun t ht hW => ⟨⟨(-2000000003), (), rfl, rfl, by unfold tN; rw [ht]; omega⟩, hS.F ht⟩) hS.2.2 dL_act_270
set_option maxHeartbeats 4000000 in
set_option maxRecDepth 100000 in
theorem eL_alike (l : Launch) (D : va_G) (h1 h2 : Nat → Nat) (cA : ClassId) : Met l yL_alike wsL_alike ({ frames := 4, cells := 0, slots := 0, locals := 90 } : Room) (va_Pc [.ref (h1 0), .ref (h2 0)] (pR D [(cA, .int)] (w0 h1 cA M0 ++ w0 h2 cA M0))) (vp_Si (fun r : Int32 => r = 1)) 0 0 (fun _ => False) := by
  refine Met.ofW (cc := cL_alike) (maxL := 7) (ret := (some .boolean)) (by decide) rfl ?_
  intro p e s m args below meth c s₁ B hml hv
  obtain ⟨rfl, hP, hK⟩ := hv
  have hx := B.exec
  have hb := B.bytes
  have hr := B.returns
  have hts := atoms_spec (ws := wsL_alike) B.pre
  have hown : s.vm.findClass RL = some m.cls := findClass_of_methodNamed B.named
  have hl := lv_entry ([.ref (h1 0), .ref (h2 0)]) (n := 7) (Nat.le_of_ble_eq_true rfl)
  rw [lg_entry_eq]
  generalize (lg_sl ([.ref (h1 0), .ref (h2 0)]) ++ List.replicate (7 - (lg_sl ([.ref (h1 0), .ref (h2 0)])).length) Slot.unset).toArray = ls at hl ⊢
  have hl : lv_has ls 7 [(0, .ref (h1 0)), (1, .ref (h2 0))] := hl
  refine w_abs (fun Q hQ => ?_)
  refine lv_iconst (v := 0) hx hb dL_alike_0 (by decide) ?_
  refine lv_istore_n (lv' := [(2, .int 0), (0, .ref (h1 0)), (1, .ref (h2 0))]) hx hb dL_alike_1 rfl hl (by decide) rfl (fun ls hl => ?_)
  refine lv_iconst (v := 0) hx hb dL_alike_2 (by decide) ?_
  refine lv_istore_n (lv' := [(3, .int 0), (2, .int 0), (0, .ref (h1 0)), (1, .ref (h2 0))]) hx hb dL_alike_3 rfl hl (by decide) rfl (fun ls hl => ?_)
  refine lv_iconst (v := 0) hx hb dL_alike_4 (by decide) ?_
  refine lv_istore (lv' := [(4, .int 0), (3, .int 0), (2, .int 0), (0, .ref (h1 0)), (1, .ref (h2 0))]) hx hb dL_alike_5 hl (by decide) rfl (fun ls hl => ?_)
  refine lv_iconst (v := 0) hx hb dL_alike_7 (by decide) ?_
  refine lv_istore (lv' := [(5, .int 0), (4, .int 0), (3, .int 0), (2, .int 0), (0, .ref (h1 0)), (1, .ref (h2 0))]) hx hb dL_alike_8 hl (by decide) rfl (fun ls hl => ?_)
  refine lv_iconst (v := 0) hx hb dL_alike_10 (by decide) ?_
  refine lv_istore (lv' := [(6, .int 0), (5, .int 0), (4, .int 0), (3, .int 0), (2, .int 0), (0, .ref (h1 0)), (1, .ref (h2 0))]) hx hb dL_alike_11 hl (by decide) rfl (fun ls hl => ?_)
  refine lv_iload hx hb dL_alike_13 (lv_at hl 0 rfl) ?_
  refine lv_aload_n hx hb dL_alike_15 rfl (lv_at hl 5 rfl) ?_
  refine vp_callSi (W.runV (As := []) (rest := [.int 0]) ⟨hx, hb, hml, hown, hts⟩ (c0_lines l D h1 cA M0 ok0) (cwV 0 hts gL_alike_X0_lines rfl rfl rfl (by decide +kernel) ⟨Nat.le_of_ble_eq_true rfl, Nat.le_of_ble_eq_true rfl⟩) ⟨pR_fb, va_recv hK hP (ci := 0) (q0 := 0) rfl rfl, pR_mk (p_left hP) hK⟩ rfl rfl hl.1 rfl (lv_room (Nat.le_of_ble_eq_true rfl)) dL_alike_16 ⟨Nat.le_of_ble_eq_true rfl, Nat.le_of_ble_eq_true rfl⟩) (fun r1 qr1 => ?_)
  obtain rfl : r1 = 0 := qr1.trans (by decide +kernel)
  refine lv_icmp_ge (tgt := 68) hx hb dL_alike_19 (by decide) (fun _ => ?_) (fun z => absurd z (by decide +kernel))
  refine lv_iconst (v := 0) hx hb dL_alike_68 (by decide) ?_
  refine lv_istore (lv' := [(6, .int 0), (5, .int 0), (4, .int 0), (3, .int 0), (2, .int 0), (0, .ref (h1 0)), (1, .ref (h2 0))]) hx hb dL_alike_69 hl (by decide) rfl (fun ls hl => ?_)
  refine lv_iload hx hb dL_alike_71 (lv_at hl 0 rfl) ?_
  refine lv_aload_n hx hb dL_alike_73 rfl (lv_at hl 6 rfl) ?_
  refine vp_callSi (W.runV (As := []) (rest := [.int 0]) ⟨hx, hb, hml, hown, hts⟩ (c0_lines l D h2 cA M0 ok0) (cwV 0 hts gL_alike_X0_lines rfl rfl rfl (by decide +kernel) ⟨Nat.le_of_ble_eq_true rfl, Nat.le_of_ble_eq_true rfl⟩) ⟨pR_fb, va_recv hK hP (ci := 0) (q0 := 12) rfl rfl, pR_mk (p_right hP) hK⟩ rfl rfl hl.1 rfl (lv_room (Nat.le_of_ble_eq_true rfl)) dL_alike_74 ⟨Nat.le_of_ble_eq_true rfl, Nat.le_of_ble_eq_true rfl⟩) (fun r2 qr2 => ?_)
  obtain rfl : r2 = 0 := qr2.trans (by decide +kernel)
  refine lv_icmp_ge (tgt := 126) hx hb dL_alike_77 (by decide) (fun _ => ?_) (fun z => absurd z (by decide +kernel))
  refine lv_iload_n hx hb dL_alike_126 rfl (lv_at hl 4 rfl) ?_
  refine lv_if_ne (tgt := 192) hx hb dL_alike_127 (by decide) (fun z => absurd z (by decide +kernel)) (fun _ => ?_)
  refine lv_iload_n hx hb dL_alike_130 rfl (lv_at hl 3 rfl) ?_
  refine lv_if_ne (tgt := 192) hx hb dL_alike_131 (by decide) (fun z => absurd z (by decide +kernel)) (fun _ => ?_)
  refine lv_iload hx hb dL_alike_134 (lv_at hl 2 rfl) ?_
  refine lv_if_ne (tgt := 192) hx hb dL_alike_136 (by decide) (fun z => absurd z (by decide +kernel)) (fun _ => ?_)
  refine lv_iload hx hb dL_alike_139 (lv_at hl 1 rfl) ?_
  refine lv_if_ne (tgt := 192) hx hb dL_alike_141 (by decide) (fun z => absurd z (by decide +kernel)) (fun _ => ?_)
  refine lv_aload_n hx hb dL_alike_144 rfl (lv_at hl 5 rfl) ?_
  refine vp_callSi (W.runV (As := []) (rest := []) ⟨hx, hb, hml, hown, hts⟩ (c0_contractSum l D h1 cA M0 ok0) (cwV 0 hts gL_alike_X0_contractSum rfl rfl rfl (by decide +kernel) ⟨Nat.le_of_ble_eq_true rfl, Nat.le_of_ble_eq_true rfl⟩) ⟨pR_fb, va_recv hK hP (ci := 0) (q0 := 0) rfl rfl, pR_mk (p_left hP) hK⟩ rfl rfl hl.1 rfl (lv_room (Nat.le_of_ble_eq_true rfl)) dL_alike_145 ⟨Nat.le_of_ble_eq_true rfl, Nat.le_of_ble_eq_true rfl⟩) (fun r3 qr3 => ?_)
  obtain rfl : r3 = 0 := qr3.trans (by decide +kernel)
  refine lv_aload_n hx hb dL_alike_148 rfl (lv_at hl 6 rfl) ?_
  refine vp_callSi (W.runV (As := []) (rest := [.int 0]) ⟨hx, hb, hml, hown, hts⟩ (c0_contractSum l D h2 cA M0 ok0) (cwV 0 hts gL_alike_X0_contractSum rfl rfl rfl (by decide +kernel) ⟨Nat.le_of_ble_eq_true rfl, Nat.le_of_ble_eq_true rfl⟩) ⟨pR_fb, va_recv hK hP (ci := 0) (q0 := 12) rfl rfl, pR_mk (p_right hP) hK⟩ rfl rfl hl.1 rfl (lv_room (Nat.le_of_ble_eq_true rfl)) dL_alike_149 ⟨Nat.le_of_ble_eq_true rfl, Nat.le_of_ble_eq_true rfl⟩) (fun r4 qr4 => ?_)
  obtain rfl : r4 = 0 := qr4.trans (by decide +kernel)
  refine lv_icmp_ne (tgt := 192) hx hb dL_alike_152 (by decide) (fun z => absurd z (by decide +kernel)) (fun _ => ?_)
  refine lv_aload_n hx hb dL_alike_155 rfl (lv_at hl 5 rfl) ?_
  refine vp_callSi (W.runV (As := []) (rest := []) ⟨hx, hb, hml, hown, hts⟩ (c0_progress l D h1 cA M0 ok0) (cwV 0 hts gL_alike_X0_progress rfl rfl rfl (by decide +kernel) ⟨Nat.le_of_ble_eq_true rfl, Nat.le_of_ble_eq_true rfl⟩) ⟨pR_fb, va_recv hK hP (ci := 0) (q0 := 0) rfl rfl, pR_mk (p_left hP) hK⟩ rfl rfl hl.1 rfl (lv_room (Nat.le_of_ble_eq_true rfl)) dL_alike_156 ⟨Nat.le_of_ble_eq_true rfl, Nat.le_of_ble_eq_true rfl⟩) (fun r5 qr5 => ?_)
  obtain rfl : r5 = 0 := qr5.trans (by decide +kernel)
  refine lv_aload_n hx hb dL_alike_159 rfl (lv_at hl 6 rfl) ?_
  refine vp_callSi (W.runV (As := []) (rest := [.int 0]) ⟨hx, hb, hml, hown, hts⟩ (c0_progress l D h2 cA M0 ok0) (cwV 0 hts gL_alike_X0_progress rfl rfl rfl (by decide +kernel) ⟨Nat.le_of_ble_eq_true rfl, Nat.le_of_ble_eq_true rfl⟩) ⟨pR_fb, va_recv hK hP (ci := 0) (q0 := 12) rfl rfl, pR_mk (p_right hP) hK⟩ rfl rfl hl.1 rfl (lv_room (Nat.le_of_ble_eq_true rfl)) dL_alike_160 ⟨Nat.le_of_ble_eq_true rfl, Nat.le_of_ble_eq_true rfl⟩) (fun r6 qr6 => ?_)
  obtain rfl : r6 = 0 := qr6.trans (by decide +kernel)
  refine lv_icmp_ne (tgt := 192) hx hb dL_alike_163 (by decide) (fun z => absurd z (by decide +kernel)) (fun _ => ?_)
  refine lv_aload_n hx hb dL_alike_166 rfl (lv_at hl 5 rfl) ?_
  refine vp_callSi (W.runV (As := []) (rest := []) ⟨hx, hb, hml, hown, hts⟩ (c0_rate l D h1 cA M0 ok0) (cwV 0 hts gL_alike_X0_rate rfl rfl rfl (by decide +kernel) ⟨Nat.le_of_ble_eq_true rfl, Nat.le_of_ble_eq_true rfl⟩) ⟨pR_fb, va_recv hK hP (ci := 0) (q0 := 0) rfl rfl, pR_mk (p_left hP) hK⟩ rfl rfl hl.1 rfl (lv_room (Nat.le_of_ble_eq_true rfl)) dL_alike_167 ⟨Nat.le_of_ble_eq_true rfl, Nat.le_of_ble_eq_true rfl⟩) (fun r7 qr7 => ?_)
  obtain rfl : r7 = 100 := qr7.trans (by decide +kernel)
  refine lv_aload_n hx hb dL_alike_170 rfl (lv_at hl 6 rfl) ?_
  refine vp_callSi (W.runV (As := []) (rest := [.int 100]) ⟨hx, hb, hml, hown, hts⟩ (c0_rate l D h2 cA M0 ok0) (cwV 0 hts gL_alike_X0_rate rfl rfl rfl (by decide +kernel) ⟨Nat.le_of_ble_eq_true rfl, Nat.le_of_ble_eq_true rfl⟩) ⟨pR_fb, va_recv hK hP (ci := 0) (q0 := 12) rfl rfl, pR_mk (p_right hP) hK⟩ rfl rfl hl.1 rfl (lv_room (Nat.le_of_ble_eq_true rfl)) dL_alike_171 ⟨Nat.le_of_ble_eq_true rfl, Nat.le_of_ble_eq_true rfl⟩) (fun r8 qr8 => ?_)
  obtain rfl : r8 = 100 := qr8.trans (by decide +kernel)
  refine lv_icmp_ne (tgt := 192) hx hb dL_alike_174 (by decide) (fun z => absurd z (by decide +kernel)) (fun _ => ?_)
  refine lv_aload_n hx hb dL_alike_177 rfl (lv_at hl 5 rfl) ?_
  refine vp_callSi (W.runV (As := []) (rest := []) ⟨hx, hb, hml, hown, hts⟩ (c0_steps l D h1 cA M0 ok0) (cwV 0 hts gL_alike_X0_steps rfl rfl rfl (by decide +kernel) ⟨Nat.le_of_ble_eq_true rfl, Nat.le_of_ble_eq_true rfl⟩) ⟨pR_fb, va_recv hK hP (ci := 0) (q0 := 0) rfl rfl, pR_mk (p_left hP) hK⟩ rfl rfl hl.1 rfl (lv_room (Nat.le_of_ble_eq_true rfl)) dL_alike_178 ⟨Nat.le_of_ble_eq_true rfl, Nat.le_of_ble_eq_true rfl⟩) (fun r9 qr9 => ?_)
  obtain rfl : r9 = 1 := qr9.trans (by decide +kernel)
  refine lv_aload_n hx hb dL_alike_181 rfl (lv_at hl 6 rfl) ?_
  refine vp_callSi (W.runV (As := []) (rest := [.int 1]) ⟨hx, hb, hml, hown, hts⟩ (c0_steps l D h2 cA M0 ok0) (cwV 0 hts gL_alike_X0_steps rfl rfl rfl (by decide +kernel) ⟨Nat.le_of_ble_eq_true rfl, Nat.le_of_ble_eq_true rfl⟩) ⟨pR_fb, va_recv hK hP (ci := 0) (q0 := 12) rfl rfl, pR_mk (p_right hP) hK⟩ rfl rfl hl.1 rfl (lv_room (Nat.le_of_ble_eq_true rfl)) dL_alike_182 ⟨Nat.le_of_ble_eq_true rfl, Nat.le_of_ble_eq_true rfl⟩) (fun r10 qr10 => ?_)
  obtain rfl : r10 = 1 := qr10.trans (by decide +kernel)
  refine lv_icmp_ne (tgt := 192) hx hb dL_alike_185 (by decide) (fun z => absurd z (by decide +kernel)) (fun _ => ?_)
  refine lv_iconst (v := 1) hx hb dL_alike_188 (by decide) ?_
  refine lv_goto (tgt := 193) hx hb dL_alike_189 (by decide) ?_
  subst hQ
  exact W.zret (v := 1) (ty := .boolean) hx hb hr rfl (fun t ht hW => ⟨_, rfl, rfl, ht⟩) (fun q hq => by cases hq) dL_alike_193
set_option maxHeartbeats 4000000 in
set_option maxRecDepth 100000 in
theorem eL_holds (l : Launch) (D : va_G) (h : Nat → Nat) (cA : ClassId) : Met l yL_holds wsL_holds ({ frames := 3, cells := 0, slots := 0, locals := 67 } : Room) (va_Pc [.ref (h 0)] (pR D [(cA, .int)] (w0 h cA M0))) (vp_Si (fun r : Int32 => r = 1)) 0 0 (fun _ => False) := by
  refine Met.ofW (cc := cL_holds) (maxL := 11) (ret := (some .boolean)) (by decide) rfl ?_
  intro p e s m args below meth c s₁ B hml hv
  obtain ⟨rfl, hP, hK⟩ := hv
  have hx := B.exec
  have hb := B.bytes
  have hr := B.returns
  have hts := atoms_spec (ws := wsL_holds) B.pre
  have hown : s.vm.findClass RL = some m.cls := findClass_of_methodNamed B.named
  have hl := lv_entry ([.ref (h 0)]) (n := 11) (Nat.le_of_ble_eq_true rfl)
  rw [lg_entry_eq]
  generalize (lg_sl ([.ref (h 0)]) ++ List.replicate (11 - (lg_sl ([.ref (h 0)])).length) Slot.unset).toArray = ls at hl ⊢
  have hl : lv_has ls 11 [(0, .ref (h 0))] := hl
  refine w_abs (fun Q hQ => ?_)
  refine lv_iconst (v := 0) hx hb dL_holds_0 (by decide) ?_
  refine lv_istore_n (lv' := [(1, .int 0), (0, .ref (h 0))]) hx hb dL_holds_1 rfl hl (by decide) rfl (fun ls hl => ?_)
  refine lv_lconst (v := 0) hx hb dL_holds_2 (by decide) ?_
  refine lv_lstore_n (lv' := [(2, .long 0), (1, .int 0), (0, .ref (h 0))]) hx hb dL_holds_3 rfl hl (by decide) rfl (fun ls hl => ?_)
  refine lv_iconst (v := 0) hx hb dL_holds_4 (by decide) ?_
  refine lv_istore (lv' := [(4, .int 0), (2, .long 0), (1, .int 0), (0, .ref (h 0))]) hx hb dL_holds_5 hl (by decide) rfl (fun ls hl => ?_)
  refine lv_iconst (v := 0) hx hb dL_holds_7 (by decide) ?_
  refine lv_istore (lv' := [(5, .int 0), (4, .int 0), (2, .long 0), (1, .int 0), (0, .ref (h 0))]) hx hb dL_holds_8 hl (by decide) rfl (fun ls hl => ?_)
  refine lv_iconst (v := 2) hx hb dL_holds_10 (by decide) ?_
  refine lv_istore (lv' := [(6, .int 2), (5, .int 0), (4, .int 0), (2, .long 0), (1, .int 0), (0, .ref (h 0))]) hx hb dL_holds_11 hl (by decide) rfl (fun ls hl => ?_)
  refine lv_iconst (v := 1) hx hb dL_holds_13 (by decide) ?_
  refine lv_istore (lv' := [(7, .int 1), (6, .int 2), (5, .int 0), (4, .int 0), (2, .long 0), (1, .int 0), (0, .ref (h 0))]) hx hb dL_holds_14 hl (by decide) rfl (fun ls hl => ?_)
  refine lv_iconst (v := 0) hx hb dL_holds_16 (by decide) ?_
  refine lv_istore (lv' := [(8, .int 0), (7, .int 1), (6, .int 2), (5, .int 0), (4, .int 0), (2, .long 0), (1, .int 0), (0, .ref (h 0))]) hx hb dL_holds_17 hl (by decide) rfl (fun ls hl => ?_)
  refine lv_iload hx hb dL_holds_19 (lv_at hl 0 rfl) ?_
  refine lv_aload_n hx hb dL_holds_21 rfl (lv_at hl 7 rfl) ?_
  refine vp_callSi (W.runV (As := []) (rest := [.int 0]) ⟨hx, hb, hml, hown, hts⟩ (c0_lines l D h cA M0 ok0) (cwV 0 hts gL_holds_X0_lines rfl rfl rfl (by decide +kernel) ⟨Nat.le_of_ble_eq_true rfl, Nat.le_of_ble_eq_true rfl⟩) ⟨pR_fb, va_recv hK hP (ci := 0) (q0 := 0) rfl rfl, pR_mk hP hK⟩ rfl rfl hl.1 rfl (lv_room (Nat.le_of_ble_eq_true rfl)) dL_holds_22 ⟨Nat.le_of_ble_eq_true rfl, Nat.le_of_ble_eq_true rfl⟩) (fun r1 qr1 => ?_)
  obtain rfl : r1 = 0 := qr1.trans (by decide +kernel)
  refine lv_icmp_ge (tgt := 138) hx hb dL_holds_25 (by decide) (fun _ => ?_) (fun z => absurd z (by decide +kernel))
  refine lv_iconst (v := 0) hx hb dL_holds_138 (by decide) ?_
  refine lv_istore (lv' := [(8, .int 0), (7, .int 1), (6, .int 2), (5, .int 0), (4, .int 0), (2, .long 0), (1, .int 0), (0, .ref (h 0))]) hx hb dL_holds_139 hl (by decide) rfl (fun ls hl => ?_)
  refine lv_iload hx hb dL_holds_141 (lv_at hl 0 rfl) ?_
  refine lv_aload_n hx hb dL_holds_143 rfl (lv_at hl 7 rfl) ?_
  refine vp_callSi (W.runV (As := []) (rest := [.int 0]) ⟨hx, hb, hml, hown, hts⟩ (c0_applications l D h cA M0 ok0) (cwV 0 hts gL_holds_X0_applications rfl rfl rfl (by decide +kernel) ⟨Nat.le_of_ble_eq_true rfl, Nat.le_of_ble_eq_true rfl⟩) ⟨pR_fb, va_recv hK hP (ci := 0) (q0 := 0) rfl rfl, pR_mk hP hK⟩ rfl rfl hl.1 rfl (lv_room (Nat.le_of_ble_eq_true rfl)) dL_holds_144 ⟨Nat.le_of_ble_eq_true rfl, Nat.le_of_ble_eq_true rfl⟩) (fun r2 qr2 => ?_)
  obtain rfl : r2 = 0 := qr2.trans (by decide +kernel)
  refine lv_icmp_ge (tgt := 269) hx hb dL_holds_147 (by decide) (fun _ => ?_) (fun z => absurd z (by decide +kernel))
  refine lv_iconst (v := 1) hx hb dL_holds_269 (by decide) ?_
  refine lv_istore (lv' := [(8, .int 1), (7, .int 1), (6, .int 2), (5, .int 0), (4, .int 0), (2, .long 0), (1, .int 0), (0, .ref (h 0))]) hx hb dL_holds_270 hl (by decide) rfl (fun ls hl => ?_)
  refine lv_iload hx hb dL_holds_272 (lv_at hl 0 rfl) ?_
  refine lv_aload_n hx hb dL_holds_274 rfl (lv_at hl 7 rfl) ?_
  refine vp_callSi (W.runV (As := []) (rest := [.int 1]) ⟨hx, hb, hml, hown, hts⟩ (c0_lines l D h cA M0 ok0) (cwV 0 hts gL_holds_X0_lines rfl rfl rfl (by decide +kernel) ⟨Nat.le_of_ble_eq_true rfl, Nat.le_of_ble_eq_true rfl⟩) ⟨pR_fb, va_recv hK hP (ci := 0) (q0 := 0) rfl rfl, pR_mk hP hK⟩ rfl rfl hl.1 rfl (lv_room (Nat.le_of_ble_eq_true rfl)) dL_holds_275 ⟨Nat.le_of_ble_eq_true rfl, Nat.le_of_ble_eq_true rfl⟩) (fun r3 qr3 => ?_)
  obtain rfl : r3 = 0 := qr3.trans (by decide +kernel)
  refine lv_icmp_ge (tgt := 385) hx hb dL_holds_278 (by decide) (fun _ => ?_) (fun z => absurd z (by decide +kernel))
  refine lv_iload hx hb dL_holds_385 (lv_at hl 1 rfl) ?_
  refine lv_if_eq (tgt := 446) hx hb dL_holds_387 (by decide) (fun z => absurd z (by decide +kernel)) (fun _ => ?_)
  refine lv_aload_n hx hb dL_holds_390 rfl (lv_at hl 7 rfl) ?_
  refine vp_callSi (W.runV (As := []) (rest := []) ⟨hx, hb, hml, hown, hts⟩ (c0_contractSum l D h cA M0 ok0) (cwV 0 hts gL_holds_X0_contractSum rfl rfl rfl (by decide +kernel) ⟨Nat.le_of_ble_eq_true rfl, Nat.le_of_ble_eq_true rfl⟩) ⟨pR_fb, va_recv hK hP (ci := 0) (q0 := 0) rfl rfl, pR_mk hP hK⟩ rfl rfl hl.1 rfl (lv_room (Nat.le_of_ble_eq_true rfl)) dL_holds_391 ⟨Nat.le_of_ble_eq_true rfl, Nat.le_of_ble_eq_true rfl⟩) (fun r4 qr4 => ?_)
  obtain rfl : r4 = 0 := qr4.trans (by decide +kernel)
  refine lv_iload_n hx hb dL_holds_394 rfl (lv_at hl 6 rfl) ?_
  refine lv_icmp_ne (tgt := 446) hx hb dL_holds_395 (by decide) (fun z => absurd z (by decide +kernel)) (fun _ => ?_)
  refine lv_aload_n hx hb dL_holds_398 rfl (lv_at hl 7 rfl) ?_
  refine vp_callSi (W.runV (As := []) (rest := []) ⟨hx, hb, hml, hown, hts⟩ (c0_paid l D h cA M0 ok0) (cwV 0 hts gL_holds_X0_paid rfl rfl rfl (by decide +kernel) ⟨Nat.le_of_ble_eq_true rfl, Nat.le_of_ble_eq_true rfl⟩) ⟨pR_fb, va_recv hK hP (ci := 0) (q0 := 0) rfl rfl, pR_mk hP hK⟩ rfl rfl hl.1 rfl (lv_room (Nat.le_of_ble_eq_true rfl)) dL_holds_399 ⟨Nat.le_of_ble_eq_true rfl, Nat.le_of_ble_eq_true rfl⟩) (fun r5 qr5 => ?_)
  obtain rfl : r5 = 0 := qr5.trans (by decide +kernel)
  refine lv_iload hx hb dL_holds_402 (lv_at hl 3 rfl) ?_
  refine lv_icmp_ne (tgt := 446) hx hb dL_holds_404 (by decide) (fun z => absurd z (by decide +kernel)) (fun _ => ?_)
  refine lv_aload_n hx hb dL_holds_407 rfl (lv_at hl 7 rfl) ?_
  refine vp_callSi (W.runV (As := []) (rest := []) ⟨hx, hb, hml, hown, hts⟩ (c0_toCome l D h cA M0 ok0) (cwV 0 hts gL_holds_X0_toCome rfl rfl rfl (by decide +kernel) ⟨Nat.le_of_ble_eq_true rfl, Nat.le_of_ble_eq_true rfl⟩) ⟨pR_fb, va_recv hK hP (ci := 0) (q0 := 0) rfl rfl, pR_mk hP hK⟩ rfl rfl hl.1 rfl (lv_room (Nat.le_of_ble_eq_true rfl)) dL_holds_408 ⟨Nat.le_of_ble_eq_true rfl, Nat.le_of_ble_eq_true rfl⟩) (fun r6 qr6 => ?_)
  obtain rfl : r6 = 0 := qr6.trans (by decide +kernel)
  refine lv_iload_n hx hb dL_holds_411 rfl (lv_at hl 6 rfl) ?_
  refine lv_iload hx hb dL_holds_412 (lv_at hl 3 rfl) ?_
  refine lv_isub hx hb dL_holds_414 ?_
  refine lv_topi (fun y7 ey7 => ?_)
  obtain rfl : y7 = 0 := ey7.trans (by decide +kernel)
  refine lv_icmp_ne (tgt := 446) hx hb dL_holds_415 (by decide) (fun z => absurd z (by decide +kernel)) (fun _ => ?_)
  refine lv_aload_n hx hb dL_holds_418 rfl (lv_at hl 7 rfl) ?_
  refine vp_callSi (W.runV (As := []) (rest := []) ⟨hx, hb, hml, hown, hts⟩ (c0_progress l D h cA M0 ok0) (cwV 0 hts gL_holds_X0_progress rfl rfl rfl (by decide +kernel) ⟨Nat.le_of_ble_eq_true rfl, Nat.le_of_ble_eq_true rfl⟩) ⟨pR_fb, va_recv hK hP (ci := 0) (q0 := 0) rfl rfl, pR_mk hP hK⟩ rfl rfl hl.1 rfl (lv_room (Nat.le_of_ble_eq_true rfl)) dL_holds_419 ⟨Nat.le_of_ble_eq_true rfl, Nat.le_of_ble_eq_true rfl⟩) (fun r8 qr8 => ?_)
  obtain rfl : r8 = 0 := qr8.trans (by decide +kernel)
  refine lv_iload_n hx hb dL_holds_422 rfl (lv_at hl 6 rfl) ?_
  refine lv_if_ne (tgt := 430) hx hb dL_holds_423 (by decide) (fun z => absurd z (by decide +kernel)) (fun _ => ?_)
  refine lv_iconst (v := 0) hx hb dL_holds_426 (by decide) ?_
  refine lv_goto (tgt := 439) hx hb dL_holds_427 (by decide) ?_
  refine lv_icmp_ne (tgt := 446) hx hb dL_holds_439 (by decide) (fun z => absurd z (by decide +kernel)) (fun _ => ?_)
  refine lv_iconst (v := 1) hx hb dL_holds_442 (by decide) ?_
  refine lv_goto (tgt := 447) hx hb dL_holds_443 (by decide) ?_
  subst hQ
  exact W.zret (v := 1) (ty := .boolean) hx hb hr rfl (fun t ht hW => ⟨_, rfl, rfl, ht⟩) (fun q hq => by cases hq) dL_holds_447
/-! the script's ints -/
theorem x_fb {b L : Nat} {xs : Nat → Int32} {av : List Value} : FrameBlind (va_Pc av (fun U => va_X b L xs U U.heap)) := fun a U g mk q => ⟨q.1, va_X.moved (u := U) (U := U.calling g mk a) (Vm.Alike.refl U.vm) q.2⟩
set_option maxHeartbeats 4000000 in
set_option maxRecDepth 100000 in
theorem eL_drawn (l : Launch) (b L : Nat) (xs : Nat → Int32) (k : Nat) (z : Int32) (hk : k < L) (hL : L < 2 ^ 31) (hz : xs k &&& 2147483647 = z) : Met l yL_drawn wsL_drawn ({ frames := 0, cells := 0, slots := 0, locals := 0 } : Room) (va_Pc [.ref b, .int (nI k)] (fun U => va_X b L xs U U.heap)) (vp_Si (fun r : Int32 => r = z)) 0 0 (fun _ => False) := by
  refine Met.ofW (cc := cL_drawn) (maxL := 2) (ret := (some .int)) (by decide) rfl ?_
  intro p e s m args below meth c s₁ B hml hv
  obtain ⟨rfl, hX⟩ := hv
  have hx := B.exec
  have hb := B.bytes
  have hr := B.returns
  have hts := atoms_spec (ws := wsL_drawn) B.pre
  have hown : s.vm.findClass RL = some m.cls := findClass_of_methodNamed B.named
  have kw0 := hts (.constant RL 85 (2147483647)) (by decide +kernel)
  have hbl : b < s.heap.size := by
    obtain ⟨scr, h1, -⟩ := hX
    exact (Array.getElem?_eq_some_iff.mp h1).1
  have hS : va_S (fun _ => False) s.heap s.heap [] := va_S.rf
  have hl := lv_entry ([.ref b, .int (nI k)]) (n := 2) (Nat.le_of_ble_eq_true rfl)
  rw [lg_entry_eq]
  generalize (lg_sl ([.ref b, .int (nI k)]) ++ List.replicate (2 - (lg_sl ([.ref b, .int (nI k)])).length) Slot.unset).toArray = ls at hl ⊢
  have hl : lv_has ls 2 [(0, .ref b), (1, .int (nI k))] := hl
  refine w_abs (fun Q hQ => ?_)
  refine lv_iload_n hx hb dL_drawn_0 rfl (lv_at hl 1 rfl) ?_
  refine lv_aload_n hx hb dL_drawn_1 rfl (lv_at hl 0 rfl) ?_
  refine va_slen hx hb hX hbl (fun h => h) hS dL_drawn_2 ?_
  refine lv_icmp_ge (tgt := 12) hx hb dL_drawn_3 (by decide) (fun c1 => absurd (nI_lt hk hL) (Int32.not_lt.mpr c1)) (fun _ => ?_)
  refine lv_aload_n hx hb dL_drawn_6 rfl (lv_at hl 0 rfl) ?_
  refine lv_iload_n hx hb dL_drawn_7 rfl (lv_at hl 1 rfl) ?_
  refine va_sld hx hb hX hbl (fun h => h) hS (vp_in_nI (n := k) (N := L) hk hL) dL_drawn_8 ?_
  rw [nI_clamp (Nat.lt_trans hk hL)]
  refine lv_goto (tgt := 22) hx hb dL_drawn_9 (by decide) ?_
  refine lv_ldc hx hb hown kw0 dL_drawn_22 ?_
  refine lv_iand hx hb dL_drawn_24 ?_
  subst hQ
  exact W.iret (v := xs k &&& 2147483647) hx hb hr (fun t ht hW => ⟨_, rfl, hz, ht⟩) (fun q hq => by cases hq) dL_drawn_25
