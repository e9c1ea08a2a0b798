/-! WHAT IS REFUSED -/
set_option maxHeartbeats 8000000 in
set_option maxRecDepth 100000 in
theorem c_refuses (l : Launch) (hst : l.stackTraces = false) (D : va_G) (y : Nat → ClassId) (av : Nat → Nat) (ga gb : Nat → Nat × Nat × Nat) (S : oS) (X : Nat) (hG : GS S) (hX : X < 100000) (zh : Nat) : Met l yL_refuses wsL_refuses ({ frames := 10, cells := 200, slots := 3700, locals := 202 }) (lP D y [.ref (av 0), .int (nI X)] zh (oW y av ga gb S)) (va_Qi (fun (v : Int32) (u : oS) => v = 1 ∧ u = S) (fun (u : oS) t => ∃ (g1 g2 : Nat → Nat × Nat × Nat), va_P D vwCl (oW y av g1 g2 u) t.heap ∧ va_D (va_A (oW y av ga gb S) zh) (oW y av g1 g2 u)) (va_A (oW y av ga gb S) zh)) 200 3700 (va_A (oW y av ga gb S) zh) := by
  refine Met.ofW (cc := cL_refuses) (maxL := 5) (ret := (some .boolean)) (by decide) rfl ?_
  intro p e s m args below meth c s₁ B hml hv
  obtain ⟨⟨⟨rfl, hsz, hP, hE, hD⟩, hXE, hXZ⟩, hLN⟩ := hv
  have hx := B.exec
  have hb := B.bytes
  have hr := B.returns
  have hts := atoms_spec (ws := wsL_refuses) B.pre
  have hown : s.vm.findClass RL = some m.cls := findClass_of_methodNamed B.named
  have w_0 := hts (.constant RL 15 (-9999002)) (List.mem_cons_of_mem _ (List.mem_append_left _ (List.mem_append_left _ (List.mem_append_left _ (List.mem_append_left _ (List.mem_append_left _ (List.mem_append_left _ (List.mem_append_left _ (List.mem_append_left _ (List.mem_append_left _ (List.mem_of_getElem? (i := 0) rfl)))))))))))
  have w_1 := hts (.constant RL 39 (-9999001)) (List.mem_cons_of_mem _ (List.mem_append_left _ (List.mem_append_left _ (List.mem_append_left _ (List.mem_append_left _ (List.mem_append_left _ (List.mem_append_left _ (List.mem_append_left _ (List.mem_append_left _ (List.mem_append_left _ (List.mem_of_getElem? (i := 1) rfl)))))))))))
  have w_2 := hts (.constantLong RL 178 (1000000)) (List.mem_cons_of_mem _ (List.mem_append_left _ (List.mem_append_left _ (List.mem_append_left _ (List.mem_append_left _ (List.mem_append_left _ (List.mem_append_left _ (List.mem_append_left _ (List.mem_append_left _ (List.mem_append_left _ (List.mem_of_getElem? (i := 2) rfl)))))))))))
  subst hsz
  have hD := hD.self (sz := s.heap.size)
  generalize hAe : va_A (oW y av ga gb S) s.heap.size = A at hD hXZ ⊢
  have hA : ∀ q : Nat, s.heap.size ≤ q → A q := fun q h => by rw [← hAe]; exact Or.inr h
  have hS : va_S A s.heap s.heap [] := va_S.rf
  have hl := lv_entry ([.ref (av 0), .int (nI X)]) (n := 5) (Nat.le_of_ble_eq_true rfl)
  rw [lg_entry_eq]
  generalize (lg_sl ([.ref (av 0), .int (nI X)]) ++ List.replicate (5 - (lg_sl ([.ref (av 0), .int (nI X)])).length) Slot.unset).toArray = ls at hl ⊢
  have hl : lv_has ls 5 [(0, .ref (av 0)), (1, .int (nI X))] := hl
  obtain ⟨N, e0, b0, b1, hxn⟩ : ∃ N, S.2.2.1 0 = nI N ∧ 4 ≤ N ∧ N ≤ 32 ∧ X % N < nN (S.2.2.1 0) := by
    obtain ⟨q0, -, -, -, q4, q5, -⟩ := m_num hG.gd
    exact ⟨_, q0, q4, q5, Nat.mod_lt _ (by omega)⟩
  rcases Nat.mod_two_eq_zero_or_one X with hpar | hpar
  · have hp : X % 2 = 0 := hpar
    refine lv_aload_n hx hb dL_refuses_0 rfl (lv_at hl 0 rfl) ?_
    refine lv_iconst (v := 2) hx hb dL_refuses_1 (by decide) ?_
    refine lv_iconst (v := 0) hx hb dL_refuses_2 (by decide) ?_
    refine lv_iconst (v := 0) hx hb dL_refuses_3 (by decide) ?_
    refine lv_iconst (v := 0) hx hb dL_refuses_4 (by decide) ?_
    have k1 : fCall S 2 0 0 0 = (nI N, S) := (s_ab0 S 0 0).trans (by rw [e0])
    refine xw_callEi (va_runS (As := [.ref (av 0), .int 2, .int 0, .int 0, .int 0]) (rest := []) ⟨hx, hb, hml, hown, hts⟩ (c_call l hst D y av ga gb s.heap.size S 2 0 0 0 hG.ok) (va_cwS 5 hts gL_refuses_L_call rfl rfl rfl hd_L_call ⟨Nat.le_of_ble_eq_true rfl, Nat.le_of_ble_eq_true rfl⟩) (lS hE hXE hLN hXZ hS hA hP hD) rfl rfl hl.1 rfl (lv_room (Nat.le_of_ble_eq_true rfl)) dL_refuses_5 ⟨Nat.le_of_ble_eq_true rfl, Nat.le_of_ble_eq_true rfl⟩) hD hS hA (fun v2 u3 ga5 gb6 H locs h4 hP hD hS => ?_)
    obtain ⟨rfl, rfl⟩ := Prod.mk.inj (k1.symm.trans h4)
    refine lv_istore_n (lv' := [(2, .int (nI N)), (0, .ref (av 0)), (1, .int (nI X))]) hx hb dL_refuses_8 rfl hl (by decide) rfl (fun ls hl => ?_)
    refine lv_iload_n hx hb dL_refuses_9 rfl (lv_at hl 0 rfl) ?_
    refine lv_iload_n hx hb dL_refuses_10 rfl (lv_at hl 2 rfl) ?_
    refine lv_bipush (v := 50) hx hb dL_refuses_11 (by decide) ?_
    refine lv_irem hx hb dL_refuses_13 (by decide) ?_
    refine lv_topi (fun z7 ez7 => ?_)
    obtain rfl : z7 = nI (X % 50) := ez7.trans ((pk_rem (a := X) (d := 50) (by omega) (by omega) (by omega) : nI X - nI X / nI 50 * nI 50 = _))
    refine lv_iadd hx hb dL_refuses_14 ?_
    refine lv_topi (fun z8 ez8 => ?_)
    obtain rfl : z8 = nI (N + (X % 50)) := ez8.trans ((nI_add N (X % 50) : nI N + nI (X % 50) = _))
    refine lv_istore_n (lv' := [(3, .int (nI (N + (X % 50)))), (2, .int (nI N)), (0, .ref (av 0)), (1, .int (nI X))]) hx hb dL_refuses_15 rfl hl (by decide) rfl (fun ls hl => ?_)
    refine lv_iload_n hx hb dL_refuses_16 rfl (lv_at hl 3 rfl) ?_
    refine lv_iconst (v := 2) hx hb dL_refuses_17 (by decide) ?_
    refine lv_irem hx hb dL_refuses_18 (by decide) ?_
    refine lv_topi (fun z9 ez9 => ?_)
    obtain rfl : z9 = nI (X % 2) := ez9.trans ((pk_rem (a := X) (d := 2) (by omega) (by omega) (by omega) : nI X - nI X / nI 2 * nI 2 = _))
    refine lv_if_ne (tgt := 31) hx hb dL_refuses_19 (by decide) (fun cb10 => absurd (congrArg nI (show (X % 2) = 0 by omega)) cb10) (fun cb10 => ?_)
    refine lv_iconst (v := (-1)) hx hb dL_refuses_22 (by decide) ?_
    refine lv_iload_n hx hb dL_refuses_23 rfl (lv_at hl 3 rfl) ?_
    refine lv_bipush (v := 99) hx hb dL_refuses_24 (by decide) ?_
    refine lv_irem hx hb dL_refuses_26 (by decide) ?_
    refine lv_topi (fun z11 ez11 => ?_)
    obtain rfl : z11 = nI (X % 99) := ez11.trans ((pk_rem (a := X) (d := 99) (by omega) (by omega) (by omega) : nI X - nI X / nI 99 * nI 99 = _))
    refine lv_isub hx hb dL_refuses_27 ?_
    refine lv_goto (tgt := 39) hx hb dL_refuses_28 (by decide) ?_
    refine lv_istore (lv' := [(4, .int ((-1) - nI (X % 99))), (3, .int (nI (N + (X % 50)))), (2, .int (nI N)), (0, .ref (av 0)), (1, .int (nI X))]) hx hb dL_refuses_39 hl (by decide) rfl (fun ls hl => ?_)
    refine lv_aload_n hx hb dL_refuses_41 rfl (lv_at hl 3 rfl) ?_
    refine lv_iconst (v := 0) hx hb dL_refuses_42 (by decide) ?_
    refine lv_iload_n hx hb dL_refuses_43 rfl (lv_at hl 4 rfl) ?_
    refine lv_iconst (v := 2) hx hb dL_refuses_44 (by decide) ?_
    refine lv_irem hx hb dL_refuses_45 (by decide) ?_
    refine lv_topi (fun z12 ez12 => ?_)
    obtain rfl : z12 = nI (X % 2) := ez12.trans ((pk_rem (a := X) (d := 2) (by omega) (by omega) (by omega) : nI X - nI X / nI 2 * nI 2 = _))
    refine lv_if_ne (tgt := 58) hx hb dL_refuses_46 (by decide) (fun cb13 => absurd (congrArg nI (show (X % 2) = 0 by omega)) cb13) (fun cb13 => ?_)
    refine lv_iconst (v := (-1)) hx hb dL_refuses_49 (by decide) ?_
    refine lv_iload_n hx hb dL_refuses_50 rfl (lv_at hl 4 rfl) ?_
    refine lv_bipush (v := 9) hx hb dL_refuses_51 (by decide) ?_
    refine lv_irem hx hb dL_refuses_53 (by decide) ?_
    refine lv_topi (fun z14 ez14 => ?_)
    obtain rfl : z14 = nI (X % 9) := ez14.trans ((pk_rem (a := X) (d := 9) (by omega) (by omega) (by omega) : nI X - nI X / nI 9 * nI 9 = _))
    refine lv_isub hx hb dL_refuses_54 ?_
    refine lv_goto (tgt := 66) hx hb dL_refuses_55 (by decide) ?_
    refine lv_iconst (v := 0) hx hb dL_refuses_66 (by decide) ?_
    refine lv_iconst (v := 0) hx hb dL_refuses_67 (by decide) ?_
    have k15 : fCall S 0 ((-1) - nI (X % 9)) 0 0 = ((-9999002), S) := t_append S 0 0 (Or.inl (neg_lt (by omega) (by decide)))
    refine xw_callEi (va_runS (As := [.ref (av 0), .int 0, .int ((-1) - nI (X % 9)), .int 0, .int 0]) (rest := []) ⟨hx, hb, hml, hown, hts⟩ (c_call l hst D y av ga5 gb6 H.size S 0 ((-1) - nI (X % 9)) 0 0 hG.ok) (va_cwS 5 hts gL_refuses_L_call rfl rfl rfl hd_L_call ⟨Nat.le_of_ble_eq_true rfl, Nat.le_of_ble_eq_true rfl⟩) (lS hE hXE hLN hXZ hS hA hP hD) rfl rfl hl.1 rfl (lv_room (Nat.le_of_ble_eq_true rfl)) dL_refuses_68 ⟨Nat.le_of_ble_eq_true rfl, Nat.le_of_ble_eq_true rfl⟩) hD hS hA (fun v16 u17 ga19 gb20 H locs h18 hP hD hS => ?_)
    obtain ⟨rfl, rfl⟩ := Prod.mk.inj (k15.symm.trans h18)
    refine lv_ldc (v := (-9999002)) hx hb hown w_0 dL_refuses_71 ?_
    refine lv_icmp_ne (tgt := 701) hx hb dL_refuses_73 (by decide) (fun cb21 => absurd (by decide) cb21) (fun cb21 => ?_)
    refine lv_aload_n hx hb dL_refuses_76 rfl (lv_at hl 3 rfl) ?_
    refine lv_iconst (v := 2) hx hb dL_refuses_77 (by decide) ?_
    refine lv_bipush (v := 12) hx hb dL_refuses_78 (by decide) ?_
    refine lv_iload_n hx hb dL_refuses_80 rfl (lv_at hl 4 rfl) ?_
    refine lv_bipush (v := 50) hx hb dL_refuses_81 (by decide) ?_
    refine lv_irem hx hb dL_refuses_83 (by decide) ?_
    refine lv_topi (fun z22 ez22 => ?_)
    obtain rfl : z22 = nI (X % 50) := ez22.trans ((pk_rem (a := X) (d := 50) (by omega) (by omega) (by omega) : nI X - nI X / nI 50 * nI 50 = _))
    refine lv_iadd hx hb dL_refuses_84 ?_
    refine lv_topi (fun z23 ez23 => ?_)
    obtain rfl : z23 = nI (12 + (X % 50)) := ez23.trans ((nI_add 12 (X % 50) : nI 12 + nI (X % 50) = _))
    refine lv_iconst (v := 0) hx hb dL_refuses_85 (by decide) ?_
    refine lv_iconst (v := 0) hx hb dL_refuses_86 (by decide) ?_
    have k24 : fCall S 2 (nI (12 + (X % 50))) 0 0 = ((-9999002), S) := t_about S 0 0 (Or.inr (nI_lt (a := 11) (by omega) (by omega)))
    refine xw_callEi (va_runS (As := [.ref (av 0), .int 2, .int (nI (12 + (X % 50))), .int 0, .int 0]) (rest := []) ⟨hx, hb, hml, hown, hts⟩ (c_call l hst D y av ga19 gb20 H.size S 2 (nI (12 + (X % 50))) 0 0 hG.ok) (va_cwS 5 hts gL_refuses_L_call rfl rfl rfl hd_L_call ⟨Nat.le_of_ble_eq_true rfl, Nat.le_of_ble_eq_true rfl⟩) (lS hE hXE hLN hXZ hS hA hP hD) rfl rfl hl.1 rfl (lv_room (Nat.le_of_ble_eq_true rfl)) dL_refuses_87 ⟨Nat.le_of_ble_eq_true rfl, Nat.le_of_ble_eq_true rfl⟩) hD hS hA (fun v25 u26 ga28 gb29 H locs h27 hP hD hS => ?_)
    obtain ⟨rfl, rfl⟩ := Prod.mk.inj (k24.symm.trans h27)
    refine lv_ldc (v := (-9999002)) hx hb hown w_0 dL_refuses_90 ?_
    refine lv_icmp_ne (tgt := 701) hx hb dL_refuses_92 (by decide) (fun cb30 => absurd (by decide) cb30) (fun cb30 => ?_)
    refine lv_aload_n hx hb dL_refuses_95 rfl (lv_at hl 3 rfl) ?_
    refine lv_iconst (v := 3) hx hb dL_refuses_96 (by decide) ?_
    refine lv_iload_n hx hb dL_refuses_97 rfl (lv_at hl 1 rfl) ?_
    refine lv_iconst (v := 0) hx hb dL_refuses_98 (by decide) ?_
    refine lv_iconst (v := 0) hx hb dL_refuses_99 (by decide) ?_
    have k31 : fCall S 3 (nI (N + (X % 50))) 0 0 = ((-9999001), S) := t_read S 0 0 (fun q => absurd ((okL_iff e0 b1 (by omega)).mp q) (by omega))
    refine xw_callEi (va_runS (As := [.ref (av 0), .int 3, .int (nI (N + (X % 50))), .int 0, .int 0]) (rest := []) ⟨hx, hb, hml, hown, hts⟩ (c_call l hst D y av ga28 gb29 H.size S 3 (nI (N + (X % 50))) 0 0 hG.ok) (va_cwS 5 hts gL_refuses_L_call rfl rfl rfl hd_L_call ⟨Nat.le_of_ble_eq_true rfl, Nat.le_of_ble_eq_true rfl⟩) (lS hE hXE hLN hXZ hS hA hP hD) rfl rfl hl.1 rfl (lv_room (Nat.le_of_ble_eq_true rfl)) dL_refuses_100 ⟨Nat.le_of_ble_eq_true rfl, Nat.le_of_ble_eq_true rfl⟩) hD hS hA (fun v32 u33 ga35 gb36 H locs h34 hP hD hS => ?_)
    obtain ⟨rfl, rfl⟩ := Prod.mk.inj (k31.symm.trans h34)
    refine lv_ldc (v := (-9999001)) hx hb hown w_1 dL_refuses_103 ?_
    refine lv_icmp_ne (tgt := 701) hx hb dL_refuses_105 (by decide) (fun cb37 => absurd (by decide) cb37) (fun cb37 => ?_)
    refine lv_aload_n hx hb dL_refuses_108 rfl (lv_at hl 3 rfl) ?_
    refine lv_iconst (v := 4) hx hb dL_refuses_109 (by decide) ?_
    refine lv_iload_n hx hb dL_refuses_110 rfl (lv_at hl 1 rfl) ?_
    refine lv_iconst (v := 0) hx hb dL_refuses_111 (by decide) ?_
    refine lv_iconst (v := 0) hx hb dL_refuses_112 (by decide) ?_
    have k38 : fCall S 4 (nI (N + (X % 50))) 0 0 = ((-9999001), S) := t_place S 0 0 (fun q => absurd ((okL_iff e0 b1 (by omega)).mp q) (by omega))
    refine xw_callEi (va_runS (As := [.ref (av 0), .int 4, .int (nI (N + (X % 50))), .int 0, .int 0]) (rest := []) ⟨hx, hb, hml, hown, hts⟩ (c_call l hst D y av ga35 gb36 H.size S 4 (nI (N + (X % 50))) 0 0 hG.ok) (va_cwS 5 hts gL_refuses_L_call rfl rfl rfl hd_L_call ⟨Nat.le_of_ble_eq_true rfl, Nat.le_of_ble_eq_true rfl⟩) (lS hE hXE hLN hXZ hS hA hP hD) rfl rfl hl.1 rfl (lv_room (Nat.le_of_ble_eq_true rfl)) dL_refuses_113 ⟨Nat.le_of_ble_eq_true rfl, Nat.le_of_ble_eq_true rfl⟩) hD hS hA (fun v39 u40 ga42 gb43 H locs h41 hP hD hS => ?_)
    obtain ⟨rfl, rfl⟩ := Prod.mk.inj (k38.symm.trans h41)
    refine lv_ldc (v := (-9999001)) hx hb hown w_1 dL_refuses_116 ?_
    refine lv_icmp_ne (tgt := 701) hx hb dL_refuses_118 (by decide) (fun cb44 => absurd (by decide) cb44) (fun cb44 => ?_)
    refine lv_aload_n hx hb dL_refuses_121 rfl (lv_at hl 3 rfl) ?_
    refine lv_iconst (v := 5) hx hb dL_refuses_122 (by decide) ?_
    refine lv_iload_n hx hb dL_refuses_123 rfl (lv_at hl 1 rfl) ?_
    refine lv_iconst (v := 1) hx hb dL_refuses_124 (by decide) ?_
    refine lv_iadd hx hb dL_refuses_125 ?_
    refine lv_topi (fun z45 ez45 => ?_)
    obtain rfl : z45 = nI ((N + (X % 50)) + 1) := ez45.trans ((nI_add (N + (X % 50)) 1 : nI (N + (X % 50)) + nI 1 = _))
    refine lv_iconst (v := 0) hx hb dL_refuses_126 (by decide) ?_
    refine lv_iconst (v := 0) hx hb dL_refuses_127 (by decide) ?_
    have k46 : fCall S 5 (nI ((N + (X % 50)) + 1)) 0 0 = ((-9999001), S) := t_line S 0 0 (Or.inr (by rw [e0]; exact nI_lt (by omega) (by omega)))
    refine xw_callEi (va_runS (As := [.ref (av 0), .int 5, .int (nI ((N + (X % 50)) + 1)), .int 0, .int 0]) (rest := []) ⟨hx, hb, hml, hown, hts⟩ (c_call l hst D y av ga42 gb43 H.size S 5 (nI ((N + (X % 50)) + 1)) 0 0 hG.ok) (va_cwS 5 hts gL_refuses_L_call rfl rfl rfl hd_L_call ⟨Nat.le_of_ble_eq_true rfl, Nat.le_of_ble_eq_true rfl⟩) (lS hE hXE hLN hXZ hS hA hP hD) rfl rfl hl.1 rfl (lv_room (Nat.le_of_ble_eq_true rfl)) dL_refuses_128 ⟨Nat.le_of_ble_eq_true rfl, Nat.le_of_ble_eq_true rfl⟩) hD hS hA (fun v47 u48 ga50 gb51 H locs h49 hP hD hS => ?_)
    obtain ⟨rfl, rfl⟩ := Prod.mk.inj (k46.symm.trans h49)
    refine lv_ldc (v := (-9999001)) hx hb hown w_1 dL_refuses_131 ?_
    refine lv_icmp_ne (tgt := 701) hx hb dL_refuses_133 (by decide) (fun cb52 => absurd (by decide) cb52) (fun cb52 => ?_)
    refine lv_aload_n hx hb dL_refuses_136 rfl (lv_at hl 3 rfl) ?_
    refine lv_iconst (v := 5) hx hb dL_refuses_137 (by decide) ?_
    refine lv_iconst (v := (-1)) hx hb dL_refuses_138 (by decide) ?_
    refine lv_iload_n hx hb dL_refuses_139 rfl (lv_at hl 4 rfl) ?_
    refine lv_bipush (v := 9) hx hb dL_refuses_140 (by decide) ?_
    refine lv_irem hx hb dL_refuses_142 (by decide) ?_
    refine lv_topi (fun z53 ez53 => ?_)
    obtain rfl : z53 = nI (X % 9) := ez53.trans ((pk_rem (a := X) (d := 9) (by omega) (by omega) (by omega) : nI X - nI X / nI 9 * nI 9 = _))
    refine lv_isub hx hb dL_refuses_143 ?_
    refine lv_iconst (v := 0) hx hb dL_refuses_144 (by decide) ?_
    refine lv_iconst (v := 0) hx hb dL_refuses_145 (by decide) ?_
    have k54 : fCall S 5 ((-1) - nI (X % 9)) 0 0 = ((-9999001), S) := t_line S 0 0 (Or.inl (neg_lt (by omega) (by decide)))
    refine xw_callEi (va_runS (As := [.ref (av 0), .int 5, .int ((-1) - nI (X % 9)), .int 0, .int 0]) (rest := []) ⟨hx, hb, hml, hown, hts⟩ (c_call l hst D y av ga50 gb51 H.size S 5 ((-1) - nI (X % 9)) 0 0 hG.ok) (va_cwS 5 hts gL_refuses_L_call rfl rfl rfl hd_L_call ⟨Nat.le_of_ble_eq_true rfl, Nat.le_of_ble_eq_true rfl⟩) (lS hE hXE hLN hXZ hS hA hP hD) rfl rfl hl.1 rfl (lv_room (Nat.le_of_ble_eq_true rfl)) dL_refuses_146 ⟨Nat.le_of_ble_eq_true rfl, Nat.le_of_ble_eq_true rfl⟩) hD hS hA (fun v55 u56 ga58 gb59 H locs h57 hP hD hS => ?_)
    obtain ⟨rfl, rfl⟩ := Prod.mk.inj (k54.symm.trans h57)
    refine lv_ldc (v := (-9999001)) hx hb hown w_1 dL_refuses_149 ?_
    refine lv_icmp_ne (tgt := 701) hx hb dL_refuses_151 (by decide) (fun cb60 => absurd (by decide) cb60) (fun cb60 => ?_)
    refine lv_aload_n hx hb dL_refuses_154 rfl (lv_at hl 3 rfl) ?_
    refine lv_bipush (v := 6) hx hb dL_refuses_155 (by decide) ?_
    refine lv_iload_n hx hb dL_refuses_157 rfl (lv_at hl 1 rfl) ?_
    refine lv_iconst (v := 1) hx hb dL_refuses_158 (by decide) ?_
    refine lv_iadd hx hb dL_refuses_159 ?_
    refine lv_topi (fun z61 ez61 => ?_)
    obtain rfl : z61 = nI ((N + (X % 50)) + 1) := ez61.trans ((nI_add (N + (X % 50)) 1 : nI (N + (X % 50)) + nI 1 = _))
    refine lv_iconst (v := 0) hx hb dL_refuses_160 (by decide) ?_
    refine lv_iconst (v := 0) hx hb dL_refuses_161 (by decide) ?_
    have k62 : fCall S 6 (nI ((N + (X % 50)) + 1)) 0 0 = ((-9999001), S) := t_wear S 0 0 (Or.inr (by rw [e0]; exact nI_lt (by omega) (by omega)))
    refine xw_callEi (va_runS (As := [.ref (av 0), .int 6, .int (nI ((N + (X % 50)) + 1)), .int 0, .int 0]) (rest := []) ⟨hx, hb, hml, hown, hts⟩ (c_call l hst D y av ga58 gb59 H.size S 6 (nI ((N + (X % 50)) + 1)) 0 0 hG.ok) (va_cwS 5 hts gL_refuses_L_call rfl rfl rfl hd_L_call ⟨Nat.le_of_ble_eq_true rfl, Nat.le_of_ble_eq_true rfl⟩) (lS hE hXE hLN hXZ hS hA hP hD) rfl rfl hl.1 rfl (lv_room (Nat.le_of_ble_eq_true rfl)) dL_refuses_162 ⟨Nat.le_of_ble_eq_true rfl, Nat.le_of_ble_eq_true rfl⟩) hD hS hA (fun v63 u64 ga66 gb67 H locs h65 hP hD hS => ?_)
    obtain ⟨rfl, rfl⟩ := Prod.mk.inj (k62.symm.trans h65)
    refine lv_ldc (v := (-9999001)) hx hb hown w_1 dL_refuses_165 ?_
    refine lv_icmp_ne (tgt := 701) hx hb dL_refuses_167 (by decide) (fun cb68 => absurd (by decide) cb68) (fun cb68 => ?_)
    refine lv_aload_n hx hb dL_refuses_170 rfl (lv_at hl 3 rfl) ?_
    refine lv_bipush (v := 7) hx hb dL_refuses_171 (by decide) ?_
    refine lv_iconst (v := 2) hx hb dL_refuses_173 (by decide) ?_
    refine lv_iload_n hx hb dL_refuses_174 rfl (lv_at hl 4 rfl) ?_
    refine lv_bipush (v := 9) hx hb dL_refuses_175 (by decide) ?_
    refine lv_irem hx hb dL_refuses_177 (by decide) ?_
    refine lv_topi (fun z69 ez69 => ?_)
    obtain rfl : z69 = nI (X % 9) := ez69.trans ((pk_rem (a := X) (d := 9) (by omega) (by omega) (by omega) : nI X - nI X / nI 9 * nI 9 = _))
    refine lv_iadd hx hb dL_refuses_178 ?_
    refine lv_topi (fun z70 ez70 => ?_)
    obtain rfl : z70 = nI (2 + (X % 9)) := ez70.trans ((nI_add 2 (X % 9) : nI 2 + nI (X % 9) = _))
    refine lv_iconst (v := 0) hx hb dL_refuses_179 (by decide) ?_
    refine lv_iconst (v := 0) hx hb dL_refuses_180 (by decide) ?_
    have k71 : fCall S 7 (nI (2 + (X % 9))) 0 0 = ((-9999002), S) := t_setting S 0 0 (nI_ne0 (by omega) (by omega)) (fun q => absurd ((nI_eq (b := 1) (by omega) (by omega)).mp q) (by omega))
    refine xw_callEi (va_runS (As := [.ref (av 0), .int 7, .int (nI (2 + (X % 9))), .int 0, .int 0]) (rest := []) ⟨hx, hb, hml, hown, hts⟩ (c_call l hst D y av ga66 gb67 H.size S 7 (nI (2 + (X % 9))) 0 0 hG.ok) (va_cwS 5 hts gL_refuses_L_call rfl rfl rfl hd_L_call ⟨Nat.le_of_ble_eq_true rfl, Nat.le_of_ble_eq_true rfl⟩) (lS hE hXE hLN hXZ hS hA hP hD) rfl rfl hl.1 rfl (lv_room (Nat.le_of_ble_eq_true rfl)) dL_refuses_181 ⟨Nat.le_of_ble_eq_true rfl, Nat.le_of_ble_eq_true rfl⟩) hD hS hA (fun v72 u73 ga75 gb76 H locs h74 hP hD hS => ?_)
    obtain ⟨rfl, rfl⟩ := Prod.mk.inj (k71.symm.trans h74)
    refine lv_ldc (v := (-9999002)) hx hb hown w_0 dL_refuses_184 ?_
    refine lv_icmp_ne (tgt := 701) hx hb dL_refuses_186 (by decide) (fun cb77 => absurd (by decide) cb77) (fun cb77 => ?_)
    refine lv_aload_n hx hb dL_refuses_189 rfl (lv_at hl 3 rfl) ?_
    refine lv_bipush (v := 8) hx hb dL_refuses_190 (by decide) ?_
    refine lv_iload_n hx hb dL_refuses_192 rfl (lv_at hl 4 rfl) ?_
    refine lv_iconst (v := 4) hx hb dL_refuses_193 (by decide) ?_
    refine lv_irem hx hb dL_refuses_194 (by decide) ?_
    refine lv_topi (fun z78 ez78 => ?_)
    obtain rfl : z78 = nI (X % 4) := ez78.trans ((pk_rem (a := X) (d := 4) (by omega) (by omega) (by omega) : nI X - nI X / nI 4 * nI 4 = _))
    refine lv_iconst (v := 1) hx hb dL_refuses_195 (by decide) ?_
    refine lv_iconst (v := 0) hx hb dL_refuses_196 (by decide) ?_
    have k79 : fCall S 8 (nI (X % 4)) 1 0 = ((-9999002), S) := t_make S (Or.inl (sh_lt4 (nI_lt (b := 4) (by omega) (by omega))))
    refine xw_callEi (va_runS (As := [.ref (av 0), .int 8, .int (nI (X % 4)), .int 1, .int 0]) (rest := []) ⟨hx, hb, hml, hown, hts⟩ (c_call l hst D y av ga75 gb76 H.size S 8 (nI (X % 4)) 1 0 hG.ok) (va_cwS 5 hts gL_refuses_L_call rfl rfl rfl hd_L_call ⟨Nat.le_of_ble_eq_true rfl, Nat.le_of_ble_eq_true rfl⟩) (lS hE hXE hLN hXZ hS hA hP hD) rfl rfl hl.1 rfl (lv_room (Nat.le_of_ble_eq_true rfl)) dL_refuses_197 ⟨Nat.le_of_ble_eq_true rfl, Nat.le_of_ble_eq_true rfl⟩) hD hS hA (fun v80 u81 ga83 gb84 H locs h82 hP hD hS => ?_)
    obtain ⟨rfl, rfl⟩ := Prod.mk.inj (k79.symm.trans h82)
    refine lv_ldc (v := (-9999002)) hx hb hown w_0 dL_refuses_200 ?_
    refine lv_icmp_ne (tgt := 701) hx hb dL_refuses_202 (by decide) (fun cb85 => absurd (by decide) cb85) (fun cb85 => ?_)
    refine lv_aload_n hx hb dL_refuses_205 rfl (lv_at hl 3 rfl) ?_
    refine lv_bipush (v := 8) hx hb dL_refuses_206 (by decide) ?_
    refine lv_bipush (v := 33) hx hb dL_refuses_208 (by decide) ?_
    refine lv_iload_n hx hb dL_refuses_210 rfl (lv_at hl 4 rfl) ?_
    refine lv_bipush (v := 9) hx hb dL_refuses_211 (by decide) ?_
    refine lv_irem hx hb dL_refuses_213 (by decide) ?_
    refine lv_topi (fun z86 ez86 => ?_)
    obtain rfl : z86 = nI (X % 9) := ez86.trans ((pk_rem (a := X) (d := 9) (by omega) (by omega) (by omega) : nI X - nI X / nI 9 * nI 9 = _))
    refine lv_iadd hx hb dL_refuses_214 ?_
    refine lv_topi (fun z87 ez87 => ?_)
    obtain rfl : z87 = nI (33 + (X % 9)) := ez87.trans ((nI_add 33 (X % 9) : nI 33 + nI (X % 9) = _))
    refine lv_iconst (v := 1) hx hb dL_refuses_215 (by decide) ?_
    refine lv_iconst (v := 0) hx hb dL_refuses_216 (by decide) ?_
    have k88 : fCall S 8 (nI (33 + (X % 9))) 1 0 = ((-9999002), S) := t_make S (Or.inl (sh_gt (nI_nlt (b := 4) (by omega) (by omega)) (nI_lt (a := 32) (by omega) (by omega))))
    refine xw_callEi (va_runS (As := [.ref (av 0), .int 8, .int (nI (33 + (X % 9))), .int 1, .int 0]) (rest := []) ⟨hx, hb, hml, hown, hts⟩ (c_call l hst D y av ga83 gb84 H.size S 8 (nI (33 + (X % 9))) 1 0 hG.ok) (va_cwS 5 hts gL_refuses_L_call rfl rfl rfl hd_L_call ⟨Nat.le_of_ble_eq_true rfl, Nat.le_of_ble_eq_true rfl⟩) (lS hE hXE hLN hXZ hS hA hP hD) rfl rfl hl.1 rfl (lv_room (Nat.le_of_ble_eq_true rfl)) dL_refuses_217 ⟨Nat.le_of_ble_eq_true rfl, Nat.le_of_ble_eq_true rfl⟩) hD hS hA (fun v89 u90 ga92 gb93 H locs h91 hP hD hS => ?_)
    obtain ⟨rfl, rfl⟩ := Prod.mk.inj (k88.symm.trans h91)
    refine lv_ldc (v := (-9999002)) hx hb hown w_0 dL_refuses_220 ?_
    refine lv_icmp_ne (tgt := 701) hx hb dL_refuses_222 (by decide) (fun cb94 => absurd (by decide) cb94) (fun cb94 => ?_)
    refine lv_aload_n hx hb dL_refuses_225 rfl (lv_at hl 3 rfl) ?_
    refine lv_bipush (v := 8) hx hb dL_refuses_226 (by decide) ?_
    refine lv_iload_n hx hb dL_refuses_228 rfl (lv_at hl 2 rfl) ?_
    refine lv_iload_n hx hb dL_refuses_229 rfl (lv_at hl 2 rfl) ?_
    refine lv_iload_n hx hb dL_refuses_230 rfl (lv_at hl 4 rfl) ?_
    refine lv_bipush (v := 9) hx hb dL_refuses_231 (by decide) ?_
    refine lv_irem hx hb dL_refuses_233 (by decide) ?_
    refine lv_topi (fun z95 ez95 => ?_)
    obtain rfl : z95 = nI (X % 9) := ez95.trans ((pk_rem (a := X) (d := 9) (by omega) (by omega) (by omega) : nI X - nI X / nI 9 * nI 9 = _))
    refine lv_iadd hx hb dL_refuses_234 ?_
    refine lv_topi (fun z96 ez96 => ?_)
    obtain rfl : z96 = nI (N + (X % 9)) := ez96.trans ((nI_add N (X % 9) : nI N + nI (X % 9) = _))
    refine lv_iconst (v := 0) hx hb dL_refuses_235 (by decide) ?_
    have k97 : fCall S 8 (nI N) (nI (N + (X % 9))) 0 = ((-9999002), S) := t_make S (Or.inl (sh_kn (nI_nlt (b := 4) (by omega) (by omega)) (nI_nlt (a := 32) (by omega) (by omega)) (nI_nlt (b := 1) (by omega) (by omega)) (nI_le (by omega) (by omega))))
    refine xw_callEi (va_runS (As := [.ref (av 0), .int 8, .int (nI N), .int (nI (N + (X % 9))), .int 0]) (rest := []) ⟨hx, hb, hml, hown, hts⟩ (c_call l hst D y av ga92 gb93 H.size S 8 (nI N) (nI (N + (X % 9))) 0 hG.ok) (va_cwS 5 hts gL_refuses_L_call rfl rfl rfl hd_L_call ⟨Nat.le_of_ble_eq_true rfl, Nat.le_of_ble_eq_true rfl⟩) (lS hE hXE hLN hXZ hS hA hP hD) rfl rfl hl.1 rfl (lv_room (Nat.le_of_ble_eq_true rfl)) dL_refuses_236 ⟨Nat.le_of_ble_eq_true rfl, Nat.le_of_ble_eq_true rfl⟩) hD hS hA (fun v98 u99 ga101 gb102 H locs h100 hP hD hS => ?_)
    obtain ⟨rfl, rfl⟩ := Prod.mk.inj (k97.symm.trans h100)
    refine lv_ldc (v := (-9999002)) hx hb hown w_0 dL_refuses_239 ?_
    refine lv_icmp_ne (tgt := 701) hx hb dL_refuses_241 (by decide) (fun cb103 => absurd (by decide) cb103) (fun cb103 => ?_)
    refine lv_aload_n hx hb dL_refuses_244 rfl (lv_at hl 3 rfl) ?_
    refine lv_bipush (v := 8) hx hb dL_refuses_245 (by decide) ?_
    refine lv_iload_n hx hb dL_refuses_247 rfl (lv_at hl 2 rfl) ?_
    refine lv_iconst (v := 0) hx hb dL_refuses_248 (by decide) ?_
    refine lv_iconst (v := 0) hx hb dL_refuses_249 (by decide) ?_
    have k104 : fCall S 8 (nI N) 0 0 = ((-9999002), S) := t_make S (Or.inl (sh_k1 (nI_nlt (b := 4) (by omega) (by omega)) (nI_nlt (a := 32) (by omega) (by omega)) (by decide)))
    refine xw_callEi (va_runS (As := [.ref (av 0), .int 8, .int (nI N), .int 0, .int 0]) (rest := []) ⟨hx, hb, hml, hown, hts⟩ (c_call l hst D y av ga101 gb102 H.size S 8 (nI N) 0 0 hG.ok) (va_cwS 5 hts gL_refuses_L_call rfl rfl rfl hd_L_call ⟨Nat.le_of_ble_eq_true rfl, Nat.le_of_ble_eq_true rfl⟩) (lS hE hXE hLN hXZ hS hA hP hD) rfl rfl hl.1 rfl (lv_room (Nat.le_of_ble_eq_true rfl)) dL_refuses_250 ⟨Nat.le_of_ble_eq_true rfl, Nat.le_of_ble_eq_true rfl⟩) hD hS hA (fun v105 u106 ga108 gb109 H locs h107 hP hD hS => ?_)
    obtain ⟨rfl, rfl⟩ := Prod.mk.inj (k104.symm.trans h107)
    refine lv_ldc (v := (-9999002)) hx hb hown w_0 dL_refuses_253 ?_
    refine lv_icmp_ne (tgt := 701) hx hb dL_refuses_255 (by decide) (fun cb110 => absurd (by decide) cb110) (fun cb110 => ?_)
    refine lv_aload_n hx hb dL_refuses_258 rfl (lv_at hl 3 rfl) ?_
    refine lv_bipush (v := 8) hx hb dL_refuses_259 (by decide) ?_
    refine lv_iload_n hx hb dL_refuses_261 rfl (lv_at hl 2 rfl) ?_
    refine lv_iconst (v := 1) hx hb dL_refuses_262 (by decide) ?_
    refine lv_iconst (v := 5) hx hb dL_refuses_263 (by decide) ?_
    refine lv_iload_n hx hb dL_refuses_264 rfl (lv_at hl 4 rfl) ?_
    refine lv_bipush (v := 9) hx hb dL_refuses_265 (by decide) ?_
    refine lv_irem hx hb dL_refuses_267 (by decide) ?_
    refine lv_topi (fun z111 ez111 => ?_)
    obtain rfl : z111 = nI (X % 9) := ez111.trans ((pk_rem (a := X) (d := 9) (by omega) (by omega) (by omega) : nI X - nI X / nI 9 * nI 9 = _))
    refine lv_iadd hx hb dL_refuses_268 ?_
    refine lv_topi (fun z112 ez112 => ?_)
    obtain rfl : z112 = nI (5 + (X % 9)) := ez112.trans ((nI_add 5 (X % 9) : nI 5 + nI (X % 9) = _))
    have k113 : fCall S 8 (nI N) 1 (nI (5 + (X % 9))) = ((-9999002), S) := t_make S (Or.inr (Or.inr (nI_lt (a := 4) (by omega) (by omega))))
    refine xw_callEi (va_runS (As := [.ref (av 0), .int 8, .int (nI N), .int 1, .int (nI (5 + (X % 9)))]) (rest := []) ⟨hx, hb, hml, hown, hts⟩ (c_call l hst D y av ga108 gb109 H.size S 8 (nI N) 1 (nI (5 + (X % 9))) hG.ok) (va_cwS 5 hts gL_refuses_L_call rfl rfl rfl hd_L_call ⟨Nat.le_of_ble_eq_true rfl, Nat.le_of_ble_eq_true rfl⟩) (lS hE hXE hLN hXZ hS hA hP hD) rfl rfl hl.1 rfl (lv_room (Nat.le_of_ble_eq_true rfl)) dL_refuses_269 ⟨Nat.le_of_ble_eq_true rfl, Nat.le_of_ble_eq_true rfl⟩) hD hS hA (fun v114 u115 ga117 gb118 H locs h116 hP hD hS => ?_)
    obtain ⟨rfl, rfl⟩ := Prod.mk.inj (k113.symm.trans h116)
    refine lv_ldc (v := (-9999002)) hx hb hown w_0 dL_refuses_272 ?_
    refine lv_icmp_ne (tgt := 701) hx hb dL_refuses_274 (by decide) (fun cb119 => absurd (by decide) cb119) (fun cb119 => ?_)
    refine lv_aload_n hx hb dL_refuses_277 rfl (lv_at hl 3 rfl) ?_
    refine lv_bipush (v := 8) hx hb dL_refuses_278 (by decide) ?_
    refine lv_iconst (v := 4) hx hb dL_refuses_280 (by decide) ?_
    refine lv_iconst (v := 2) hx hb dL_refuses_281 (by decide) ?_
    refine lv_iload_n hx hb dL_refuses_282 rfl (lv_at hl 4 rfl) ?_
    refine lv_bipush (v := 14) hx hb dL_refuses_283 (by decide) ?_
    refine lv_irem hx hb dL_refuses_285 (by decide) ?_
    refine lv_topi (fun z120 ez120 => ?_)
    obtain rfl : z120 = nI (X % 14) := ez120.trans ((pk_rem (a := X) (d := 14) (by omega) (by omega) (by omega) : nI X - nI X / nI 14 * nI 14 = _))
    refine lv_imul hx hb dL_refuses_286 ?_
    refine lv_topi (fun z121 ez121 => ?_)
    obtain rfl : z121 = nI (2 * (X % 14)) := ez121.trans ((pk_mul 2 (X % 14) : nI 2 * nI (X % 14) = _))
    refine lv_iadd hx hb dL_refuses_287 ?_
    refine lv_topi (fun z122 ez122 => ?_)
    obtain rfl : z122 = nI (4 + (2 * (X % 14))) := ez122.trans ((nI_add 4 (2 * (X % 14)) : nI 4 + nI (2 * (X % 14)) = _))
    refine lv_iconst (v := 2) hx hb dL_refuses_288 (by decide) ?_
    refine lv_iconst (v := 0) hx hb dL_refuses_289 (by decide) ?_
    have k123 : fCall S 8 (nI (4 + (2 * (X % 14)))) 2 0 = ((-9999002), S) := t_make S (Or.inl (nk_shape (Nat.mod_lt X (by omega))))
    refine xw_callEi (va_runS (As := [.ref (av 0), .int 8, .int (nI (4 + (2 * (X % 14)))), .int 2, .int 0]) (rest := []) ⟨hx, hb, hml, hown, hts⟩ (c_call l hst D y av ga117 gb118 H.size S 8 (nI (4 + (2 * (X % 14)))) 2 0 hG.ok) (va_cwS 5 hts gL_refuses_L_call rfl rfl rfl hd_L_call ⟨Nat.le_of_ble_eq_true rfl, Nat.le_of_ble_eq_true rfl⟩) (lS hE hXE hLN hXZ hS hA hP hD) rfl rfl hl.1 rfl (lv_room (Nat.le_of_ble_eq_true rfl)) dL_refuses_290 ⟨Nat.le_of_ble_eq_true rfl, Nat.le_of_ble_eq_true rfl⟩) hD hS hA (fun v124 u125 ga127 gb128 H locs h126 hP hD hS => ?_)
    obtain ⟨rfl, rfl⟩ := Prod.mk.inj (k123.symm.trans h126)
    refine lv_ldc (v := (-9999002)) hx hb hown w_0 dL_refuses_293 ?_
    refine lv_icmp_ne (tgt := 701) hx hb dL_refuses_295 (by decide) (fun cb129 => absurd (by decide) cb129) (fun cb129 => ?_)
    refine lv_aload_n hx hb dL_refuses_298 rfl (lv_at hl 3 rfl) ?_
    refine lv_bipush (v := 9) hx hb dL_refuses_299 (by decide) ?_
    refine lv_iload_n hx hb dL_refuses_301 rfl (lv_at hl 1 rfl) ?_
    refine lv_iload hx hb dL_refuses_302 (lv_at hl 0 rfl) ?_
    refine lv_iconst (v := 0) hx hb dL_refuses_304 (by decide) ?_
    have k130 : fCall S 9 (nI (N + (X % 50))) ((-1) - nI (X % 99)) 0 = ((-9999001), S) := t_write1 S _ 0 (fun q => absurd ((okL_iff e0 b1 (by omega)).mp q) (by omega))
    refine xw_callEi (va_runS (As := [.ref (av 0), .int 9, .int (nI (N + (X % 50))), .int ((-1) - nI (X % 99)), .int 0]) (rest := []) ⟨hx, hb, hml, hown, hts⟩ (c_call l hst D y av ga127 gb128 H.size S 9 (nI (N + (X % 50))) ((-1) - nI (X % 99)) 0 hG.ok) (va_cwS 5 hts gL_refuses_L_call rfl rfl rfl hd_L_call ⟨Nat.le_of_ble_eq_true rfl, Nat.le_of_ble_eq_true rfl⟩) (lS hE hXE hLN hXZ hS hA hP hD) rfl rfl hl.1 rfl (lv_room (Nat.le_of_ble_eq_true rfl)) dL_refuses_305 ⟨Nat.le_of_ble_eq_true rfl, Nat.le_of_ble_eq_true rfl⟩) hD hS hA (fun v131 u132 ga134 gb135 H locs h133 hP hD hS => ?_)
    obtain ⟨rfl, rfl⟩ := Prod.mk.inj (k130.symm.trans h133)
    refine lv_ldc (v := (-9999001)) hx hb hown w_1 dL_refuses_308 ?_
    refine lv_icmp_ne (tgt := 701) hx hb dL_refuses_310 (by decide) (fun cb136 => absurd (by decide) cb136) (fun cb136 => ?_)
    refine lv_aload_n hx hb dL_refuses_313 rfl (lv_at hl 3 rfl) ?_
    refine lv_bipush (v := 9) hx hb dL_refuses_314 (by decide) ?_
    refine lv_iload_n hx hb dL_refuses_316 rfl (lv_at hl 4 rfl) ?_
    refine lv_iload_n hx hb dL_refuses_317 rfl (lv_at hl 2 rfl) ?_
    refine lv_irem hx hb dL_refuses_318 (nI_ne0 (n := N) (by omega) (by omega)) ?_
    refine lv_topi (fun z137 ez137 => ?_)
    obtain rfl : z137 = nI (X % N) := ez137.trans ((pk_rem (a := X) (d := N) (by omega) (by omega) (by omega) : nI X - nI X / nI N * nI N = _))
    refine lv_iload hx hb dL_refuses_319 (lv_at hl 0 rfl) ?_
    refine lv_iconst (v := 0) hx hb dL_refuses_321 (by decide) ?_
    have k138 : fCall S 9 (nI (X % N)) ((-1) - nI (X % 99)) 0 = ((-9999002), S) := t_write2 S 0 (okL_nI hG.gd hxn) (Or.inl (neg_lt (by omega) (by decide)))
    refine xw_callEi (va_runS (As := [.ref (av 0), .int 9, .int (nI (X % N)), .int ((-1) - nI (X % 99)), .int 0]) (rest := []) ⟨hx, hb, hml, hown, hts⟩ (c_call l hst D y av ga134 gb135 H.size S 9 (nI (X % N)) ((-1) - nI (X % 99)) 0 hG.ok) (va_cwS 5 hts gL_refuses_L_call rfl rfl rfl hd_L_call ⟨Nat.le_of_ble_eq_true rfl, Nat.le_of_ble_eq_true rfl⟩) (lS hE hXE hLN hXZ hS hA hP hD) rfl rfl hl.1 rfl (lv_room (Nat.le_of_ble_eq_true rfl)) dL_refuses_322 ⟨Nat.le_of_ble_eq_true rfl, Nat.le_of_ble_eq_true rfl⟩) hD hS hA (fun v139 u140 ga142 gb143 H locs h141 hP hD hS => ?_)
    obtain ⟨rfl, rfl⟩ := Prod.mk.inj (k138.symm.trans h141)
    refine lv_ldc (v := (-9999002)) hx hb hown w_0 dL_refuses_325 ?_
    refine lv_icmp_ne (tgt := 701) hx hb dL_refuses_327 (by decide) (fun cb144 => absurd (by decide) cb144) (fun cb144 => ?_)
    refine lv_aload_n hx hb dL_refuses_330 rfl (lv_at hl 3 rfl) ?_
    refine lv_bipush (v := 10) hx hb dL_refuses_331 (by decide) ?_
    refine lv_iload_n hx hb dL_refuses_333 rfl (lv_at hl 1 rfl) ?_
    refine lv_iload hx hb dL_refuses_334 (lv_at hl 0 rfl) ?_
    refine lv_iconst (v := 0) hx hb dL_refuses_336 (by decide) ?_
    have k145 : fCall S 10 (nI (N + (X % 50))) ((-1) - nI (X % 99)) 0 = ((-9999001), S) := t_hammer1 S _ 0 (fun q => absurd ((okL_iff e0 b1 (by omega)).mp q) (by omega))
    refine xw_callEi (va_runS (As := [.ref (av 0), .int 10, .int (nI (N + (X % 50))), .int ((-1) - nI (X % 99)), .int 0]) (rest := []) ⟨hx, hb, hml, hown, hts⟩ (c_call l hst D y av ga142 gb143 H.size S 10 (nI (N + (X % 50))) ((-1) - nI (X % 99)) 0 hG.ok) (va_cwS 5 hts gL_refuses_L_call rfl rfl rfl hd_L_call ⟨Nat.le_of_ble_eq_true rfl, Nat.le_of_ble_eq_true rfl⟩) (lS hE hXE hLN hXZ hS hA hP hD) rfl rfl hl.1 rfl (lv_room (Nat.le_of_ble_eq_true rfl)) dL_refuses_337 ⟨Nat.le_of_ble_eq_true rfl, Nat.le_of_ble_eq_true rfl⟩) hD hS hA (fun v146 u147 ga149 gb150 H locs h148 hP hD hS => ?_)
    obtain ⟨rfl, rfl⟩ := Prod.mk.inj (k145.symm.trans h148)
    refine lv_ldc (v := (-9999001)) hx hb hown w_1 dL_refuses_340 ?_
    refine lv_icmp_ne (tgt := 701) hx hb dL_refuses_342 (by decide) (fun cb151 => absurd (by decide) cb151) (fun cb151 => ?_)
    refine lv_aload_n hx hb dL_refuses_345 rfl (lv_at hl 3 rfl) ?_
    refine lv_bipush (v := 10) hx hb dL_refuses_346 (by decide) ?_
    refine lv_iload_n hx hb dL_refuses_348 rfl (lv_at hl 4 rfl) ?_
    refine lv_iload_n hx hb dL_refuses_349 rfl (lv_at hl 2 rfl) ?_
    refine lv_irem hx hb dL_refuses_350 (nI_ne0 (n := N) (by omega) (by omega)) ?_
    refine lv_topi (fun z152 ez152 => ?_)
    obtain rfl : z152 = nI (X % N) := ez152.trans ((pk_rem (a := X) (d := N) (by omega) (by omega) (by omega) : nI X - nI X / nI N * nI N = _))
    refine lv_iload_n hx hb dL_refuses_351 rfl (lv_at hl 4 rfl) ?_
    refine lv_iconst (v := 2) hx hb dL_refuses_352 (by decide) ?_
    refine lv_irem hx hb dL_refuses_353 (by decide) ?_
    refine lv_topi (fun z153 ez153 => ?_)
    obtain rfl : z153 = nI (X % 2) := ez153.trans ((pk_rem (a := X) (d := 2) (by omega) (by omega) (by omega) : nI X - nI X / nI 2 * nI 2 = _))
    refine lv_if_ne (tgt := 361) hx hb dL_refuses_354 (by decide) (fun cb154 => absurd (congrArg nI (show (X % 2) = 0 by omega)) cb154) (fun cb154 => ?_)
    refine lv_iconst (v := 0) hx hb dL_refuses_357 (by decide) ?_
    refine lv_goto (tgt := 369) hx hb dL_refuses_358 (by decide) ?_
    refine lv_iconst (v := 0) hx hb dL_refuses_369 (by decide) ?_
    have k155 : fCall S 10 (nI (X % N)) 0 0 = ((-9999002), S) := t_hammer2 S 0 (okL_nI hG.gd hxn) (Or.inl (by decide))
    refine xw_callEi (va_runS (As := [.ref (av 0), .int 10, .int (nI (X % N)), .int 0, .int 0]) (rest := []) ⟨hx, hb, hml, hown, hts⟩ (c_call l hst D y av ga149 gb150 H.size S 10 (nI (X % N)) 0 0 hG.ok) (va_cwS 5 hts gL_refuses_L_call rfl rfl rfl hd_L_call ⟨Nat.le_of_ble_eq_true rfl, Nat.le_of_ble_eq_true rfl⟩) (lS hE hXE hLN hXZ hS hA hP hD) rfl rfl hl.1 rfl (lv_room (Nat.le_of_ble_eq_true rfl)) dL_refuses_370 ⟨Nat.le_of_ble_eq_true rfl, Nat.le_of_ble_eq_true rfl⟩) hD hS hA (fun v156 u157 ga159 gb160 H locs h158 hP hD hS => ?_)
    obtain ⟨rfl, rfl⟩ := Prod.mk.inj (k155.symm.trans h158)
    refine lv_ldc (v := (-9999002)) hx hb hown w_0 dL_refuses_373 ?_
    refine lv_icmp_ne (tgt := 701) hx hb dL_refuses_375 (by decide) (fun cb161 => absurd (by decide) cb161) (fun cb161 => ?_)
    refine lv_aload_n hx hb dL_refuses_378 rfl (lv_at hl 3 rfl) ?_
    refine lv_bipush (v := 11) hx hb dL_refuses_379 (by decide) ?_
    refine lv_iload_n hx hb dL_refuses_381 rfl (lv_at hl 4 rfl) ?_
    refine lv_iconst (v := 2) hx hb dL_refuses_382 (by decide) ?_
    refine lv_irem hx hb dL_refuses_383 (by decide) ?_
    refine lv_topi (fun z162 ez162 => ?_)
    obtain rfl : z162 = nI (X % 2) := ez162.trans ((pk_rem (a := X) (d := 2) (by omega) (by omega) (by omega) : nI X - nI X / nI 2 * nI 2 = _))
    refine lv_if_ne (tgt := 391) hx hb dL_refuses_384 (by decide) (fun cb163 => absurd (congrArg nI (show (X % 2) = 0 by omega)) cb163) (fun cb163 => ?_)
    refine lv_iconst (v := 0) hx hb dL_refuses_387 (by decide) ?_
    refine lv_goto (tgt := 398) hx hb dL_refuses_388 (by decide) ?_
    refine lv_iconst (v := 0) hx hb dL_refuses_398 (by decide) ?_
    refine lv_iconst (v := 0) hx hb dL_refuses_399 (by decide) ?_
    have k164 : fCall S 11 0 0 0 = ((-9999002), S) := t_all S 0 0 (Or.inl (by decide))
    refine xw_callEi (va_runS (As := [.ref (av 0), .int 11, .int 0, .int 0, .int 0]) (rest := []) ⟨hx, hb, hml, hown, hts⟩ (c_call l hst D y av ga159 gb160 H.size S 11 0 0 0 hG.ok) (va_cwS 5 hts gL_refuses_L_call rfl rfl rfl hd_L_call ⟨Nat.le_of_ble_eq_true rfl, Nat.le_of_ble_eq_true rfl⟩) (lS hE hXE hLN hXZ hS hA hP hD) rfl rfl hl.1 rfl (lv_room (Nat.le_of_ble_eq_true rfl)) dL_refuses_400 ⟨Nat.le_of_ble_eq_true rfl, Nat.le_of_ble_eq_true rfl⟩) hD hS hA (fun v165 u166 ga168 gb169 H locs h167 hP hD hS => ?_)
    obtain ⟨rfl, rfl⟩ := Prod.mk.inj (k164.symm.trans h167)
    refine lv_ldc (v := (-9999002)) hx hb hown w_0 dL_refuses_403 ?_
    refine lv_icmp_ne (tgt := 701) hx hb dL_refuses_405 (by decide) (fun cb170 => absurd (by decide) cb170) (fun cb170 => ?_)
    refine lv_aload_n hx hb dL_refuses_408 rfl (lv_at hl 3 rfl) ?_
    refine lv_bipush (v := 12) hx hb dL_refuses_409 (by decide) ?_
    refine lv_iconst (v := 0) hx hb dL_refuses_411 (by decide) ?_
    refine lv_iload_n hx hb dL_refuses_412 rfl (lv_at hl 4 rfl) ?_
    refine lv_iconst (v := 5) hx hb dL_refuses_413 (by decide) ?_
    refine lv_irem hx hb dL_refuses_414 (by decide) ?_
    refine lv_topi (fun z171 ez171 => ?_)
    obtain rfl : z171 = nI (X % 5) := ez171.trans ((pk_rem (a := X) (d := 5) (by omega) (by omega) (by omega) : nI X - nI X / nI 5 * nI 5 = _))
    refine lv_iconst (v := 0) hx hb dL_refuses_415 (by decide) ?_
    have k172 : fCall S 12 0 (nI (X % 5)) 0 = ((-9999002), S) := t_laysS S 0 (sv_0 (Or.inl ⟨rfl, Or.inl (nI_lt (b := 5) (by omega) (by omega))⟩))
    refine xw_callEi (va_runS (As := [.ref (av 0), .int 12, .int 0, .int (nI (X % 5)), .int 0]) (rest := []) ⟨hx, hb, hml, hown, hts⟩ (c_call l hst D y av ga168 gb169 H.size S 12 0 (nI (X % 5)) 0 hG.ok) (va_cwS 5 hts gL_refuses_L_call rfl rfl rfl hd_L_call ⟨Nat.le_of_ble_eq_true rfl, Nat.le_of_ble_eq_true rfl⟩) (lS hE hXE hLN hXZ hS hA hP hD) rfl rfl hl.1 rfl (lv_room (Nat.le_of_ble_eq_true rfl)) dL_refuses_416 ⟨Nat.le_of_ble_eq_true rfl, Nat.le_of_ble_eq_true rfl⟩) hD hS hA (fun v173 u174 ga176 gb177 H locs h175 hP hD hS => ?_)
    obtain ⟨rfl, rfl⟩ := Prod.mk.inj (k172.symm.trans h175)
    refine lv_ldc (v := (-9999002)) hx hb hown w_0 dL_refuses_419 ?_
    refine lv_icmp_ne (tgt := 701) hx hb dL_refuses_421 (by decide) (fun cb178 => absurd (by decide) cb178) (fun cb178 => ?_)
    refine lv_aload_n hx hb dL_refuses_424 rfl (lv_at hl 3 rfl) ?_
    refine lv_bipush (v := 12) hx hb dL_refuses_425 (by decide) ?_
    refine lv_iload_n hx hb dL_refuses_427 rfl (lv_at hl 4 rfl) ?_
    refine lv_iconst (v := 2) hx hb dL_refuses_428 (by decide) ?_
    refine lv_irem hx hb dL_refuses_429 (by decide) ?_
    refine lv_topi (fun z179 ez179 => ?_)
    obtain rfl : z179 = nI (X % 2) := ez179.trans ((pk_rem (a := X) (d := 2) (by omega) (by omega) (by omega) : nI X - nI X / nI 2 * nI 2 = _))
    refine lv_iload hx hb dL_refuses_430 (lv_at hl 0 rfl) ?_
    refine lv_iconst (v := 0) hx hb dL_refuses_432 (by decide) ?_
    have k180 : fCall S 12 (nI (X % 2)) ((-1) - nI (X % 99)) 0 = ((-9999002), S) := t_laysS S 0 (sv_0 (Or.inl ⟨by rw [hp]; rfl, Or.inl (neg_lt (by omega) (by decide))⟩))
    refine xw_callEi (va_runS (As := [.ref (av 0), .int 12, .int (nI (X % 2)), .int ((-1) - nI (X % 99)), .int 0]) (rest := []) ⟨hx, hb, hml, hown, hts⟩ (c_call l hst D y av ga176 gb177 H.size S 12 (nI (X % 2)) ((-1) - nI (X % 99)) 0 hG.ok) (va_cwS 5 hts gL_refuses_L_call rfl rfl rfl hd_L_call ⟨Nat.le_of_ble_eq_true rfl, Nat.le_of_ble_eq_true rfl⟩) (lS hE hXE hLN hXZ hS hA hP hD) rfl rfl hl.1 rfl (lv_room (Nat.le_of_ble_eq_true rfl)) dL_refuses_433 ⟨Nat.le_of_ble_eq_true rfl, Nat.le_of_ble_eq_true rfl⟩) hD hS hA (fun v181 u182 ga184 gb185 H locs h183 hP hD hS => ?_)
    obtain ⟨rfl, rfl⟩ := Prod.mk.inj (k180.symm.trans h183)
    refine lv_ldc (v := (-9999002)) hx hb hown w_0 dL_refuses_436 ?_
    refine lv_icmp_ne (tgt := 701) hx hb dL_refuses_438 (by decide) (fun cb186 => absurd (by decide) cb186) (fun cb186 => ?_)
    refine lv_aload_n hx hb dL_refuses_441 rfl (lv_at hl 3 rfl) ?_
    refine lv_bipush (v := 12) hx hb dL_refuses_442 (by decide) ?_
    refine lv_iconst (v := 2) hx hb dL_refuses_444 (by decide) ?_
    refine lv_iload_n hx hb dL_refuses_445 rfl (lv_at hl 4 rfl) ?_
    refine lv_bipush (v := 9) hx hb dL_refuses_446 (by decide) ?_
    refine lv_irem hx hb dL_refuses_448 (by decide) ?_
    refine lv_topi (fun z187 ez187 => ?_)
    obtain rfl : z187 = nI (X % 9) := ez187.trans ((pk_rem (a := X) (d := 9) (by omega) (by omega) (by omega) : nI X - nI X / nI 9 * nI 9 = _))
    refine lv_iadd hx hb dL_refuses_449 ?_
    refine lv_topi (fun z188 ez188 => ?_)
    obtain rfl : z188 = nI (2 + (X % 9)) := ez188.trans ((nI_add 2 (X % 9) : nI 2 + nI (X % 9) = _))
    refine lv_bipush (v := 10) hx hb dL_refuses_450 (by decide) ?_
    refine lv_iconst (v := 0) hx hb dL_refuses_452 (by decide) ?_
    have k189 : fCall S 12 (nI (2 + (X % 9))) 10 0 = ((-9999002), S) := t_laysS S 0 (sv_0 (Or.inr (Or.inr ⟨nI_ne0 (by omega) (by omega), fun q => absurd ((nI_eq (b := 1) (by omega) (by omega)).mp q) (by omega)⟩)))
    refine xw_callEi (va_runS (As := [.ref (av 0), .int 12, .int (nI (2 + (X % 9))), .int 10, .int 0]) (rest := []) ⟨hx, hb, hml, hown, hts⟩ (c_call l hst D y av ga184 gb185 H.size S 12 (nI (2 + (X % 9))) 10 0 hG.ok) (va_cwS 5 hts gL_refuses_L_call rfl rfl rfl hd_L_call ⟨Nat.le_of_ble_eq_true rfl, Nat.le_of_ble_eq_true rfl⟩) (lS hE hXE hLN hXZ hS hA hP hD) rfl rfl hl.1 rfl (lv_room (Nat.le_of_ble_eq_true rfl)) dL_refuses_453 ⟨Nat.le_of_ble_eq_true rfl, Nat.le_of_ble_eq_true rfl⟩) hD hS hA (fun v190 u191 ga193 gb194 H locs h192 hP hD hS => ?_)
    obtain ⟨rfl, rfl⟩ := Prod.mk.inj (k189.symm.trans h192)
    refine lv_ldc (v := (-9999002)) hx hb hown w_0 dL_refuses_456 ?_
    refine lv_icmp_ne (tgt := 701) hx hb dL_refuses_458 (by decide) (fun cb195 => absurd (by decide) cb195) (fun cb195 => ?_)
    refine lv_aload_n hx hb dL_refuses_461 rfl (lv_at hl 3 rfl) ?_
    refine lv_bipush (v := 14) hx hb dL_refuses_462 (by decide) ?_
    refine lv_iload_n hx hb dL_refuses_464 rfl (lv_at hl 1 rfl) ?_
    refine lv_iconst (v := 0) hx hb dL_refuses_465 (by decide) ?_
    refine lv_iconst (v := 0) hx hb dL_refuses_466 (by decide) ?_
    have k196 : fCall S 14 (nI (N + (X % 50))) 0 0 = ((-9999001), S) := t_life S 0 0 (fun q => absurd ((okL_iff e0 b1 (by omega)).mp q) (by omega))
    refine xw_callEi (va_runS (As := [.ref (av 0), .int 14, .int (nI (N + (X % 50))), .int 0, .int 0]) (rest := []) ⟨hx, hb, hml, hown, hts⟩ (c_call l hst D y av ga193 gb194 H.size S 14 (nI (N + (X % 50))) 0 0 hG.ok) (va_cwS 5 hts gL_refuses_L_call rfl rfl rfl hd_L_call ⟨Nat.le_of_ble_eq_true rfl, Nat.le_of_ble_eq_true rfl⟩) (lS hE hXE hLN hXZ hS hA hP hD) rfl rfl hl.1 rfl (lv_room (Nat.le_of_ble_eq_true rfl)) dL_refuses_467 ⟨Nat.le_of_ble_eq_true rfl, Nat.le_of_ble_eq_true rfl⟩) hD hS hA (fun v197 u198 ga200 gb201 H locs h199 hP hD hS => ?_)
    obtain ⟨rfl, rfl⟩ := Prod.mk.inj (k196.symm.trans h199)
    refine lv_ldc (v := (-9999001)) hx hb hown w_1 dL_refuses_470 ?_
    refine lv_icmp_ne (tgt := 701) hx hb dL_refuses_472 (by decide) (fun cb202 => absurd (by decide) cb202) (fun cb202 => ?_)
    refine lv_aload_n hx hb dL_refuses_475 rfl (lv_at hl 3 rfl) ?_
    refine lv_bipush (v := 16) hx hb dL_refuses_476 (by decide) ?_
    refine lv_iload_n hx hb dL_refuses_478 rfl (lv_at hl 1 rfl) ?_
    refine lv_iconst (v := 0) hx hb dL_refuses_479 (by decide) ?_
    refine lv_iconst (v := 0) hx hb dL_refuses_480 (by decide) ?_
    have k203 : fCall S 16 (nI (N + (X % 50))) 0 0 = ((-9999001), S) := t_every1 S 0 0 (fun q => absurd ((okL_iff e0 b1 (by omega)).mp q) (by omega))
    refine xw_callEi (va_runS (As := [.ref (av 0), .int 16, .int (nI (N + (X % 50))), .int 0, .int 0]) (rest := []) ⟨hx, hb, hml, hown, hts⟩ (c_call l hst D y av ga200 gb201 H.size S 16 (nI (N + (X % 50))) 0 0 hG.ok) (va_cwS 5 hts gL_refuses_L_call rfl rfl rfl hd_L_call ⟨Nat.le_of_ble_eq_true rfl, Nat.le_of_ble_eq_true rfl⟩) (lS hE hXE hLN hXZ hS hA hP hD) rfl rfl hl.1 rfl (lv_room (Nat.le_of_ble_eq_true rfl)) dL_refuses_481 ⟨Nat.le_of_ble_eq_true rfl, Nat.le_of_ble_eq_true rfl⟩) hD hS hA (fun v204 u205 ga207 gb208 H locs h206 hP hD hS => ?_)
    obtain ⟨rfl, rfl⟩ := Prod.mk.inj (k203.symm.trans h206)
    refine lv_ldc (v := (-9999001)) hx hb hown w_1 dL_refuses_484 ?_
    refine lv_icmp_ne (tgt := 701) hx hb dL_refuses_486 (by decide) (fun cb209 => absurd (by decide) cb209) (fun cb209 => ?_)
    refine lv_aload_n hx hb dL_refuses_489 rfl (lv_at hl 3 rfl) ?_
    refine lv_bipush (v := 16) hx hb dL_refuses_490 (by decide) ?_
    refine lv_iload_n hx hb dL_refuses_492 rfl (lv_at hl 4 rfl) ?_
    refine lv_iload_n hx hb dL_refuses_493 rfl (lv_at hl 2 rfl) ?_
    refine lv_irem hx hb dL_refuses_494 (nI_ne0 (n := N) (by omega) (by omega)) ?_
    refine lv_topi (fun z210 ez210 => ?_)
    obtain rfl : z210 = nI (X % N) := ez210.trans ((pk_rem (a := X) (d := N) (by omega) (by omega) (by omega) : nI X - nI X / nI N * nI N = _))
    refine lv_bipush (v := 51) hx hb dL_refuses_495 (by decide) ?_
    refine lv_iload_n hx hb dL_refuses_497 rfl (lv_at hl 4 rfl) ?_
    refine lv_bipush (v := 9) hx hb dL_refuses_498 (by decide) ?_
    refine lv_irem hx hb dL_refuses_500 (by decide) ?_
    refine lv_topi (fun z211 ez211 => ?_)
    obtain rfl : z211 = nI (X % 9) := ez211.trans ((pk_rem (a := X) (d := 9) (by omega) (by omega) (by omega) : nI X - nI X / nI 9 * nI 9 = _))
    refine lv_iadd hx hb dL_refuses_501 ?_
    refine lv_topi (fun z212 ez212 => ?_)
    obtain rfl : z212 = nI (51 + (X % 9)) := ez212.trans ((nI_add 51 (X % 9) : nI 51 + nI (X % 9) = _))
    refine lv_iconst (v := 1) hx hb dL_refuses_502 (by decide) ?_
    have k213 : fCall S 16 (nI (X % N)) (nI (51 + (X % 9))) 1 = ((-9999002), S) := t_every2 S 1 (okL_nI hG.gd hxn) (Or.inr (nI_lt (a := 50) (by omega) (by omega)))
    refine xw_callEi (va_runS (As := [.ref (av 0), .int 16, .int (nI (X % N)), .int (nI (51 + (X % 9))), .int 1]) (rest := []) ⟨hx, hb, hml, hown, hts⟩ (c_call l hst D y av ga207 gb208 H.size S 16 (nI (X % N)) (nI (51 + (X % 9))) 1 hG.ok) (va_cwS 5 hts gL_refuses_L_call rfl rfl rfl hd_L_call ⟨Nat.le_of_ble_eq_true rfl, Nat.le_of_ble_eq_true rfl⟩) (lS hE hXE hLN hXZ hS hA hP hD) rfl rfl hl.1 rfl (lv_room (Nat.le_of_ble_eq_true rfl)) dL_refuses_503 ⟨Nat.le_of_ble_eq_true rfl, Nat.le_of_ble_eq_true rfl⟩) hD hS hA (fun v214 u215 ga217 gb218 H locs h216 hP hD hS => ?_)
    obtain ⟨rfl, rfl⟩ := Prod.mk.inj (k213.symm.trans h216)
    refine lv_ldc (v := (-9999002)) hx hb hown w_0 dL_refuses_506 ?_
    refine lv_icmp_ne (tgt := 701) hx hb dL_refuses_508 (by decide) (fun cb219 => absurd (by decide) cb219) (fun cb219 => ?_)
    refine lv_aload_n hx hb dL_refuses_511 rfl (lv_at hl 3 rfl) ?_
    refine lv_bipush (v := 16) hx hb dL_refuses_512 (by decide) ?_
    refine lv_iload_n hx hb dL_refuses_514 rfl (lv_at hl 4 rfl) ?_
    refine lv_iload_n hx hb dL_refuses_515 rfl (lv_at hl 2 rfl) ?_
    refine lv_irem hx hb dL_refuses_516 (nI_ne0 (n := N) (by omega) (by omega)) ?_
    refine lv_topi (fun z220 ez220 => ?_)
    obtain rfl : z220 = nI (X % N) := ez220.trans ((pk_rem (a := X) (d := N) (by omega) (by omega) (by omega) : nI X - nI X / nI N * nI N = _))
    refine lv_iconst (v := 1) hx hb dL_refuses_517 (by decide) ?_
    refine lv_iconst (v := 0) hx hb dL_refuses_518 (by decide) ?_
    have k221 : fCall S 16 (nI (X % N)) 1 0 = ((-9999002), S) := t_every3 S (okL_nI hG.gd hxn) (by decide) (by decide) (Or.inl (by decide))
    refine xw_callEi (va_runS (As := [.ref (av 0), .int 16, .int (nI (X % N)), .int 1, .int 0]) (rest := []) ⟨hx, hb, hml, hown, hts⟩ (c_call l hst D y av ga217 gb218 H.size S 16 (nI (X % N)) 1 0 hG.ok) (va_cwS 5 hts gL_refuses_L_call rfl rfl rfl hd_L_call ⟨Nat.le_of_ble_eq_true rfl, Nat.le_of_ble_eq_true rfl⟩) (lS hE hXE hLN hXZ hS hA hP hD) rfl rfl hl.1 rfl (lv_room (Nat.le_of_ble_eq_true rfl)) dL_refuses_519 ⟨Nat.le_of_ble_eq_true rfl, Nat.le_of_ble_eq_true rfl⟩) hD hS hA (fun v222 u223 ga225 gb226 H locs h224 hP hD hS => ?_)
    obtain ⟨rfl, rfl⟩ := Prod.mk.inj (k221.symm.trans h224)
    refine lv_ldc (v := (-9999002)) hx hb hown w_0 dL_refuses_522 ?_
    refine lv_icmp_ne (tgt := 701) hx hb dL_refuses_524 (by decide) (fun cb227 => absurd (by decide) cb227) (fun cb227 => ?_)
    refine lv_aload_n hx hb dL_refuses_527 rfl (lv_at hl 3 rfl) ?_
    refine lv_bipush (v := 17) hx hb dL_refuses_528 (by decide) ?_
    refine lv_iload_n hx hb dL_refuses_530 rfl (lv_at hl 1 rfl) ?_
    refine lv_iconst (v := 0) hx hb dL_refuses_531 (by decide) ?_
    refine lv_iconst (v := 0) hx hb dL_refuses_532 (by decide) ?_
    have k228 : fCall S 17 (nI (N + (X % 50))) 0 0 = ((-9999001), S) := t_best1 S 0 0 (fun q => absurd ((okL_iff e0 b1 (by omega)).mp q) (by omega))
    refine xw_callEi (va_runS (As := [.ref (av 0), .int 17, .int (nI (N + (X % 50))), .int 0, .int 0]) (rest := []) ⟨hx, hb, hml, hown, hts⟩ (c_call l hst D y av ga225 gb226 H.size S 17 (nI (N + (X % 50))) 0 0 hG.ok) (va_cwS 5 hts gL_refuses_L_call rfl rfl rfl hd_L_call ⟨Nat.le_of_ble_eq_true rfl, Nat.le_of_ble_eq_true rfl⟩) (lS hE hXE hLN hXZ hS hA hP hD) rfl rfl hl.1 rfl (lv_room (Nat.le_of_ble_eq_true rfl)) dL_refuses_533 ⟨Nat.le_of_ble_eq_true rfl, Nat.le_of_ble_eq_true rfl⟩) hD hS hA (fun v229 u230 ga232 gb233 H locs h231 hP hD hS => ?_)
    obtain ⟨rfl, rfl⟩ := Prod.mk.inj (k228.symm.trans h231)
    refine lv_ldc (v := (-9999001)) hx hb hown w_1 dL_refuses_536 ?_
    refine lv_icmp_ne (tgt := 701) hx hb dL_refuses_538 (by decide) (fun cb234 => absurd (by decide) cb234) (fun cb234 => ?_)
    refine lv_aload_n hx hb dL_refuses_541 rfl (lv_at hl 3 rfl) ?_
    refine lv_bipush (v := 17) hx hb dL_refuses_542 (by decide) ?_
    refine lv_iload_n hx hb dL_refuses_544 rfl (lv_at hl 4 rfl) ?_
    refine lv_iload_n hx hb dL_refuses_545 rfl (lv_at hl 2 rfl) ?_
    refine lv_irem hx hb dL_refuses_546 (nI_ne0 (n := N) (by omega) (by omega)) ?_
    refine lv_topi (fun z235 ez235 => ?_)
    obtain rfl : z235 = nI (X % N) := ez235.trans ((pk_rem (a := X) (d := N) (by omega) (by omega) (by omega) : nI X - nI X / nI N * nI N = _))
    refine lv_sipush (v := 501) hx hb dL_refuses_547 (by decide) ?_
    refine lv_iload_n hx hb dL_refuses_550 rfl (lv_at hl 4 rfl) ?_
    refine lv_bipush (v := 9) hx hb dL_refuses_551 (by decide) ?_
    refine lv_irem hx hb dL_refuses_553 (by decide) ?_
    refine lv_topi (fun z236 ez236 => ?_)
    obtain rfl : z236 = nI (X % 9) := ez236.trans ((pk_rem (a := X) (d := 9) (by omega) (by omega) (by omega) : nI X - nI X / nI 9 * nI 9 = _))
    refine lv_iadd hx hb dL_refuses_554 ?_
    refine lv_topi (fun z237 ez237 => ?_)
    obtain rfl : z237 = nI (501 + (X % 9)) := ez237.trans ((nI_add 501 (X % 9) : nI 501 + nI (X % 9) = _))
    refine lv_iconst (v := 0) hx hb dL_refuses_555 (by decide) ?_
    have k238 : fCall S 17 (nI (X % N)) (nI (501 + (X % 9))) 0 = ((-9999002), S) := t_best2 S 0 (okL_nI hG.gd hxn) (Or.inr (nI_lt (a := 500) (by omega) (by omega)))
    refine xw_callEi (va_runS (As := [.ref (av 0), .int 17, .int (nI (X % N)), .int (nI (501 + (X % 9))), .int 0]) (rest := []) ⟨hx, hb, hml, hown, hts⟩ (c_call l hst D y av ga232 gb233 H.size S 17 (nI (X % N)) (nI (501 + (X % 9))) 0 hG.ok) (va_cwS 5 hts gL_refuses_L_call rfl rfl rfl hd_L_call ⟨Nat.le_of_ble_eq_true rfl, Nat.le_of_ble_eq_true rfl⟩) (lS hE hXE hLN hXZ hS hA hP hD) rfl rfl hl.1 rfl (lv_room (Nat.le_of_ble_eq_true rfl)) dL_refuses_556 ⟨Nat.le_of_ble_eq_true rfl, Nat.le_of_ble_eq_true rfl⟩) hD hS hA (fun v239 u240 ga242 gb243 H locs h241 hP hD hS => ?_)
    obtain ⟨rfl, rfl⟩ := Prod.mk.inj (k238.symm.trans h241)
    refine lv_ldc (v := (-9999002)) hx hb hown w_0 dL_refuses_559 ?_
    refine lv_icmp_ne (tgt := 701) hx hb dL_refuses_561 (by decide) (fun cb244 => absurd (by decide) cb244) (fun cb244 => ?_)
    refine lv_aload_n hx hb dL_refuses_564 rfl (lv_at hl 3 rfl) ?_
    refine lv_bipush (v := 18) hx hb dL_refuses_565 (by decide) ?_
    refine lv_iload_n hx hb dL_refuses_567 rfl (lv_at hl 1 rfl) ?_
    refine lv_iconst (v := 0) hx hb dL_refuses_568 (by decide) ?_
    refine lv_iconst (v := 0) hx hb dL_refuses_569 (by decide) ?_
    have k245 : fCall S 18 (nI (N + (X % 50))) 0 0 = ((-9999001), S) := t_moves S 0 0 (fun q => absurd ((okL_iff e0 b1 (by omega)).mp q) (by omega))
    refine xw_callEi (va_runS (As := [.ref (av 0), .int 18, .int (nI (N + (X % 50))), .int 0, .int 0]) (rest := []) ⟨hx, hb, hml, hown, hts⟩ (c_call l hst D y av ga242 gb243 H.size S 18 (nI (N + (X % 50))) 0 0 hG.ok) (va_cwS 5 hts gL_refuses_L_call rfl rfl rfl hd_L_call ⟨Nat.le_of_ble_eq_true rfl, Nat.le_of_ble_eq_true rfl⟩) (lS hE hXE hLN hXZ hS hA hP hD) rfl rfl hl.1 rfl (lv_room (Nat.le_of_ble_eq_true rfl)) dL_refuses_570 ⟨Nat.le_of_ble_eq_true rfl, Nat.le_of_ble_eq_true rfl⟩) hD hS hA (fun v246 u247 ga249 gb250 H locs h248 hP hD hS => ?_)
    obtain ⟨rfl, rfl⟩ := Prod.mk.inj (k245.symm.trans h248)
    refine lv_ldc (v := (-9999001)) hx hb hown w_1 dL_refuses_573 ?_
    refine lv_icmp_ne (tgt := 701) hx hb dL_refuses_575 (by decide) (fun cb251 => absurd (by decide) cb251) (fun cb251 => ?_)
    refine lv_aload_n hx hb dL_refuses_578 rfl (lv_at hl 3 rfl) ?_
    refine lv_bipush (v := 19) hx hb dL_refuses_579 (by decide) ?_
    refine lv_iload_n hx hb dL_refuses_581 rfl (lv_at hl 1 rfl) ?_
    refine lv_iconst (v := (-1)) hx hb dL_refuses_582 (by decide) ?_
    refine lv_iconst (v := 0) hx hb dL_refuses_583 (by decide) ?_
    have k252 : fCall S 19 (nI (N + (X % 50))) (-1) 0 = ((-9999001), S) := t_behind1 S _ 0 (fun q => absurd ((okL_iff e0 b1 (by omega)).mp q) (by omega))
    refine xw_callEi (va_runS (As := [.ref (av 0), .int 19, .int (nI (N + (X % 50))), .int (-1), .int 0]) (rest := []) ⟨hx, hb, hml, hown, hts⟩ (c_call l hst D y av ga249 gb250 H.size S 19 (nI (N + (X % 50))) (-1) 0 hG.ok) (va_cwS 5 hts gL_refuses_L_call rfl rfl rfl hd_L_call ⟨Nat.le_of_ble_eq_true rfl, Nat.le_of_ble_eq_true rfl⟩) (lS hE hXE hLN hXZ hS hA hP hD) rfl rfl hl.1 rfl (lv_room (Nat.le_of_ble_eq_true rfl)) dL_refuses_584 ⟨Nat.le_of_ble_eq_true rfl, Nat.le_of_ble_eq_true rfl⟩) hD hS hA (fun v253 u254 ga256 gb257 H locs h255 hP hD hS => ?_)
    obtain ⟨rfl, rfl⟩ := Prod.mk.inj (k252.symm.trans h255)
    refine lv_ldc (v := (-9999001)) hx hb hown w_1 dL_refuses_587 ?_
    refine lv_icmp_ne (tgt := 701) hx hb dL_refuses_589 (by decide) (fun cb258 => absurd (by decide) cb258) (fun cb258 => ?_)
    refine lv_aload_n hx hb dL_refuses_592 rfl (lv_at hl 3 rfl) ?_
    refine lv_bipush (v := 19) hx hb dL_refuses_593 (by decide) ?_
    refine lv_iload_n hx hb dL_refuses_595 rfl (lv_at hl 4 rfl) ?_
    refine lv_iload_n hx hb dL_refuses_596 rfl (lv_at hl 2 rfl) ?_
    refine lv_irem hx hb dL_refuses_597 (nI_ne0 (n := N) (by omega) (by omega)) ?_
    refine lv_topi (fun z259 ez259 => ?_)
    obtain rfl : z259 = nI (X % N) := ez259.trans ((pk_rem (a := X) (d := N) (by omega) (by omega) (by omega) : nI X - nI X / nI N * nI N = _))
    refine lv_iconst (v := (-1)) hx hb dL_refuses_598 (by decide) ?_
    refine lv_iload_n hx hb dL_refuses_599 rfl (lv_at hl 4 rfl) ?_
    refine lv_bipush (v := 9) hx hb dL_refuses_600 (by decide) ?_
    refine lv_irem hx hb dL_refuses_602 (by decide) ?_
    refine lv_topi (fun z260 ez260 => ?_)
    obtain rfl : z260 = nI (X % 9) := ez260.trans ((pk_rem (a := X) (d := 9) (by omega) (by omega) (by omega) : nI X - nI X / nI 9 * nI 9 = _))
    refine lv_isub hx hb dL_refuses_603 ?_
    refine lv_iconst (v := 0) hx hb dL_refuses_604 (by decide) ?_
    have k261 : fCall S 19 (nI (X % N)) ((-1) - nI (X % 9)) 0 = ((-9999002), S) := t_behind2 S 0 (okL_nI hG.gd hxn) (Or.inl (neg_lt (by omega) (by decide)))
    refine xw_callEi (va_runS (As := [.ref (av 0), .int 19, .int (nI (X % N)), .int ((-1) - nI (X % 9)), .int 0]) (rest := []) ⟨hx, hb, hml, hown, hts⟩ (c_call l hst D y av ga256 gb257 H.size S 19 (nI (X % N)) ((-1) - nI (X % 9)) 0 hG.ok) (va_cwS 5 hts gL_refuses_L_call rfl rfl rfl hd_L_call ⟨Nat.le_of_ble_eq_true rfl, Nat.le_of_ble_eq_true rfl⟩) (lS hE hXE hLN hXZ hS hA hP hD) rfl rfl hl.1 rfl (lv_room (Nat.le_of_ble_eq_true rfl)) dL_refuses_605 ⟨Nat.le_of_ble_eq_true rfl, Nat.le_of_ble_eq_true rfl⟩) hD hS hA (fun v262 u263 ga265 gb266 H locs h264 hP hD hS => ?_)
    obtain ⟨rfl, rfl⟩ := Prod.mk.inj (k261.symm.trans h264)
    refine lv_ldc (v := (-9999002)) hx hb hown w_0 dL_refuses_608 ?_
    refine lv_icmp_ne (tgt := 701) hx hb dL_refuses_610 (by decide) (fun cb267 => absurd (by decide) cb267) (fun cb267 => ?_)
    refine lv_aload_n hx hb dL_refuses_613 rfl (lv_at hl 3 rfl) ?_
    refine lv_bipush (v := 20) hx hb dL_refuses_614 (by decide) ?_
    refine lv_iconst (v := 2) hx hb dL_refuses_616 (by decide) ?_
    refine lv_iload_n hx hb dL_refuses_617 rfl (lv_at hl 4 rfl) ?_
    refine lv_bipush (v := 50) hx hb dL_refuses_618 (by decide) ?_
    refine lv_irem hx hb dL_refuses_620 (by decide) ?_
    refine lv_topi (fun z268 ez268 => ?_)
    obtain rfl : z268 = nI (X % 50) := ez268.trans ((pk_rem (a := X) (d := 50) (by omega) (by omega) (by omega) : nI X - nI X / nI 50 * nI 50 = _))
    refine lv_iadd hx hb dL_refuses_621 ?_
    refine lv_topi (fun z269 ez269 => ?_)
    obtain rfl : z269 = nI (2 + (X % 50)) := ez269.trans ((nI_add 2 (X % 50) : nI 2 + nI (X % 50) = _))
    refine lv_iconst (v := 0) hx hb dL_refuses_622 (by decide) ?_
    refine lv_iconst (v := 0) hx hb dL_refuses_623 (by decide) ?_
    have k270 : fCall S 20 (nI (2 + (X % 50))) 0 0 = ((-9999001), S) := t_keep S 0 0 (Or.inr (nI_le (a := 2) (by omega) (by omega)))
    refine xw_callEi (va_runS (As := [.ref (av 0), .int 20, .int (nI (2 + (X % 50))), .int 0, .int 0]) (rest := []) ⟨hx, hb, hml, hown, hts⟩ (c_call l hst D y av ga265 gb266 H.size S 20 (nI (2 + (X % 50))) 0 0 hG.ok) (va_cwS 5 hts gL_refuses_L_call rfl rfl rfl hd_L_call ⟨Nat.le_of_ble_eq_true rfl, Nat.le_of_ble_eq_true rfl⟩) (lS hE hXE hLN hXZ hS hA hP hD) rfl rfl hl.1 rfl (lv_room (Nat.le_of_ble_eq_true rfl)) dL_refuses_624 ⟨Nat.le_of_ble_eq_true rfl, Nat.le_of_ble_eq_true rfl⟩) hD hS hA (fun v271 u272 ga274 gb275 H locs h273 hP hD hS => ?_)
    obtain ⟨rfl, rfl⟩ := Prod.mk.inj (k270.symm.trans h273)
    refine lv_ldc (v := (-9999001)) hx hb hown w_1 dL_refuses_627 ?_
    refine lv_icmp_ne (tgt := 701) hx hb dL_refuses_629 (by decide) (fun cb276 => absurd (by decide) cb276) (fun cb276 => ?_)
    refine lv_aload_n hx hb dL_refuses_632 rfl (lv_at hl 3 rfl) ?_
    refine lv_bipush (v := 21) hx hb dL_refuses_633 (by decide) ?_
    refine lv_iconst (v := (-1)) hx hb dL_refuses_635 (by decide) ?_
    refine lv_iload_n hx hb dL_refuses_636 rfl (lv_at hl 4 rfl) ?_
    refine lv_bipush (v := 9) hx hb dL_refuses_637 (by decide) ?_
    refine lv_irem hx hb dL_refuses_639 (by decide) ?_
    refine lv_topi (fun z277 ez277 => ?_)
    obtain rfl : z277 = nI (X % 9) := ez277.trans ((pk_rem (a := X) (d := 9) (by omega) (by omega) (by omega) : nI X - nI X / nI 9 * nI 9 = _))
    refine lv_isub hx hb dL_refuses_640 ?_
    refine lv_iconst (v := 0) hx hb dL_refuses_641 (by decide) ?_
    refine lv_iconst (v := 0) hx hb dL_refuses_642 (by decide) ?_
    have k278 : fCall S 21 ((-1) - nI (X % 9)) 0 0 = ((-9999001), S) := t_back S 0 0 (Or.inl (neg_lt (by omega) (by decide)))
    refine xw_callEi (va_runS (As := [.ref (av 0), .int 21, .int ((-1) - nI (X % 9)), .int 0, .int 0]) (rest := []) ⟨hx, hb, hml, hown, hts⟩ (c_call l hst D y av ga274 gb275 H.size S 21 ((-1) - nI (X % 9)) 0 0 hG.ok) (va_cwS 5 hts gL_refuses_L_call rfl rfl rfl hd_L_call ⟨Nat.le_of_ble_eq_true rfl, Nat.le_of_ble_eq_true rfl⟩) (lS hE hXE hLN hXZ hS hA hP hD) rfl rfl hl.1 rfl (lv_room (Nat.le_of_ble_eq_true rfl)) dL_refuses_643 ⟨Nat.le_of_ble_eq_true rfl, Nat.le_of_ble_eq_true rfl⟩) hD hS hA (fun v279 u280 ga282 gb283 H locs h281 hP hD hS => ?_)
    obtain ⟨rfl, rfl⟩ := Prod.mk.inj (k278.symm.trans h281)
    refine lv_ldc (v := (-9999001)) hx hb hown w_1 dL_refuses_646 ?_
    refine lv_icmp_ne (tgt := 701) hx hb dL_refuses_648 (by decide) (fun cb284 => absurd (by decide) cb284) (fun cb284 => ?_)
    refine lv_aload_n hx hb dL_refuses_651 rfl (lv_at hl 3 rfl) ?_
    refine lv_iconst (v := 0) hx hb dL_refuses_652 (by decide) ?_
    refine lv_lconst (v := 0) hx hb dL_refuses_653 (by decide) ?_
    have k285 : fScr S 0 0 = ((-9999002), S) := t_scr1 S 0 (by decide)
    refine xl_calli (vx_runSW (As := [.ref (av 0), .int 0, .long 0]) (rest := []) ⟨hx, hb, hml, hown, hts⟩ (c_L_doScript l hst D y (av 0) (av 1) (av 2) (av 3) (av 4) (av 5) (av 7) (av 8) (av 9) (av 10) H.size (S.2.2.1) (S.2.2.2.1) 0 0 (hG.ok).2.1) (vx_cwSW 3 hts gL_refuses_L_doScript rfl rfl rfl hd_L_doScript ⟨Nat.le_of_ble_eq_true rfl, Nat.le_of_ble_eq_true rfl⟩) (lS hE hXE hLN hXZ hS hA (hP.sub [0, 3, 4, 5, 6, 7, 8] rfl) (hD.sub [0, 3, 4, 5, 6, 7, 8] (by decide) rfl)) rfl rfl hl.1 rfl (lv_room (Nat.le_of_ble_eq_true rfl)) dL_refuses_654 ⟨Nat.le_of_ble_eq_true rfl, Nat.le_of_ble_eq_true rfl⟩) hP hD hS hA [0, 3, 4, 5, 6, 7, 8] rfl (by decide) (fun _ => rfl) (fun v286 u287 H locs h288 hP hD hS => ?_)
    have h2882 : fScr S 0 0 = (v286, (S.1, S.2.1, S.2.2.1, u287, S.2.2.2.2)) := by unfold fScr; rw [h288]
    obtain ⟨h2883, h2884⟩ := Prod.mk.inj (k285.symm.trans h2882)
    obtain rfl : (-9999002) = v286 := h2883
    have hP : va_P D vwCl (oW y av ga282 gb283 (S.1, S.2.1, S.2.2.1, u287, S.2.2.2.2)) H := hP
    have hD : va_D A (oW y av ga282 gb283 (S.1, S.2.1, S.2.2.1, u287, S.2.2.2.2)) := hD
    rw [← h2884] at hP hD
    refine lv_ldc (v := (-9999002)) hx hb hown w_0 dL_refuses_657 ?_
    refine lv_icmp_ne (tgt := 701) hx hb dL_refuses_659 (by decide) (fun cb289 => absurd (by decide) cb289) (fun cb289 => ?_)
    refine lv_aload_n hx hb dL_refuses_662 rfl (lv_at hl 3 rfl) ?_
    refine lv_iconst (v := 1) hx hb dL_refuses_663 (by decide) ?_
    refine lv_ldc2 (v := 1000000) hx hb hown w_2 dL_refuses_664 ?_
    refine lv_iload_n hx hb dL_refuses_667 rfl (lv_at hl 4 rfl) ?_
    refine lv_i2l (v := (nI X).toInt64) hx hb dL_refuses_668 rfl ?_
    refine lv_ladd hx hb dL_refuses_669 ?_
    refine lv_topl (fun z290 ez290 => ?_)
    obtain rfl : z290 = lN (1000000 + X) := ez290.trans (show lN 1000000 + (nI X).toInt64 = _ by rw [nI_l (by omega), lN_add])
    have k291 : fScr S 1 (lN (1000000 + X)) = ((-9999002), S) := t_scr2 S (by omega) (by omega)
    refine xl_calli (vx_runSW (As := [.ref (av 0), .int 1, .long (lN (1000000 + X))]) (rest := []) ⟨hx, hb, hml, hown, hts⟩ (c_L_doScript l hst D y (av 0) (av 1) (av 2) (av 3) (av 4) (av 5) (av 7) (av 8) (av 9) (av 10) H.size (S.2.2.1) (S.2.2.2.1) 1 (lN (1000000 + X)) (hG.ok).2.1) (vx_cwSW 3 hts gL_refuses_L_doScript rfl rfl rfl hd_L_doScript ⟨Nat.le_of_ble_eq_true rfl, Nat.le_of_ble_eq_true rfl⟩) (lS hE hXE hLN hXZ hS hA (hP.sub [0, 3, 4, 5, 6, 7, 8] rfl) (hD.sub [0, 3, 4, 5, 6, 7, 8] (by decide) rfl)) rfl rfl hl.1 rfl (lv_room (Nat.le_of_ble_eq_true rfl)) dL_refuses_670 ⟨Nat.le_of_ble_eq_true rfl, Nat.le_of_ble_eq_true rfl⟩) hP hD hS hA [0, 3, 4, 5, 6, 7, 8] rfl (by decide) (fun _ => rfl) (fun v292 u293 H locs h294 hP hD hS => ?_)
    have h2942 : fScr S 1 (lN (1000000 + X)) = (v292, (S.1, S.2.1, S.2.2.1, u293, S.2.2.2.2)) := by unfold fScr; rw [h294]
    obtain ⟨h2943, h2944⟩ := Prod.mk.inj (k291.symm.trans h2942)
    obtain rfl : (-9999002) = v292 := h2943
    have hP : va_P D vwCl (oW y av ga282 gb283 (S.1, S.2.1, S.2.2.1, u293, S.2.2.2.2)) H := hP
    have hD : va_D A (oW y av ga282 gb283 (S.1, S.2.1, S.2.2.1, u293, S.2.2.2.2)) := hD
    rw [← h2944] at hP hD
    refine lv_ldc (v := (-9999002)) hx hb hown w_0 dL_refuses_673 ?_
    refine lv_icmp_ne (tgt := 701) hx hb dL_refuses_675 (by decide) (fun cb295 => absurd (by decide) cb295) (fun cb295 => ?_)
    refine lv_aload_n hx hb dL_refuses_678 rfl (lv_at hl 3 rfl) ?_
    refine lv_iload_n hx hb dL_refuses_679 rfl (lv_at hl 4 rfl) ?_
    refine lv_i2l (v := (nI X).toInt64) hx hb dL_refuses_680 rfl ?_
    refine lv_sipush (v := 301) hx hb dL_refuses_681 (by decide) ?_
    refine lv_iload_n hx hb dL_refuses_684 rfl (lv_at hl 4 rfl) ?_
    refine lv_bipush (v := 9) hx hb dL_refuses_685 (by decide) ?_
    refine lv_irem hx hb dL_refuses_687 (by decide) ?_
    refine lv_topi (fun z296 ez296 => ?_)
    obtain rfl : z296 = nI (X % 9) := ez296.trans ((pk_rem (a := X) (d := 9) (by omega) (by omega) (by omega) : nI X - nI X / nI 9 * nI 9 = _))
    refine lv_iadd hx hb dL_refuses_688 ?_
    refine lv_topi (fun z297 ez297 => ?_)
    obtain rfl : z297 = nI (301 + (X % 9)) := ez297.trans ((nI_add 301 (X % 9) : nI 301 + nI (X % 9) = _))
    have k298 : fSim S ((nI X).toInt64) (nI (301 + (X % 9))) = ((-9999002), S) := t_sim S _ (Or.inr (nI_lt (a := 300) (by omega) (by omega)))
    refine xl_calli (vx_runSW (As := [.ref (av 0), .long ((nI X).toInt64), .int (nI (301 + (X % 9)))]) (rest := []) ⟨hx, hb, hml, hown, hts⟩ (c_L_doSimulate l hst D y (av 0) (av 1) (av 2) (av 3) (av 4) (av 5) (av 7) (av 8) (av 9) (av 10) H.size (S.2.2.1) (S.2.2.2.1) ((nI X).toInt64) (nI (301 + (X % 9))) (hG.ok).2.1) (vx_cwSW 3 hts gL_refuses_L_doSimulate rfl rfl rfl hd_L_doSimulate ⟨Nat.le_of_ble_eq_true rfl, Nat.le_of_ble_eq_true rfl⟩) (lS hE hXE hLN hXZ hS hA (hP.sub [0, 3, 4, 5, 6, 7, 8] rfl) (hD.sub [0, 3, 4, 5, 6, 7, 8] (by decide) rfl)) rfl rfl hl.1 rfl (lv_room (Nat.le_of_ble_eq_true rfl)) dL_refuses_689 ⟨Nat.le_of_ble_eq_true rfl, Nat.le_of_ble_eq_true rfl⟩) hP hD hS hA [0, 3, 4, 5, 6, 7, 8] rfl (by decide) (fun _ => rfl) (fun v299 u300 H locs h301 hP hD hS => ?_)
    have h3012 : fSim S ((nI X).toInt64) (nI (301 + (X % 9))) = (v299, (S.1, S.2.1, S.2.2.1, u300, S.2.2.2.2)) := by unfold fSim; rw [h301]
    obtain ⟨h3013, h3014⟩ := Prod.mk.inj (k298.symm.trans h3012)
    obtain rfl : (-9999002) = v299 := h3013
    have hP : va_P D vwCl (oW y av ga282 gb283 (S.1, S.2.1, S.2.2.1, u300, S.2.2.2.2)) H := hP
    have hD : va_D A (oW y av ga282 gb283 (S.1, S.2.1, S.2.2.1, u300, S.2.2.2.2)) := hD
    rw [← h3014] at hP hD
    refine lv_ldc (v := (-9999002)) hx hb hown w_0 dL_refuses_692 ?_
    refine lv_icmp_ne (tgt := 701) hx hb dL_refuses_694 (by decide) (fun cb302 => absurd (by decide) cb302) (fun cb302 => ?_)
    refine lv_iconst (v := 1) hx hb dL_refuses_697 (by decide) ?_
    refine lv_goto (tgt := 702) hx hb dL_refuses_698 (by decide) ?_
    refine W.widen (k := 200) (n := 3700) (Nat.le_of_ble_eq_true rfl) (Nat.le_of_ble_eq_true rfl) ?_
    exact W.zret (v := 1) hx hb hr rfl (fun t ht hW => ⟨⟨1, S, rfl, ⟨rfl, rfl⟩, ga282, gb283, by rw [ht]; exact hP, hD⟩, hS.F ht⟩) hS.2.2 dL_refuses_702
  · have hp : X % 2 = 1 := hpar
    refine lv_aload_n hx hb dL_refuses_0 rfl (lv_at hl 0 rfl) ?_
    refine lv_iconst (v := 2) hx hb dL_refuses_1 (by decide) ?_
    refine lv_iconst (v := 0) hx hb dL_refuses_2 (by decide) ?_
    refine lv_iconst (v := 0) hx hb dL_refuses_3 (by decide) ?_
    refine lv_iconst (v := 0) hx hb dL_refuses_4 (by decide) ?_
    have k303 : fCall S 2 0 0 0 = (nI N, S) := (s_ab0 S 0 0).trans (by rw [e0])
    refine xw_callEi (va_runS (As := [.ref (av 0), .int 2, .int 0, .int 0, .int 0]) (rest := []) ⟨hx, hb, hml, hown, hts⟩ (c_call l hst D y av ga gb s.heap.size S 2 0 0 0 hG.ok) (va_cwS 5 hts gL_refuses_L_call rfl rfl rfl hd_L_call ⟨Nat.le_of_ble_eq_true rfl, Nat.le_of_ble_eq_true rfl⟩) (lS hE hXE hLN hXZ hS hA hP hD) rfl rfl hl.1 rfl (lv_room (Nat.le_of_ble_eq_true rfl)) dL_refuses_5 ⟨Nat.le_of_ble_eq_true rfl, Nat.le_of_ble_eq_true rfl⟩) hD hS hA (fun v304 u305 ga307 gb308 H locs h306 hP hD hS => ?_)
    obtain ⟨rfl, rfl⟩ := Prod.mk.inj (k303.symm.trans h306)
    refine lv_istore_n (lv' := [(2, .int (nI N)), (0, .ref (av 0)), (1, .int (nI X))]) hx hb dL_refuses_8 rfl hl (by decide) rfl (fun ls hl => ?_)
    refine lv_iload_n hx hb dL_refuses_9 rfl (lv_at hl 0 rfl) ?_
    refine lv_iload_n hx hb dL_refuses_10 rfl (lv_at hl 2 rfl) ?_
    refine lv_bipush (v := 50) hx hb dL_refuses_11 (by decide) ?_
    refine lv_irem hx hb dL_refuses_13 (by decide) ?_
    refine lv_topi (fun z309 ez309 => ?_)
    obtain rfl : z309 = nI (X % 50) := ez309.trans ((pk_rem (a := X) (d := 50) (by omega) (by omega) (by omega) : nI X - nI X / nI 50 * nI 50 = _))
    refine lv_iadd hx hb dL_refuses_14 ?_
    refine lv_topi (fun z310 ez310 => ?_)
    obtain rfl : z310 = nI (N + (X % 50)) := ez310.trans ((nI_add N (X % 50) : nI N + nI (X % 50) = _))
    refine lv_istore_n (lv' := [(3, .int (nI (N + (X % 50)))), (2, .int (nI N)), (0, .ref (av 0)), (1, .int (nI X))]) hx hb dL_refuses_15 rfl hl (by decide) rfl (fun ls hl => ?_)
    refine lv_iload_n hx hb dL_refuses_16 rfl (lv_at hl 3 rfl) ?_
    refine lv_iconst (v := 2) hx hb dL_refuses_17 (by decide) ?_
    refine lv_irem hx hb dL_refuses_18 (by decide) ?_
    refine lv_topi (fun z311 ez311 => ?_)
    obtain rfl : z311 = nI (X % 2) := ez311.trans ((pk_rem (a := X) (d := 2) (by omega) (by omega) (by omega) : nI X - nI X / nI 2 * nI 2 = _))
    refine lv_if_ne (tgt := 31) hx hb dL_refuses_19 (by decide) (fun cb312 => ?_) (fun cb312 => absurd cb312 (fun q => absurd ((nI_eq (a := X % 2) (b := 0) (by omega) (by omega)).mp q) (by omega)))
    refine lv_sipush (v := 1000) hx hb dL_refuses_31 (by decide) ?_
    refine lv_iload_n hx hb dL_refuses_34 rfl (lv_at hl 3 rfl) ?_
    refine lv_bipush (v := 99) hx hb dL_refuses_35 (by decide) ?_
    refine lv_irem hx hb dL_refuses_37 (by decide) ?_
    refine lv_topi (fun z313 ez313 => ?_)
    obtain rfl : z313 = nI (X % 99) := ez313.trans ((pk_rem (a := X) (d := 99) (by omega) (by omega) (by omega) : nI X - nI X / nI 99 * nI 99 = _))
    refine lv_iadd hx hb dL_refuses_38 ?_
    refine lv_topi (fun z314 ez314 => ?_)
    obtain rfl : z314 = nI (1000 + (X % 99)) := ez314.trans ((nI_add 1000 (X % 99) : nI 1000 + nI (X % 99) = _))
    refine lv_istore (lv' := [(4, .int (nI (1000 + (X % 99)))), (3, .int (nI (N + (X % 50)))), (2, .int (nI N)), (0, .ref (av 0)), (1, .int (nI X))]) hx hb dL_refuses_39 hl (by decide) rfl (fun ls hl => ?_)
    refine lv_aload_n hx hb dL_refuses_41 rfl (lv_at hl 3 rfl) ?_
    refine lv_iconst (v := 0) hx hb dL_refuses_42 (by decide) ?_
    refine lv_iload_n hx hb dL_refuses_43 rfl (lv_at hl 4 rfl) ?_
    refine lv_iconst (v := 2) hx hb dL_refuses_44 (by decide) ?_
    refine lv_irem hx hb dL_refuses_45 (by decide) ?_
    refine lv_topi (fun z315 ez315 => ?_)
    obtain rfl : z315 = nI (X % 2) := ez315.trans ((pk_rem (a := X) (d := 2) (by omega) (by omega) (by omega) : nI X - nI X / nI 2 * nI 2 = _))
    refine lv_if_ne (tgt := 58) hx hb dL_refuses_46 (by decide) (fun cb316 => ?_) (fun cb316 => absurd cb316 (fun q => absurd ((nI_eq (a := X % 2) (b := 0) (by omega) (by omega)).mp q) (by omega)))
    refine lv_sipush (v := 256) hx hb dL_refuses_58 (by decide) ?_
    refine lv_iload_n hx hb dL_refuses_61 rfl (lv_at hl 4 rfl) ?_
    refine lv_bipush (v := 9) hx hb dL_refuses_62 (by decide) ?_
    refine lv_irem hx hb dL_refuses_64 (by decide) ?_
    refine lv_topi (fun z317 ez317 => ?_)
    obtain rfl : z317 = nI (X % 9) := ez317.trans ((pk_rem (a := X) (d := 9) (by omega) (by omega) (by omega) : nI X - nI X / nI 9 * nI 9 = _))
    refine lv_iadd hx hb dL_refuses_65 ?_
    refine lv_topi (fun z318 ez318 => ?_)
    obtain rfl : z318 = nI (256 + (X % 9)) := ez318.trans ((nI_add 256 (X % 9) : nI 256 + nI (X % 9) = _))
    refine lv_iconst (v := 0) hx hb dL_refuses_66 (by decide) ?_
    refine lv_iconst (v := 0) hx hb dL_refuses_67 (by decide) ?_
    have k319 : fCall S 0 (nI (256 + (X % 9))) 0 0 = ((-9999002), S) := t_append S 0 0 (Or.inr (nI_lt (a := 255) (by omega) (by omega)))
    refine xw_callEi (va_runS (As := [.ref (av 0), .int 0, .int (nI (256 + (X % 9))), .int 0, .int 0]) (rest := []) ⟨hx, hb, hml, hown, hts⟩ (c_call l hst D y av ga307 gb308 H.size S 0 (nI (256 + (X % 9))) 0 0 hG.ok) (va_cwS 5 hts gL_refuses_L_call rfl rfl rfl hd_L_call ⟨Nat.le_of_ble_eq_true rfl, Nat.le_of_ble_eq_true rfl⟩) (lS hE hXE hLN hXZ hS hA hP hD) rfl rfl hl.1 rfl (lv_room (Nat.le_of_ble_eq_true rfl)) dL_refuses_68 ⟨Nat.le_of_ble_eq_true rfl, Nat.le_of_ble_eq_true rfl⟩) hD hS hA (fun v320 u321 ga323 gb324 H locs h322 hP hD hS => ?_)
    obtain ⟨rfl, rfl⟩ := Prod.mk.inj (k319.symm.trans h322)
    refine lv_ldc (v := (-9999002)) hx hb hown w_0 dL_refuses_71 ?_
    refine lv_icmp_ne (tgt := 701) hx hb dL_refuses_73 (by decide) (fun cb325 => absurd (by decide) cb325) (fun cb325 => ?_)
    refine lv_aload_n hx hb dL_refuses_76 rfl (lv_at hl 3 rfl) ?_
    refine lv_iconst (v := 2) hx hb dL_refuses_77 (by decide) ?_
    refine lv_bipush (v := 12) hx hb dL_refuses_78 (by decide) ?_
    refine lv_iload_n hx hb dL_refuses_80 rfl (lv_at hl 4 rfl) ?_
    refine lv_bipush (v := 50) hx hb dL_refuses_81 (by decide) ?_
    refine lv_irem hx hb dL_refuses_83 (by decide) ?_
    refine lv_topi (fun z326 ez326 => ?_)
    obtain rfl : z326 = nI (X % 50) := ez326.trans ((pk_rem (a := X) (d := 50) (by omega) (by omega) (by omega) : nI X - nI X / nI 50 * nI 50 = _))
    refine lv_iadd hx hb dL_refuses_84 ?_
    refine lv_topi (fun z327 ez327 => ?_)
    obtain rfl : z327 = nI (12 + (X % 50)) := ez327.trans ((nI_add 12 (X % 50) : nI 12 + nI (X % 50) = _))
    refine lv_iconst (v := 0) hx hb dL_refuses_85 (by decide) ?_
    refine lv_iconst (v := 0) hx hb dL_refuses_86 (by decide) ?_
    have k328 : fCall S 2 (nI (12 + (X % 50))) 0 0 = ((-9999002), S) := t_about S 0 0 (Or.inr (nI_lt (a := 11) (by omega) (by omega)))
    refine xw_callEi (va_runS (As := [.ref (av 0), .int 2, .int (nI (12 + (X % 50))), .int 0, .int 0]) (rest := []) ⟨hx, hb, hml, hown, hts⟩ (c_call l hst D y av ga323 gb324 H.size S 2 (nI (12 + (X % 50))) 0 0 hG.ok) (va_cwS 5 hts gL_refuses_L_call rfl rfl rfl hd_L_call ⟨Nat.le_of_ble_eq_true rfl, Nat.le_of_ble_eq_true rfl⟩) (lS hE hXE hLN hXZ hS hA hP hD) rfl rfl hl.1 rfl (lv_room (Nat.le_of_ble_eq_true rfl)) dL_refuses_87 ⟨Nat.le_of_ble_eq_true rfl, Nat.le_of_ble_eq_true rfl⟩) hD hS hA (fun v329 u330 ga332 gb333 H locs h331 hP hD hS => ?_)
    obtain ⟨rfl, rfl⟩ := Prod.mk.inj (k328.symm.trans h331)
    refine lv_ldc (v := (-9999002)) hx hb hown w_0 dL_refuses_90 ?_
    refine lv_icmp_ne (tgt := 701) hx hb dL_refuses_92 (by decide) (fun cb334 => absurd (by decide) cb334) (fun cb334 => ?_)
    refine lv_aload_n hx hb dL_refuses_95 rfl (lv_at hl 3 rfl) ?_
    refine lv_iconst (v := 3) hx hb dL_refuses_96 (by decide) ?_
    refine lv_iload_n hx hb dL_refuses_97 rfl (lv_at hl 1 rfl) ?_
    refine lv_iconst (v := 0) hx hb dL_refuses_98 (by decide) ?_
    refine lv_iconst (v := 0) hx hb dL_refuses_99 (by decide) ?_
    have k335 : fCall S 3 (nI (N + (X % 50))) 0 0 = ((-9999001), S) := t_read S 0 0 (fun q => absurd ((okL_iff e0 b1 (by omega)).mp q) (by omega))
    refine xw_callEi (va_runS (As := [.ref (av 0), .int 3, .int (nI (N + (X % 50))), .int 0, .int 0]) (rest := []) ⟨hx, hb, hml, hown, hts⟩ (c_call l hst D y av ga332 gb333 H.size S 3 (nI (N + (X % 50))) 0 0 hG.ok) (va_cwS 5 hts gL_refuses_L_call rfl rfl rfl hd_L_call ⟨Nat.le_of_ble_eq_true rfl, Nat.le_of_ble_eq_true rfl⟩) (lS hE hXE hLN hXZ hS hA hP hD) rfl rfl hl.1 rfl (lv_room (Nat.le_of_ble_eq_true rfl)) dL_refuses_100 ⟨Nat.le_of_ble_eq_true rfl, Nat.le_of_ble_eq_true rfl⟩) hD hS hA (fun v336 u337 ga339 gb340 H locs h338 hP hD hS => ?_)
    obtain ⟨rfl, rfl⟩ := Prod.mk.inj (k335.symm.trans h338)
    refine lv_ldc (v := (-9999001)) hx hb hown w_1 dL_refuses_103 ?_
    refine lv_icmp_ne (tgt := 701) hx hb dL_refuses_105 (by decide) (fun cb341 => absurd (by decide) cb341) (fun cb341 => ?_)
    refine lv_aload_n hx hb dL_refuses_108 rfl (lv_at hl 3 rfl) ?_
    refine lv_iconst (v := 4) hx hb dL_refuses_109 (by decide) ?_
    refine lv_iload_n hx hb dL_refuses_110 rfl (lv_at hl 1 rfl) ?_
    refine lv_iconst (v := 0) hx hb dL_refuses_111 (by decide) ?_
    refine lv_iconst (v := 0) hx hb dL_refuses_112 (by decide) ?_
    have k342 : fCall S 4 (nI (N + (X % 50))) 0 0 = ((-9999001), S) := t_place S 0 0 (fun q => absurd ((okL_iff e0 b1 (by omega)).mp q) (by omega))
    refine xw_callEi (va_runS (As := [.ref (av 0), .int 4, .int (nI (N + (X % 50))), .int 0, .int 0]) (rest := []) ⟨hx, hb, hml, hown, hts⟩ (c_call l hst D y av ga339 gb340 H.size S 4 (nI (N + (X % 50))) 0 0 hG.ok) (va_cwS 5 hts gL_refuses_L_call rfl rfl rfl hd_L_call ⟨Nat.le_of_ble_eq_true rfl, Nat.le_of_ble_eq_true rfl⟩) (lS hE hXE hLN hXZ hS hA hP hD) rfl rfl hl.1 rfl (lv_room (Nat.le_of_ble_eq_true rfl)) dL_refuses_113 ⟨Nat.le_of_ble_eq_true rfl, Nat.le_of_ble_eq_true rfl⟩) hD hS hA (fun v343 u344 ga346 gb347 H locs h345 hP hD hS => ?_)
    obtain ⟨rfl, rfl⟩ := Prod.mk.inj (k342.symm.trans h345)
    refine lv_ldc (v := (-9999001)) hx hb hown w_1 dL_refuses_116 ?_
    refine lv_icmp_ne (tgt := 701) hx hb dL_refuses_118 (by decide) (fun cb348 => absurd (by decide) cb348) (fun cb348 => ?_)
    refine lv_aload_n hx hb dL_refuses_121 rfl (lv_at hl 3 rfl) ?_
    refine lv_iconst (v := 5) hx hb dL_refuses_122 (by decide) ?_
    refine lv_iload_n hx hb dL_refuses_123 rfl (lv_at hl 1 rfl) ?_
    refine lv_iconst (v := 1) hx hb dL_refuses_124 (by decide) ?_
    refine lv_iadd hx hb dL_refuses_125 ?_
    refine lv_topi (fun z349 ez349 => ?_)
    obtain rfl : z349 = nI ((N + (X % 50)) + 1) := ez349.trans ((nI_add (N + (X % 50)) 1 : nI (N + (X % 50)) + nI 1 = _))
    refine lv_iconst (v := 0) hx hb dL_refuses_126 (by decide) ?_
    refine lv_iconst (v := 0) hx hb dL_refuses_127 (by decide) ?_
    have k350 : fCall S 5 (nI ((N + (X % 50)) + 1)) 0 0 = ((-9999001), S) := t_line S 0 0 (Or.inr (by rw [e0]; exact nI_lt (by omega) (by omega)))
    refine xw_callEi (va_runS (As := [.ref (av 0), .int 5, .int (nI ((N + (X % 50)) + 1)), .int 0, .int 0]) (rest := []) ⟨hx, hb, hml, hown, hts⟩ (c_call l hst D y av ga346 gb347 H.size S 5 (nI ((N + (X % 50)) + 1)) 0 0 hG.ok) (va_cwS 5 hts gL_refuses_L_call rfl rfl rfl hd_L_call ⟨Nat.le_of_ble_eq_true rfl, Nat.le_of_ble_eq_true rfl⟩) (lS hE hXE hLN hXZ hS hA hP hD) rfl rfl hl.1 rfl (lv_room (Nat.le_of_ble_eq_true rfl)) dL_refuses_128 ⟨Nat.le_of_ble_eq_true rfl, Nat.le_of_ble_eq_true rfl⟩) hD hS hA (fun v351 u352 ga354 gb355 H locs h353 hP hD hS => ?_)
    obtain ⟨rfl, rfl⟩ := Prod.mk.inj (k350.symm.trans h353)
    refine lv_ldc (v := (-9999001)) hx hb hown w_1 dL_refuses_131 ?_
    refine lv_icmp_ne (tgt := 701) hx hb dL_refuses_133 (by decide) (fun cb356 => absurd (by decide) cb356) (fun cb356 => ?_)
    refine lv_aload_n hx hb dL_refuses_136 rfl (lv_at hl 3 rfl) ?_
    refine lv_iconst (v := 5) hx hb dL_refuses_137 (by decide) ?_
    refine lv_iconst (v := (-1)) hx hb dL_refuses_138 (by decide) ?_
    refine lv_iload_n hx hb dL_refuses_139 rfl (lv_at hl 4 rfl) ?_
    refine lv_bipush (v := 9) hx hb dL_refuses_140 (by decide) ?_
    refine lv_irem hx hb dL_refuses_142 (by decide) ?_
    refine lv_topi (fun z357 ez357 => ?_)
    obtain rfl : z357 = nI (X % 9) := ez357.trans ((pk_rem (a := X) (d := 9) (by omega) (by omega) (by omega) : nI X - nI X / nI 9 * nI 9 = _))
    refine lv_isub hx hb dL_refuses_143 ?_
    refine lv_iconst (v := 0) hx hb dL_refuses_144 (by decide) ?_
    refine lv_iconst (v := 0) hx hb dL_refuses_145 (by decide) ?_
    have k358 : fCall S 5 ((-1) - nI (X % 9)) 0 0 = ((-9999001), S) := t_line S 0 0 (Or.inl (neg_lt (by omega) (by decide)))
    refine xw_callEi (va_runS (As := [.ref (av 0), .int 5, .int ((-1) - nI (X % 9)), .int 0, .int 0]) (rest := []) ⟨hx, hb, hml, hown, hts⟩ (c_call l hst D y av ga354 gb355 H.size S 5 ((-1) - nI (X % 9)) 0 0 hG.ok) (va_cwS 5 hts gL_refuses_L_call rfl rfl rfl hd_L_call ⟨Nat.le_of_ble_eq_true rfl, Nat.le_of_ble_eq_true rfl⟩) (lS hE hXE hLN hXZ hS hA hP hD) rfl rfl hl.1 rfl (lv_room (Nat.le_of_ble_eq_true rfl)) dL_refuses_146 ⟨Nat.le_of_ble_eq_true rfl, Nat.le_of_ble_eq_true rfl⟩) hD hS hA (fun v359 u360 ga362 gb363 H locs h361 hP hD hS => ?_)
    obtain ⟨rfl, rfl⟩ := Prod.mk.inj (k358.symm.trans h361)
    refine lv_ldc (v := (-9999001)) hx hb hown w_1 dL_refuses_149 ?_
    refine lv_icmp_ne (tgt := 701) hx hb dL_refuses_151 (by decide) (fun cb364 => absurd (by decide) cb364) (fun cb364 => ?_)
    refine lv_aload_n hx hb dL_refuses_154 rfl (lv_at hl 3 rfl) ?_
    refine lv_bipush (v := 6) hx hb dL_refuses_155 (by decide) ?_
    refine lv_iload_n hx hb dL_refuses_157 rfl (lv_at hl 1 rfl) ?_
    refine lv_iconst (v := 1) hx hb dL_refuses_158 (by decide) ?_
    refine lv_iadd hx hb dL_refuses_159 ?_
    refine lv_topi (fun z365 ez365 => ?_)
    obtain rfl : z365 = nI ((N + (X % 50)) + 1) := ez365.trans ((nI_add (N + (X % 50)) 1 : nI (N + (X % 50)) + nI 1 = _))
    refine lv_iconst (v := 0) hx hb dL_refuses_160 (by decide) ?_
    refine lv_iconst (v := 0) hx hb dL_refuses_161 (by decide) ?_
    have k366 : fCall S 6 (nI ((N + (X % 50)) + 1)) 0 0 = ((-9999001), S) := t_wear S 0 0 (Or.inr (by rw [e0]; exact nI_lt (by omega) (by omega)))
    refine xw_callEi (va_runS (As := [.ref (av 0), .int 6, .int (nI ((N + (X % 50)) + 1)), .int 0, .int 0]) (rest := []) ⟨hx, hb, hml, hown, hts⟩ (c_call l hst D y av ga362 gb363 H.size S 6 (nI ((N + (X % 50)) + 1)) 0 0 hG.ok) (va_cwS 5 hts gL_refuses_L_call rfl rfl rfl hd_L_call ⟨Nat.le_of_ble_eq_true rfl, Nat.le_of_ble_eq_true rfl⟩) (lS hE hXE hLN hXZ hS hA hP hD) rfl rfl hl.1 rfl (lv_room (Nat.le_of_ble_eq_true rfl)) dL_refuses_162 ⟨Nat.le_of_ble_eq_true rfl, Nat.le_of_ble_eq_true rfl⟩) hD hS hA (fun v367 u368 ga370 gb371 H locs h369 hP hD hS => ?_)
    obtain ⟨rfl, rfl⟩ := Prod.mk.inj (k366.symm.trans h369)
    refine lv_ldc (v := (-9999001)) hx hb hown w_1 dL_refuses_165 ?_
    refine lv_icmp_ne (tgt := 701) hx hb dL_refuses_167 (by decide) (fun cb372 => absurd (by decide) cb372) (fun cb372 => ?_)
    refine lv_aload_n hx hb dL_refuses_170 rfl (lv_at hl 3 rfl) ?_
    refine lv_bipush (v := 7) hx hb dL_refuses_171 (by decide) ?_
    refine lv_iconst (v := 2) hx hb dL_refuses_173 (by decide) ?_
    refine lv_iload_n hx hb dL_refuses_174 rfl (lv_at hl 4 rfl) ?_
    refine lv_bipush (v := 9) hx hb dL_refuses_175 (by decide) ?_
    refine lv_irem hx hb dL_refuses_177 (by decide) ?_
    refine lv_topi (fun z373 ez373 => ?_)
    obtain rfl : z373 = nI (X % 9) := ez373.trans ((pk_rem (a := X) (d := 9) (by omega) (by omega) (by omega) : nI X - nI X / nI 9 * nI 9 = _))
    refine lv_iadd hx hb dL_refuses_178 ?_
    refine lv_topi (fun z374 ez374 => ?_)
    obtain rfl : z374 = nI (2 + (X % 9)) := ez374.trans ((nI_add 2 (X % 9) : nI 2 + nI (X % 9) = _))
    refine lv_iconst (v := 0) hx hb dL_refuses_179 (by decide) ?_
    refine lv_iconst (v := 0) hx hb dL_refuses_180 (by decide) ?_
    have k375 : fCall S 7 (nI (2 + (X % 9))) 0 0 = ((-9999002), S) := t_setting S 0 0 (nI_ne0 (by omega) (by omega)) (fun q => absurd ((nI_eq (b := 1) (by omega) (by omega)).mp q) (by omega))
    refine xw_callEi (va_runS (As := [.ref (av 0), .int 7, .int (nI (2 + (X % 9))), .int 0, .int 0]) (rest := []) ⟨hx, hb, hml, hown, hts⟩ (c_call l hst D y av ga370 gb371 H.size S 7 (nI (2 + (X % 9))) 0 0 hG.ok) (va_cwS 5 hts gL_refuses_L_call rfl rfl rfl hd_L_call ⟨Nat.le_of_ble_eq_true rfl, Nat.le_of_ble_eq_true rfl⟩) (lS hE hXE hLN hXZ hS hA hP hD) rfl rfl hl.1 rfl (lv_room (Nat.le_of_ble_eq_true rfl)) dL_refuses_181 ⟨Nat.le_of_ble_eq_true rfl, Nat.le_of_ble_eq_true rfl⟩) hD hS hA (fun v376 u377 ga379 gb380 H locs h378 hP hD hS => ?_)
    obtain ⟨rfl, rfl⟩ := Prod.mk.inj (k375.symm.trans h378)
    refine lv_ldc (v := (-9999002)) hx hb hown w_0 dL_refuses_184 ?_
    refine lv_icmp_ne (tgt := 701) hx hb dL_refuses_186 (by decide) (fun cb381 => absurd (by decide) cb381) (fun cb381 => ?_)
    refine lv_aload_n hx hb dL_refuses_189 rfl (lv_at hl 3 rfl) ?_
    refine lv_bipush (v := 8) hx hb dL_refuses_190 (by decide) ?_
    refine lv_iload_n hx hb dL_refuses_192 rfl (lv_at hl 4 rfl) ?_
    refine lv_iconst (v := 4) hx hb dL_refuses_193 (by decide) ?_
    refine lv_irem hx hb dL_refuses_194 (by decide) ?_
    refine lv_topi (fun z382 ez382 => ?_)
    obtain rfl : z382 = nI (X % 4) := ez382.trans ((pk_rem (a := X) (d := 4) (by omega) (by omega) (by omega) : nI X - nI X / nI 4 * nI 4 = _))
    refine lv_iconst (v := 1) hx hb dL_refuses_195 (by decide) ?_
    refine lv_iconst (v := 0) hx hb dL_refuses_196 (by decide) ?_
    have k383 : fCall S 8 (nI (X % 4)) 1 0 = ((-9999002), S) := t_make S (Or.inl (sh_lt4 (nI_lt (b := 4) (by omega) (by omega))))
    refine xw_callEi (va_runS (As := [.ref (av 0), .int 8, .int (nI (X % 4)), .int 1, .int 0]) (rest := []) ⟨hx, hb, hml, hown, hts⟩ (c_call l hst D y av ga379 gb380 H.size S 8 (nI (X % 4)) 1 0 hG.ok) (va_cwS 5 hts gL_refuses_L_call rfl rfl rfl hd_L_call ⟨Nat.le_of_ble_eq_true rfl, Nat.le_of_ble_eq_true rfl⟩) (lS hE hXE hLN hXZ hS hA hP hD) rfl rfl hl.1 rfl (lv_room (Nat.le_of_ble_eq_true rfl)) dL_refuses_197 ⟨Nat.le_of_ble_eq_true rfl, Nat.le_of_ble_eq_true rfl⟩) hD hS hA (fun v384 u385 ga387 gb388 H locs h386 hP hD hS => ?_)
    obtain ⟨rfl, rfl⟩ := Prod.mk.inj (k383.symm.trans h386)
    refine lv_ldc (v := (-9999002)) hx hb hown w_0 dL_refuses_200 ?_
    refine lv_icmp_ne (tgt := 701) hx hb dL_refuses_202 (by decide) (fun cb389 => absurd (by decide) cb389) (fun cb389 => ?_)
    refine lv_aload_n hx hb dL_refuses_205 rfl (lv_at hl 3 rfl) ?_
    refine lv_bipush (v := 8) hx hb dL_refuses_206 (by decide) ?_
    refine lv_bipush (v := 33) hx hb dL_refuses_208 (by decide) ?_
    refine lv_iload_n hx hb dL_refuses_210 rfl (lv_at hl 4 rfl) ?_
    refine lv_bipush (v := 9) hx hb dL_refuses_211 (by decide) ?_
    refine lv_irem hx hb dL_refuses_213 (by decide) ?_
    refine lv_topi (fun z390 ez390 => ?_)
    obtain rfl : z390 = nI (X % 9) := ez390.trans ((pk_rem (a := X) (d := 9) (by omega) (by omega) (by omega) : nI X - nI X / nI 9 * nI 9 = _))
    refine lv_iadd hx hb dL_refuses_214 ?_
    refine lv_topi (fun z391 ez391 => ?_)
    obtain rfl : z391 = nI (33 + (X % 9)) := ez391.trans ((nI_add 33 (X % 9) : nI 33 + nI (X % 9) = _))
    refine lv_iconst (v := 1) hx hb dL_refuses_215 (by decide) ?_
    refine lv_iconst (v := 0) hx hb dL_refuses_216 (by decide) ?_
    have k392 : fCall S 8 (nI (33 + (X % 9))) 1 0 = ((-9999002), S) := t_make S (Or.inl (sh_gt (nI_nlt (b := 4) (by omega) (by omega)) (nI_lt (a := 32) (by omega) (by omega))))
    refine xw_callEi (va_runS (As := [.ref (av 0), .int 8, .int (nI (33 + (X % 9))), .int 1, .int 0]) (rest := []) ⟨hx, hb, hml, hown, hts⟩ (c_call l hst D y av ga387 gb388 H.size S 8 (nI (33 + (X % 9))) 1 0 hG.ok) (va_cwS 5 hts gL_refuses_L_call rfl rfl rfl hd_L_call ⟨Nat.le_of_ble_eq_true rfl, Nat.le_of_ble_eq_true rfl⟩) (lS hE hXE hLN hXZ hS hA hP hD) rfl rfl hl.1 rfl (lv_room (Nat.le_of_ble_eq_true rfl)) dL_refuses_217 ⟨Nat.le_of_ble_eq_true rfl, Nat.le_of_ble_eq_true rfl⟩) hD hS hA (fun v393 u394 ga396 gb397 H locs h395 hP hD hS => ?_)
    obtain ⟨rfl, rfl⟩ := Prod.mk.inj (k392.symm.trans h395)
    refine lv_ldc (v := (-9999002)) hx hb hown w_0 dL_refuses_220 ?_
    refine lv_icmp_ne (tgt := 701) hx hb dL_refuses_222 (by decide) (fun cb398 => absurd (by decide) cb398) (fun cb398 => ?_)
    refine lv_aload_n hx hb dL_refuses_225 rfl (lv_at hl 3 rfl) ?_
    refine lv_bipush (v := 8) hx hb dL_refuses_226 (by decide) ?_
    refine lv_iload_n hx hb dL_refuses_228 rfl (lv_at hl 2 rfl) ?_
    refine lv_iload_n hx hb dL_refuses_229 rfl (lv_at hl 2 rfl) ?_
    refine lv_iload_n hx hb dL_refuses_230 rfl (lv_at hl 4 rfl) ?_
    refine lv_bipush (v := 9) hx hb dL_refuses_231 (by decide) ?_
    refine lv_irem hx hb dL_refuses_233 (by decide) ?_
    refine lv_topi (fun z399 ez399 => ?_)
    obtain rfl : z399 = nI (X % 9) := ez399.trans ((pk_rem (a := X) (d := 9) (by omega) (by omega) (by omega) : nI X - nI X / nI 9 * nI 9 = _))
    refine lv_iadd hx hb dL_refuses_234 ?_
    refine lv_topi (fun z400 ez400 => ?_)
    obtain rfl : z400 = nI (N + (X % 9)) := ez400.trans ((nI_add N (X % 9) : nI N + nI (X % 9) = _))
    refine lv_iconst (v := 0) hx hb dL_refuses_235 (by decide) ?_
    have k401 : fCall S 8 (nI N) (nI (N + (X % 9))) 0 = ((-9999002), S) := t_make S (Or.inl (sh_kn (nI_nlt (b := 4) (by omega) (by omega)) (nI_nlt (a := 32) (by omega) (by omega)) (nI_nlt (b := 1) (by omega) (by omega)) (nI_le (by omega) (by omega))))
    refine xw_callEi (va_runS (As := [.ref (av 0), .int 8, .int (nI N), .int (nI (N + (X % 9))), .int 0]) (rest := []) ⟨hx, hb, hml, hown, hts⟩ (c_call l hst D y av ga396 gb397 H.size S 8 (nI N) (nI (N + (X % 9))) 0 hG.ok) (va_cwS 5 hts gL_refuses_L_call rfl rfl rfl hd_L_call ⟨Nat.le_of_ble_eq_true rfl, Nat.le_of_ble_eq_true rfl⟩) (lS hE hXE hLN hXZ hS hA hP hD) rfl rfl hl.1 rfl (lv_room (Nat.le_of_ble_eq_true rfl)) dL_refuses_236 ⟨Nat.le_of_ble_eq_true rfl, Nat.le_of_ble_eq_true rfl⟩) hD hS hA (fun v402 u403 ga405 gb406 H locs h404 hP hD hS => ?_)
    obtain ⟨rfl, rfl⟩ := Prod.mk.inj (k401.symm.trans h404)
    refine lv_ldc (v := (-9999002)) hx hb hown w_0 dL_refuses_239 ?_
    refine lv_icmp_ne (tgt := 701) hx hb dL_refuses_241 (by decide) (fun cb407 => absurd (by decide) cb407) (fun cb407 => ?_)
    refine lv_aload_n hx hb dL_refuses_244 rfl (lv_at hl 3 rfl) ?_
    refine lv_bipush (v := 8) hx hb dL_refuses_245 (by decide) ?_
    refine lv_iload_n hx hb dL_refuses_247 rfl (lv_at hl 2 rfl) ?_
    refine lv_iconst (v := 0) hx hb dL_refuses_248 (by decide) ?_
    refine lv_iconst (v := 0) hx hb dL_refuses_249 (by decide) ?_
    have k408 : fCall S 8 (nI N) 0 0 = ((-9999002), S) := t_make S (Or.inl (sh_k1 (nI_nlt (b := 4) (by omega) (by omega)) (nI_nlt (a := 32) (by omega) (by omega)) (by decide)))
    refine xw_callEi (va_runS (As := [.ref (av 0), .int 8, .int (nI N), .int 0, .int 0]) (rest := []) ⟨hx, hb, hml, hown, hts⟩ (c_call l hst D y av ga405 gb406 H.size S 8 (nI N) 0 0 hG.ok) (va_cwS 5 hts gL_refuses_L_call rfl rfl rfl hd_L_call ⟨Nat.le_of_ble_eq_true rfl, Nat.le_of_ble_eq_true rfl⟩) (lS hE hXE hLN hXZ hS hA hP hD) rfl rfl hl.1 rfl (lv_room (Nat.le_of_ble_eq_true rfl)) dL_refuses_250 ⟨Nat.le_of_ble_eq_true rfl, Nat.le_of_ble_eq_true rfl⟩) hD hS hA (fun v409 u410 ga412 gb413 H locs h411 hP hD hS => ?_)
    obtain ⟨rfl, rfl⟩ := Prod.mk.inj (k408.symm.trans h411)
    refine lv_ldc (v := (-9999002)) hx hb hown w_0 dL_refuses_253 ?_
    refine lv_icmp_ne (tgt := 701) hx hb dL_refuses_255 (by decide) (fun cb414 => absurd (by decide) cb414) (fun cb414 => ?_)
    refine lv_aload_n hx hb dL_refuses_258 rfl (lv_at hl 3 rfl) ?_
    refine lv_bipush (v := 8) hx hb dL_refuses_259 (by decide) ?_
    refine lv_iload_n hx hb dL_refuses_261 rfl (lv_at hl 2 rfl) ?_
    refine lv_iconst (v := 1) hx hb dL_refuses_262 (by decide) ?_
    refine lv_iconst (v := 5) hx hb dL_refuses_263 (by decide) ?_
    refine lv_iload_n hx hb dL_refuses_264 rfl (lv_at hl 4 rfl) ?_
    refine lv_bipush (v := 9) hx hb dL_refuses_265 (by decide) ?_
    refine lv_irem hx hb dL_refuses_267 (by decide) ?_
    refine lv_topi (fun z415 ez415 => ?_)
    obtain rfl : z415 = nI (X % 9) := ez415.trans ((pk_rem (a := X) (d := 9) (by omega) (by omega) (by omega) : nI X - nI X / nI 9 * nI 9 = _))
    refine lv_iadd hx hb dL_refuses_268 ?_
    refine lv_topi (fun z416 ez416 => ?_)
    obtain rfl : z416 = nI (5 + (X % 9)) := ez416.trans ((nI_add 5 (X % 9) : nI 5 + nI (X % 9) = _))
    have k417 : fCall S 8 (nI N) 1 (nI (5 + (X % 9))) = ((-9999002), S) := t_make S (Or.inr (Or.inr (nI_lt (a := 4) (by omega) (by omega))))
    refine xw_callEi (va_runS (As := [.ref (av 0), .int 8, .int (nI N), .int 1, .int (nI (5 + (X % 9)))]) (rest := []) ⟨hx, hb, hml, hown, hts⟩ (c_call l hst D y av ga412 gb413 H.size S 8 (nI N) 1 (nI (5 + (X % 9))) hG.ok) (va_cwS 5 hts gL_refuses_L_call rfl rfl rfl hd_L_call ⟨Nat.le_of_ble_eq_true rfl, Nat.le_of_ble_eq_true rfl⟩) (lS hE hXE hLN hXZ hS hA hP hD) rfl rfl hl.1 rfl (lv_room (Nat.le_of_ble_eq_true rfl)) dL_refuses_269 ⟨Nat.le_of_ble_eq_true rfl, Nat.le_of_ble_eq_true rfl⟩) hD hS hA (fun v418 u419 ga421 gb422 H locs h420 hP hD hS => ?_)
    obtain ⟨rfl, rfl⟩ := Prod.mk.inj (k417.symm.trans h420)
    refine lv_ldc (v := (-9999002)) hx hb hown w_0 dL_refuses_272 ?_
    refine lv_icmp_ne (tgt := 701) hx hb dL_refuses_274 (by decide) (fun cb423 => absurd (by decide) cb423) (fun cb423 => ?_)
    refine lv_aload_n hx hb dL_refuses_277 rfl (lv_at hl 3 rfl) ?_
    refine lv_bipush (v := 8) hx hb dL_refuses_278 (by decide) ?_
    refine lv_iconst (v := 4) hx hb dL_refuses_280 (by decide) ?_
    refine lv_iconst (v := 2) hx hb dL_refuses_281 (by decide) ?_
    refine lv_iload_n hx hb dL_refuses_282 rfl (lv_at hl 4 rfl) ?_
    refine lv_bipush (v := 14) hx hb dL_refuses_283 (by decide) ?_
    refine lv_irem hx hb dL_refuses_285 (by decide) ?_
    refine lv_topi (fun z424 ez424 => ?_)
    obtain rfl : z424 = nI (X % 14) := ez424.trans ((pk_rem (a := X) (d := 14) (by omega) (by omega) (by omega) : nI X - nI X / nI 14 * nI 14 = _))
    refine lv_imul hx hb dL_refuses_286 ?_
    refine lv_topi (fun z425 ez425 => ?_)
    obtain rfl : z425 = nI (2 * (X % 14)) := ez425.trans ((pk_mul 2 (X % 14) : nI 2 * nI (X % 14) = _))
    refine lv_iadd hx hb dL_refuses_287 ?_
    refine lv_topi (fun z426 ez426 => ?_)
    obtain rfl : z426 = nI (4 + (2 * (X % 14))) := ez426.trans ((nI_add 4 (2 * (X % 14)) : nI 4 + nI (2 * (X % 14)) = _))
    refine lv_iconst (v := 2) hx hb dL_refuses_288 (by decide) ?_
    refine lv_iconst (v := 0) hx hb dL_refuses_289 (by decide) ?_
    have k427 : fCall S 8 (nI (4 + (2 * (X % 14)))) 2 0 = ((-9999002), S) := t_make S (Or.inl (nk_shape (Nat.mod_lt X (by omega))))
    refine xw_callEi (va_runS (As := [.ref (av 0), .int 8, .int (nI (4 + (2 * (X % 14)))), .int 2, .int 0]) (rest := []) ⟨hx, hb, hml, hown, hts⟩ (c_call l hst D y av ga421 gb422 H.size S 8 (nI (4 + (2 * (X % 14)))) 2 0 hG.ok) (va_cwS 5 hts gL_refuses_L_call rfl rfl rfl hd_L_call ⟨Nat.le_of_ble_eq_true rfl, Nat.le_of_ble_eq_true rfl⟩) (lS hE hXE hLN hXZ hS hA hP hD) rfl rfl hl.1 rfl (lv_room (Nat.le_of_ble_eq_true rfl)) dL_refuses_290 ⟨Nat.le_of_ble_eq_true rfl, Nat.le_of_ble_eq_true rfl⟩) hD hS hA (fun v428 u429 ga431 gb432 H locs h430 hP hD hS => ?_)
    obtain ⟨rfl, rfl⟩ := Prod.mk.inj (k427.symm.trans h430)
    refine lv_ldc (v := (-9999002)) hx hb hown w_0 dL_refuses_293 ?_
    refine lv_icmp_ne (tgt := 701) hx hb dL_refuses_295 (by decide) (fun cb433 => absurd (by decide) cb433) (fun cb433 => ?_)
    refine lv_aload_n hx hb dL_refuses_298 rfl (lv_at hl 3 rfl) ?_
    refine lv_bipush (v := 9) hx hb dL_refuses_299 (by decide) ?_
    refine lv_iload_n hx hb dL_refuses_301 rfl (lv_at hl 1 rfl) ?_
    refine lv_iload hx hb dL_refuses_302 (lv_at hl 0 rfl) ?_
    refine lv_iconst (v := 0) hx hb dL_refuses_304 (by decide) ?_
    have k434 : fCall S 9 (nI (N + (X % 50))) (nI (1000 + (X % 99))) 0 = ((-9999001), S) := t_write1 S _ 0 (fun q => absurd ((okL_iff e0 b1 (by omega)).mp q) (by omega))
    refine xw_callEi (va_runS (As := [.ref (av 0), .int 9, .int (nI (N + (X % 50))), .int (nI (1000 + (X % 99))), .int 0]) (rest := []) ⟨hx, hb, hml, hown, hts⟩ (c_call l hst D y av ga431 gb432 H.size S 9 (nI (N + (X % 50))) (nI (1000 + (X % 99))) 0 hG.ok) (va_cwS 5 hts gL_refuses_L_call rfl rfl rfl hd_L_call ⟨Nat.le_of_ble_eq_true rfl, Nat.le_of_ble_eq_true rfl⟩) (lS hE hXE hLN hXZ hS hA hP hD) rfl rfl hl.1 rfl (lv_room (Nat.le_of_ble_eq_true rfl)) dL_refuses_305 ⟨Nat.le_of_ble_eq_true rfl, Nat.le_of_ble_eq_true rfl⟩) hD hS hA (fun v435 u436 ga438 gb439 H locs h437 hP hD hS => ?_)
    obtain ⟨rfl, rfl⟩ := Prod.mk.inj (k434.symm.trans h437)
    refine lv_ldc (v := (-9999001)) hx hb hown w_1 dL_refuses_308 ?_
    refine lv_icmp_ne (tgt := 701) hx hb dL_refuses_310 (by decide) (fun cb440 => absurd (by decide) cb440) (fun cb440 => ?_)
    refine lv_aload_n hx hb dL_refuses_313 rfl (lv_at hl 3 rfl) ?_
    refine lv_bipush (v := 9) hx hb dL_refuses_314 (by decide) ?_
    refine lv_iload_n hx hb dL_refuses_316 rfl (lv_at hl 4 rfl) ?_
    refine lv_iload_n hx hb dL_refuses_317 rfl (lv_at hl 2 rfl) ?_
    refine lv_irem hx hb dL_refuses_318 (nI_ne0 (n := N) (by omega) (by omega)) ?_
    refine lv_topi (fun z441 ez441 => ?_)
    obtain rfl : z441 = nI (X % N) := ez441.trans ((pk_rem (a := X) (d := N) (by omega) (by omega) (by omega) : nI X - nI X / nI N * nI N = _))
    refine lv_iload hx hb dL_refuses_319 (lv_at hl 0 rfl) ?_
    refine lv_iconst (v := 0) hx hb dL_refuses_321 (by decide) ?_
    have k442 : fCall S 9 (nI (X % N)) (nI (1000 + (X % 99))) 0 = ((-9999002), S) := t_write2 S 0 (okL_nI hG.gd hxn) (Or.inr (nI_lt (a := 999) (by omega) (by omega)))
    refine xw_callEi (va_runS (As := [.ref (av 0), .int 9, .int (nI (X % N)), .int (nI (1000 + (X % 99))), .int 0]) (rest := []) ⟨hx, hb, hml, hown, hts⟩ (c_call l hst D y av ga438 gb439 H.size S 9 (nI (X % N)) (nI (1000 + (X % 99))) 0 hG.ok) (va_cwS 5 hts gL_refuses_L_call rfl rfl rfl hd_L_call ⟨Nat.le_of_ble_eq_true rfl, Nat.le_of_ble_eq_true rfl⟩) (lS hE hXE hLN hXZ hS hA hP hD) rfl rfl hl.1 rfl (lv_room (Nat.le_of_ble_eq_true rfl)) dL_refuses_322 ⟨Nat.le_of_ble_eq_true rfl, Nat.le_of_ble_eq_true rfl⟩) hD hS hA (fun v443 u444 ga446 gb447 H locs h445 hP hD hS => ?_)
    obtain ⟨rfl, rfl⟩ := Prod.mk.inj (k442.symm.trans h445)
    refine lv_ldc (v := (-9999002)) hx hb hown w_0 dL_refuses_325 ?_
    refine lv_icmp_ne (tgt := 701) hx hb dL_refuses_327 (by decide) (fun cb448 => absurd (by decide) cb448) (fun cb448 => ?_)
    refine lv_aload_n hx hb dL_refuses_330 rfl (lv_at hl 3 rfl) ?_
    refine lv_bipush (v := 10) hx hb dL_refuses_331 (by decide) ?_
    refine lv_iload_n hx hb dL_refuses_333 rfl (lv_at hl 1 rfl) ?_
    refine lv_iload hx hb dL_refuses_334 (lv_at hl 0 rfl) ?_
    refine lv_iconst (v := 0) hx hb dL_refuses_336 (by decide) ?_
    have k449 : fCall S 10 (nI (N + (X % 50))) (nI (1000 + (X % 99))) 0 = ((-9999001), S) := t_hammer1 S _ 0 (fun q => absurd ((okL_iff e0 b1 (by omega)).mp q) (by omega))
    refine xw_callEi (va_runS (As := [.ref (av 0), .int 10, .int (nI (N + (X % 50))), .int (nI (1000 + (X % 99))), .int 0]) (rest := []) ⟨hx, hb, hml, hown, hts⟩ (c_call l hst D y av ga446 gb447 H.size S 10 (nI (N + (X % 50))) (nI (1000 + (X % 99))) 0 hG.ok) (va_cwS 5 hts gL_refuses_L_call rfl rfl rfl hd_L_call ⟨Nat.le_of_ble_eq_true rfl, Nat.le_of_ble_eq_true rfl⟩) (lS hE hXE hLN hXZ hS hA hP hD) rfl rfl hl.1 rfl (lv_room (Nat.le_of_ble_eq_true rfl)) dL_refuses_337 ⟨Nat.le_of_ble_eq_true rfl, Nat.le_of_ble_eq_true rfl⟩) hD hS hA (fun v450 u451 ga453 gb454 H locs h452 hP hD hS => ?_)
    obtain ⟨rfl, rfl⟩ := Prod.mk.inj (k449.symm.trans h452)
    refine lv_ldc (v := (-9999001)) hx hb hown w_1 dL_refuses_340 ?_
    refine lv_icmp_ne (tgt := 701) hx hb dL_refuses_342 (by decide) (fun cb455 => absurd (by decide) cb455) (fun cb455 => ?_)
    refine lv_aload_n hx hb dL_refuses_345 rfl (lv_at hl 3 rfl) ?_
    refine lv_bipush (v := 10) hx hb dL_refuses_346 (by decide) ?_
    refine lv_iload_n hx hb dL_refuses_348 rfl (lv_at hl 4 rfl) ?_
    refine lv_iload_n hx hb dL_refuses_349 rfl (lv_at hl 2 rfl) ?_
    refine lv_irem hx hb dL_refuses_350 (nI_ne0 (n := N) (by omega) (by omega)) ?_
    refine lv_topi (fun z456 ez456 => ?_)
    obtain rfl : z456 = nI (X % N) := ez456.trans ((pk_rem (a := X) (d := N) (by omega) (by omega) (by omega) : nI X - nI X / nI N * nI N = _))
    refine lv_iload_n hx hb dL_refuses_351 rfl (lv_at hl 4 rfl) ?_
    refine lv_iconst (v := 2) hx hb dL_refuses_352 (by decide) ?_
    refine lv_irem hx hb dL_refuses_353 (by decide) ?_
    refine lv_topi (fun z457 ez457 => ?_)
    obtain rfl : z457 = nI (X % 2) := ez457.trans ((pk_rem (a := X) (d := 2) (by omega) (by omega) (by omega) : nI X - nI X / nI 2 * nI 2 = _))
    refine lv_if_ne (tgt := 361) hx hb dL_refuses_354 (by decide) (fun cb458 => ?_) (fun cb458 => absurd cb458 (fun q => absurd ((nI_eq (a := X % 2) (b := 0) (by omega) (by omega)).mp q) (by omega)))
    refine lv_sipush (v := 501) hx hb dL_refuses_361 (by decide) ?_
    refine lv_iload_n hx hb dL_refuses_364 rfl (lv_at hl 4 rfl) ?_
    refine lv_bipush (v := 9) hx hb dL_refuses_365 (by decide) ?_
    refine lv_irem hx hb dL_refuses_367 (by decide) ?_
    refine lv_topi (fun z459 ez459 => ?_)
    obtain rfl : z459 = nI (X % 9) := ez459.trans ((pk_rem (a := X) (d := 9) (by omega) (by omega) (by omega) : nI X - nI X / nI 9 * nI 9 = _))
    refine lv_iadd hx hb dL_refuses_368 ?_
    refine lv_topi (fun z460 ez460 => ?_)
    obtain rfl : z460 = nI (501 + (X % 9)) := ez460.trans ((nI_add 501 (X % 9) : nI 501 + nI (X % 9) = _))
    refine lv_iconst (v := 0) hx hb dL_refuses_369 (by decide) ?_
    have k461 : fCall S 10 (nI (X % N)) (nI (501 + (X % 9))) 0 = ((-9999002), S) := t_hammer2 S 0 (okL_nI hG.gd hxn) (Or.inr (nI_lt (a := 500) (by omega) (by omega)))
    refine xw_callEi (va_runS (As := [.ref (av 0), .int 10, .int (nI (X % N)), .int (nI (501 + (X % 9))), .int 0]) (rest := []) ⟨hx, hb, hml, hown, hts⟩ (c_call l hst D y av ga453 gb454 H.size S 10 (nI (X % N)) (nI (501 + (X % 9))) 0 hG.ok) (va_cwS 5 hts gL_refuses_L_call rfl rfl rfl hd_L_call ⟨Nat.le_of_ble_eq_true rfl, Nat.le_of_ble_eq_true rfl⟩) (lS hE hXE hLN hXZ hS hA hP hD) rfl rfl hl.1 rfl (lv_room (Nat.le_of_ble_eq_true rfl)) dL_refuses_370 ⟨Nat.le_of_ble_eq_true rfl, Nat.le_of_ble_eq_true rfl⟩) hD hS hA (fun v462 u463 ga465 gb466 H locs h464 hP hD hS => ?_)
    obtain ⟨rfl, rfl⟩ := Prod.mk.inj (k461.symm.trans h464)
    refine lv_ldc (v := (-9999002)) hx hb hown w_0 dL_refuses_373 ?_
    refine lv_icmp_ne (tgt := 701) hx hb dL_refuses_375 (by decide) (fun cb467 => absurd (by decide) cb467) (fun cb467 => ?_)
    refine lv_aload_n hx hb dL_refuses_378 rfl (lv_at hl 3 rfl) ?_
    refine lv_bipush (v := 11) hx hb dL_refuses_379 (by decide) ?_
    refine lv_iload_n hx hb dL_refuses_381 rfl (lv_at hl 4 rfl) ?_
    refine lv_iconst (v := 2) hx hb dL_refuses_382 (by decide) ?_
    refine lv_irem hx hb dL_refuses_383 (by decide) ?_
    refine lv_topi (fun z468 ez468 => ?_)
    obtain rfl : z468 = nI (X % 2) := ez468.trans ((pk_rem (a := X) (d := 2) (by omega) (by omega) (by omega) : nI X - nI X / nI 2 * nI 2 = _))
    refine lv_if_ne (tgt := 391) hx hb dL_refuses_384 (by decide) (fun cb469 => ?_) (fun cb469 => absurd cb469 (fun q => absurd ((nI_eq (a := X % 2) (b := 0) (by omega) (by omega)).mp q) (by omega)))
    refine lv_bipush (v := 51) hx hb dL_refuses_391 (by decide) ?_
    refine lv_iload_n hx hb dL_refuses_393 rfl (lv_at hl 4 rfl) ?_
    refine lv_bipush (v := 9) hx hb dL_refuses_394 (by decide) ?_
    refine lv_irem hx hb dL_refuses_396 (by decide) ?_
    refine lv_topi (fun z470 ez470 => ?_)
    obtain rfl : z470 = nI (X % 9) := ez470.trans ((pk_rem (a := X) (d := 9) (by omega) (by omega) (by omega) : nI X - nI X / nI 9 * nI 9 = _))
    refine lv_iadd hx hb dL_refuses_397 ?_
    refine lv_topi (fun z471 ez471 => ?_)
    obtain rfl : z471 = nI (51 + (X % 9)) := ez471.trans ((nI_add 51 (X % 9) : nI 51 + nI (X % 9) = _))
    refine lv_iconst (v := 0) hx hb dL_refuses_398 (by decide) ?_
    refine lv_iconst (v := 0) hx hb dL_refuses_399 (by decide) ?_
    have k472 : fCall S 11 (nI (51 + (X % 9))) 0 0 = ((-9999002), S) := t_all S 0 0 (Or.inr (nI_lt (a := 50) (by omega) (by omega)))
    refine xw_callEi (va_runS (As := [.ref (av 0), .int 11, .int (nI (51 + (X % 9))), .int 0, .int 0]) (rest := []) ⟨hx, hb, hml, hown, hts⟩ (c_call l hst D y av ga465 gb466 H.size S 11 (nI (51 + (X % 9))) 0 0 hG.ok) (va_cwS 5 hts gL_refuses_L_call rfl rfl rfl hd_L_call ⟨Nat.le_of_ble_eq_true rfl, Nat.le_of_ble_eq_true rfl⟩) (lS hE hXE hLN hXZ hS hA hP hD) rfl rfl hl.1 rfl (lv_room (Nat.le_of_ble_eq_true rfl)) dL_refuses_400 ⟨Nat.le_of_ble_eq_true rfl, Nat.le_of_ble_eq_true rfl⟩) hD hS hA (fun v473 u474 ga476 gb477 H locs h475 hP hD hS => ?_)
    obtain ⟨rfl, rfl⟩ := Prod.mk.inj (k472.symm.trans h475)
    refine lv_ldc (v := (-9999002)) hx hb hown w_0 dL_refuses_403 ?_
    refine lv_icmp_ne (tgt := 701) hx hb dL_refuses_405 (by decide) (fun cb478 => absurd (by decide) cb478) (fun cb478 => ?_)
    refine lv_aload_n hx hb dL_refuses_408 rfl (lv_at hl 3 rfl) ?_
    refine lv_bipush (v := 12) hx hb dL_refuses_409 (by decide) ?_
    refine lv_iconst (v := 0) hx hb dL_refuses_411 (by decide) ?_
    refine lv_iload_n hx hb dL_refuses_412 rfl (lv_at hl 4 rfl) ?_
    refine lv_iconst (v := 5) hx hb dL_refuses_413 (by decide) ?_
    refine lv_irem hx hb dL_refuses_414 (by decide) ?_
    refine lv_topi (fun z479 ez479 => ?_)
    obtain rfl : z479 = nI (X % 5) := ez479.trans ((pk_rem (a := X) (d := 5) (by omega) (by omega) (by omega) : nI X - nI X / nI 5 * nI 5 = _))
    refine lv_iconst (v := 0) hx hb dL_refuses_415 (by decide) ?_
    have k480 : fCall S 12 0 (nI (X % 5)) 0 = ((-9999002), S) := t_laysS S 0 (sv_0 (Or.inl ⟨rfl, Or.inl (nI_lt (b := 5) (by omega) (by omega))⟩))
    refine xw_callEi (va_runS (As := [.ref (av 0), .int 12, .int 0, .int (nI (X % 5)), .int 0]) (rest := []) ⟨hx, hb, hml, hown, hts⟩ (c_call l hst D y av ga476 gb477 H.size S 12 0 (nI (X % 5)) 0 hG.ok) (va_cwS 5 hts gL_refuses_L_call rfl rfl rfl hd_L_call ⟨Nat.le_of_ble_eq_true rfl, Nat.le_of_ble_eq_true rfl⟩) (lS hE hXE hLN hXZ hS hA hP hD) rfl rfl hl.1 rfl (lv_room (Nat.le_of_ble_eq_true rfl)) dL_refuses_416 ⟨Nat.le_of_ble_eq_true rfl, Nat.le_of_ble_eq_true rfl⟩) hD hS hA (fun v481 u482 ga484 gb485 H locs h483 hP hD hS => ?_)
    obtain ⟨rfl, rfl⟩ := Prod.mk.inj (k480.symm.trans h483)
    refine lv_ldc (v := (-9999002)) hx hb hown w_0 dL_refuses_419 ?_
    refine lv_icmp_ne (tgt := 701) hx hb dL_refuses_421 (by decide) (fun cb486 => absurd (by decide) cb486) (fun cb486 => ?_)
    refine lv_aload_n hx hb dL_refuses_424 rfl (lv_at hl 3 rfl) ?_
    refine lv_bipush (v := 12) hx hb dL_refuses_425 (by decide) ?_
    refine lv_iload_n hx hb dL_refuses_427 rfl (lv_at hl 4 rfl) ?_
    refine lv_iconst (v := 2) hx hb dL_refuses_428 (by decide) ?_
    refine lv_irem hx hb dL_refuses_429 (by decide) ?_
    refine lv_topi (fun z487 ez487 => ?_)
    obtain rfl : z487 = nI (X % 2) := ez487.trans ((pk_rem (a := X) (d := 2) (by omega) (by omega) (by omega) : nI X - nI X / nI 2 * nI 2 = _))
    refine lv_iload hx hb dL_refuses_430 (lv_at hl 0 rfl) ?_
    refine lv_iconst (v := 0) hx hb dL_refuses_432 (by decide) ?_
    have k488 : fCall S 12 (nI (X % 2)) (nI (1000 + (X % 99))) 0 = ((-9999002), S) := t_laysS S 0 (sv_0 (Or.inr (Or.inl ⟨by rw [hp]; rfl, Or.inr (nI_lt (a := 50) (by omega) (by omega))⟩)))
    refine xw_callEi (va_runS (As := [.ref (av 0), .int 12, .int (nI (X % 2)), .int (nI (1000 + (X % 99))), .int 0]) (rest := []) ⟨hx, hb, hml, hown, hts⟩ (c_call l hst D y av ga484 gb485 H.size S 12 (nI (X % 2)) (nI (1000 + (X % 99))) 0 hG.ok) (va_cwS 5 hts gL_refuses_L_call rfl rfl rfl hd_L_call ⟨Nat.le_of_ble_eq_true rfl, Nat.le_of_ble_eq_true rfl⟩) (lS hE hXE hLN hXZ hS hA hP hD) rfl rfl hl.1 rfl (lv_room (Nat.le_of_ble_eq_true rfl)) dL_refuses_433 ⟨Nat.le_of_ble_eq_true rfl, Nat.le_of_ble_eq_true rfl⟩) hD hS hA (fun v489 u490 ga492 gb493 H locs h491 hP hD hS => ?_)
    obtain ⟨rfl, rfl⟩ := Prod.mk.inj (k488.symm.trans h491)
    refine lv_ldc (v := (-9999002)) hx hb hown w_0 dL_refuses_436 ?_
    refine lv_icmp_ne (tgt := 701) hx hb dL_refuses_438 (by decide) (fun cb494 => absurd (by decide) cb494) (fun cb494 => ?_)
    refine lv_aload_n hx hb dL_refuses_441 rfl (lv_at hl 3 rfl) ?_
    refine lv_bipush (v := 12) hx hb dL_refuses_442 (by decide) ?_
    refine lv_iconst (v := 2) hx hb dL_refuses_444 (by decide) ?_
    refine lv_iload_n hx hb dL_refuses_445 rfl (lv_at hl 4 rfl) ?_
    refine lv_bipush (v := 9) hx hb dL_refuses_446 (by decide) ?_
    refine lv_irem hx hb dL_refuses_448 (by decide) ?_
    refine lv_topi (fun z495 ez495 => ?_)
    obtain rfl : z495 = nI (X % 9) := ez495.trans ((pk_rem (a := X) (d := 9) (by omega) (by omega) (by omega) : nI X - nI X / nI 9 * nI 9 = _))
    refine lv_iadd hx hb dL_refuses_449 ?_
    refine lv_topi (fun z496 ez496 => ?_)
    obtain rfl : z496 = nI (2 + (X % 9)) := ez496.trans ((nI_add 2 (X % 9) : nI 2 + nI (X % 9) = _))
    refine lv_bipush (v := 10) hx hb dL_refuses_450 (by decide) ?_
    refine lv_iconst (v := 0) hx hb dL_refuses_452 (by decide) ?_
    have k497 : fCall S 12 (nI (2 + (X % 9))) 10 0 = ((-9999002), S) := t_laysS S 0 (sv_0 (Or.inr (Or.inr ⟨nI_ne0 (by omega) (by omega), fun q => absurd ((nI_eq (b := 1) (by omega) (by omega)).mp q) (by omega)⟩)))
    refine xw_callEi (va_runS (As := [.ref (av 0), .int 12, .int (nI (2 + (X % 9))), .int 10, .int 0]) (rest := []) ⟨hx, hb, hml, hown, hts⟩ (c_call l hst D y av ga492 gb493 H.size S 12 (nI (2 + (X % 9))) 10 0 hG.ok) (va_cwS 5 hts gL_refuses_L_call rfl rfl rfl hd_L_call ⟨Nat.le_of_ble_eq_true rfl, Nat.le_of_ble_eq_true rfl⟩) (lS hE hXE hLN hXZ hS hA hP hD) rfl rfl hl.1 rfl (lv_room (Nat.le_of_ble_eq_true rfl)) dL_refuses_453 ⟨Nat.le_of_ble_eq_true rfl, Nat.le_of_ble_eq_true rfl⟩) hD hS hA (fun v498 u499 ga501 gb502 H locs h500 hP hD hS => ?_)
    obtain ⟨rfl, rfl⟩ := Prod.mk.inj (k497.symm.trans h500)
    refine lv_ldc (v := (-9999002)) hx hb hown w_0 dL_refuses_456 ?_
    refine lv_icmp_ne (tgt := 701) hx hb dL_refuses_458 (by decide) (fun cb503 => absurd (by decide) cb503) (fun cb503 => ?_)
    refine lv_aload_n hx hb dL_refuses_461 rfl (lv_at hl 3 rfl) ?_
    refine lv_bipush (v := 14) hx hb dL_refuses_462 (by decide) ?_
    refine lv_iload_n hx hb dL_refuses_464 rfl (lv_at hl 1 rfl) ?_
    refine lv_iconst (v := 0) hx hb dL_refuses_465 (by decide) ?_
    refine lv_iconst (v := 0) hx hb dL_refuses_466 (by decide) ?_
    have k504 : fCall S 14 (nI (N + (X % 50))) 0 0 = ((-9999001), S) := t_life S 0 0 (fun q => absurd ((okL_iff e0 b1 (by omega)).mp q) (by omega))
    refine xw_callEi (va_runS (As := [.ref (av 0), .int 14, .int (nI (N + (X % 50))), .int 0, .int 0]) (rest := []) ⟨hx, hb, hml, hown, hts⟩ (c_call l hst D y av ga501 gb502 H.size S 14 (nI (N + (X % 50))) 0 0 hG.ok) (va_cwS 5 hts gL_refuses_L_call rfl rfl rfl hd_L_call ⟨Nat.le_of_ble_eq_true rfl, Nat.le_of_ble_eq_true rfl⟩) (lS hE hXE hLN hXZ hS hA hP hD) rfl rfl hl.1 rfl (lv_room (Nat.le_of_ble_eq_true rfl)) dL_refuses_467 ⟨Nat.le_of_ble_eq_true rfl, Nat.le_of_ble_eq_true rfl⟩) hD hS hA (fun v505 u506 ga508 gb509 H locs h507 hP hD hS => ?_)
    obtain ⟨rfl, rfl⟩ := Prod.mk.inj (k504.symm.trans h507)
    refine lv_ldc (v := (-9999001)) hx hb hown w_1 dL_refuses_470 ?_
    refine lv_icmp_ne (tgt := 701) hx hb dL_refuses_472 (by decide) (fun cb510 => absurd (by decide) cb510) (fun cb510 => ?_)
    refine lv_aload_n hx hb dL_refuses_475 rfl (lv_at hl 3 rfl) ?_
    refine lv_bipush (v := 16) hx hb dL_refuses_476 (by decide) ?_
    refine lv_iload_n hx hb dL_refuses_478 rfl (lv_at hl 1 rfl) ?_
    refine lv_iconst (v := 0) hx hb dL_refuses_479 (by decide) ?_
    refine lv_iconst (v := 0) hx hb dL_refuses_480 (by decide) ?_
    have k511 : fCall S 16 (nI (N + (X % 50))) 0 0 = ((-9999001), S) := t_every1 S 0 0 (fun q => absurd ((okL_iff e0 b1 (by omega)).mp q) (by omega))
    refine xw_callEi (va_runS (As := [.ref (av 0), .int 16, .int (nI (N + (X % 50))), .int 0, .int 0]) (rest := []) ⟨hx, hb, hml, hown, hts⟩ (c_call l hst D y av ga508 gb509 H.size S 16 (nI (N + (X % 50))) 0 0 hG.ok) (va_cwS 5 hts gL_refuses_L_call rfl rfl rfl hd_L_call ⟨Nat.le_of_ble_eq_true rfl, Nat.le_of_ble_eq_true rfl⟩) (lS hE hXE hLN hXZ hS hA hP hD) rfl rfl hl.1 rfl (lv_room (Nat.le_of_ble_eq_true rfl)) dL_refuses_481 ⟨Nat.le_of_ble_eq_true rfl, Nat.le_of_ble_eq_true rfl⟩) hD hS hA (fun v512 u513 ga515 gb516 H locs h514 hP hD hS => ?_)
    obtain ⟨rfl, rfl⟩ := Prod.mk.inj (k511.symm.trans h514)
    refine lv_ldc (v := (-9999001)) hx hb hown w_1 dL_refuses_484 ?_
    refine lv_icmp_ne (tgt := 701) hx hb dL_refuses_486 (by decide) (fun cb517 => absurd (by decide) cb517) (fun cb517 => ?_)
    refine lv_aload_n hx hb dL_refuses_489 rfl (lv_at hl 3 rfl) ?_
    refine lv_bipush (v := 16) hx hb dL_refuses_490 (by decide) ?_
    refine lv_iload_n hx hb dL_refuses_492 rfl (lv_at hl 4 rfl) ?_
    refine lv_iload_n hx hb dL_refuses_493 rfl (lv_at hl 2 rfl) ?_
    refine lv_irem hx hb dL_refuses_494 (nI_ne0 (n := N) (by omega) (by omega)) ?_
    refine lv_topi (fun z518 ez518 => ?_)
    obtain rfl : z518 = nI (X % N) := ez518.trans ((pk_rem (a := X) (d := N) (by omega) (by omega) (by omega) : nI X - nI X / nI N * nI N = _))
    refine lv_bipush (v := 51) hx hb dL_refuses_495 (by decide) ?_
    refine lv_iload_n hx hb dL_refuses_497 rfl (lv_at hl 4 rfl) ?_
    refine lv_bipush (v := 9) hx hb dL_refuses_498 (by decide) ?_
    refine lv_irem hx hb dL_refuses_500 (by decide) ?_
    refine lv_topi (fun z519 ez519 => ?_)
    obtain rfl : z519 = nI (X % 9) := ez519.trans ((pk_rem (a := X) (d := 9) (by omega) (by omega) (by omega) : nI X - nI X / nI 9 * nI 9 = _))
    refine lv_iadd hx hb dL_refuses_501 ?_
    refine lv_topi (fun z520 ez520 => ?_)
    obtain rfl : z520 = nI (51 + (X % 9)) := ez520.trans ((nI_add 51 (X % 9) : nI 51 + nI (X % 9) = _))
    refine lv_iconst (v := 1) hx hb dL_refuses_502 (by decide) ?_
    have k521 : fCall S 16 (nI (X % N)) (nI (51 + (X % 9))) 1 = ((-9999002), S) := t_every2 S 1 (okL_nI hG.gd hxn) (Or.inr (nI_lt (a := 50) (by omega) (by omega)))
    refine xw_callEi (va_runS (As := [.ref (av 0), .int 16, .int (nI (X % N)), .int (nI (51 + (X % 9))), .int 1]) (rest := []) ⟨hx, hb, hml, hown, hts⟩ (c_call l hst D y av ga515 gb516 H.size S 16 (nI (X % N)) (nI (51 + (X % 9))) 1 hG.ok) (va_cwS 5 hts gL_refuses_L_call rfl rfl rfl hd_L_call ⟨Nat.le_of_ble_eq_true rfl, Nat.le_of_ble_eq_true rfl⟩) (lS hE hXE hLN hXZ hS hA hP hD) rfl rfl hl.1 rfl (lv_room (Nat.le_of_ble_eq_true rfl)) dL_refuses_503 ⟨Nat.le_of_ble_eq_true rfl, Nat.le_of_ble_eq_true rfl⟩) hD hS hA (fun v522 u523 ga525 gb526 H locs h524 hP hD hS => ?_)
    obtain ⟨rfl, rfl⟩ := Prod.mk.inj (k521.symm.trans h524)
    refine lv_ldc (v := (-9999002)) hx hb hown w_0 dL_refuses_506 ?_
    refine lv_icmp_ne (tgt := 701) hx hb dL_refuses_508 (by decide) (fun cb527 => absurd (by decide) cb527) (fun cb527 => ?_)
    refine lv_aload_n hx hb dL_refuses_511 rfl (lv_at hl 3 rfl) ?_
    refine lv_bipush (v := 16) hx hb dL_refuses_512 (by decide) ?_
    refine lv_iload_n hx hb dL_refuses_514 rfl (lv_at hl 4 rfl) ?_
    refine lv_iload_n hx hb dL_refuses_515 rfl (lv_at hl 2 rfl) ?_
    refine lv_irem hx hb dL_refuses_516 (nI_ne0 (n := N) (by omega) (by omega)) ?_
    refine lv_topi (fun z528 ez528 => ?_)
    obtain rfl : z528 = nI (X % N) := ez528.trans ((pk_rem (a := X) (d := N) (by omega) (by omega) (by omega) : nI X - nI X / nI N * nI N = _))
    refine lv_iconst (v := 1) hx hb dL_refuses_517 (by decide) ?_
    refine lv_iconst (v := 0) hx hb dL_refuses_518 (by decide) ?_
    have k529 : fCall S 16 (nI (X % N)) 1 0 = ((-9999002), S) := t_every3 S (okL_nI hG.gd hxn) (by decide) (by decide) (Or.inl (by decide))
    refine xw_callEi (va_runS (As := [.ref (av 0), .int 16, .int (nI (X % N)), .int 1, .int 0]) (rest := []) ⟨hx, hb, hml, hown, hts⟩ (c_call l hst D y av ga525 gb526 H.size S 16 (nI (X % N)) 1 0 hG.ok) (va_cwS 5 hts gL_refuses_L_call rfl rfl rfl hd_L_call ⟨Nat.le_of_ble_eq_true rfl, Nat.le_of_ble_eq_true rfl⟩) (lS hE hXE hLN hXZ hS hA hP hD) rfl rfl hl.1 rfl (lv_room (Nat.le_of_ble_eq_true rfl)) dL_refuses_519 ⟨Nat.le_of_ble_eq_true rfl, Nat.le_of_ble_eq_true rfl⟩) hD hS hA (fun v530 u531 ga533 gb534 H locs h532 hP hD hS => ?_)
    obtain ⟨rfl, rfl⟩ := Prod.mk.inj (k529.symm.trans h532)
    refine lv_ldc (v := (-9999002)) hx hb hown w_0 dL_refuses_522 ?_
    refine lv_icmp_ne (tgt := 701) hx hb dL_refuses_524 (by decide) (fun cb535 => absurd (by decide) cb535) (fun cb535 => ?_)
    refine lv_aload_n hx hb dL_refuses_527 rfl (lv_at hl 3 rfl) ?_
    refine lv_bipush (v := 17) hx hb dL_refuses_528 (by decide) ?_
    refine lv_iload_n hx hb dL_refuses_530 rfl (lv_at hl 1 rfl) ?_
    refine lv_iconst (v := 0) hx hb dL_refuses_531 (by decide) ?_
    refine lv_iconst (v := 0) hx hb dL_refuses_532 (by decide) ?_
    have k536 : fCall S 17 (nI (N + (X % 50))) 0 0 = ((-9999001), S) := t_best1 S 0 0 (fun q => absurd ((okL_iff e0 b1 (by omega)).mp q) (by omega))
    refine xw_callEi (va_runS (As := [.ref (av 0), .int 17, .int (nI (N + (X % 50))), .int 0, .int 0]) (rest := []) ⟨hx, hb, hml, hown, hts⟩ (c_call l hst D y av ga533 gb534 H.size S 17 (nI (N + (X % 50))) 0 0 hG.ok) (va_cwS 5 hts gL_refuses_L_call rfl rfl rfl hd_L_call ⟨Nat.le_of_ble_eq_true rfl, Nat.le_of_ble_eq_true rfl⟩) (lS hE hXE hLN hXZ hS hA hP hD) rfl rfl hl.1 rfl (lv_room (Nat.le_of_ble_eq_true rfl)) dL_refuses_533 ⟨Nat.le_of_ble_eq_true rfl, Nat.le_of_ble_eq_true rfl⟩) hD hS hA (fun v537 u538 ga540 gb541 H locs h539 hP hD hS => ?_)
    obtain ⟨rfl, rfl⟩ := Prod.mk.inj (k536.symm.trans h539)
    refine lv_ldc (v := (-9999001)) hx hb hown w_1 dL_refuses_536 ?_
    refine lv_icmp_ne (tgt := 701) hx hb dL_refuses_538 (by decide) (fun cb542 => absurd (by decide) cb542) (fun cb542 => ?_)
    refine lv_aload_n hx hb dL_refuses_541 rfl (lv_at hl 3 rfl) ?_
    refine lv_bipush (v := 17) hx hb dL_refuses_542 (by decide) ?_
    refine lv_iload_n hx hb dL_refuses_544 rfl (lv_at hl 4 rfl) ?_
    refine lv_iload_n hx hb dL_refuses_545 rfl (lv_at hl 2 rfl) ?_
    refine lv_irem hx hb dL_refuses_546 (nI_ne0 (n := N) (by omega) (by omega)) ?_
    refine lv_topi (fun z543 ez543 => ?_)
    obtain rfl : z543 = nI (X % N) := ez543.trans ((pk_rem (a := X) (d := N) (by omega) (by omega) (by omega) : nI X - nI X / nI N * nI N = _))
    refine lv_sipush (v := 501) hx hb dL_refuses_547 (by decide) ?_
    refine lv_iload_n hx hb dL_refuses_550 rfl (lv_at hl 4 rfl) ?_
    refine lv_bipush (v := 9) hx hb dL_refuses_551 (by decide) ?_
    refine lv_irem hx hb dL_refuses_553 (by decide) ?_
    refine lv_topi (fun z544 ez544 => ?_)
    obtain rfl : z544 = nI (X % 9) := ez544.trans ((pk_rem (a := X) (d := 9) (by omega) (by omega) (by omega) : nI X - nI X / nI 9 * nI 9 = _))
    refine lv_iadd hx hb dL_refuses_554 ?_
    refine lv_topi (fun z545 ez545 => ?_)
    obtain rfl : z545 = nI (501 + (X % 9)) := ez545.trans ((nI_add 501 (X % 9) : nI 501 + nI (X % 9) = _))
    refine lv_iconst (v := 0) hx hb dL_refuses_555 (by decide) ?_
    have k546 : fCall S 17 (nI (X % N)) (nI (501 + (X % 9))) 0 = ((-9999002), S) := t_best2 S 0 (okL_nI hG.gd hxn) (Or.inr (nI_lt (a := 500) (by omega) (by omega)))
    refine xw_callEi (va_runS (As := [.ref (av 0), .int 17, .int (nI (X % N)), .int (nI (501 + (X % 9))), .int 0]) (rest := []) ⟨hx, hb, hml, hown, hts⟩ (c_call l hst D y av ga540 gb541 H.size S 17 (nI (X % N)) (nI (501 + (X % 9))) 0 hG.ok) (va_cwS 5 hts gL_refuses_L_call rfl rfl rfl hd_L_call ⟨Nat.le_of_ble_eq_true rfl, Nat.le_of_ble_eq_true rfl⟩) (lS hE hXE hLN hXZ hS hA hP hD) rfl rfl hl.1 rfl (lv_room (Nat.le_of_ble_eq_true rfl)) dL_refuses_556 ⟨Nat.le_of_ble_eq_true rfl, Nat.le_of_ble_eq_true rfl⟩) hD hS hA (fun v547 u548 ga550 gb551 H locs h549 hP hD hS => ?_)
    obtain ⟨rfl, rfl⟩ := Prod.mk.inj (k546.symm.trans h549)
    refine lv_ldc (v := (-9999002)) hx hb hown w_0 dL_refuses_559 ?_
    refine lv_icmp_ne (tgt := 701) hx hb dL_refuses_561 (by decide) (fun cb552 => absurd (by decide) cb552) (fun cb552 => ?_)
    refine lv_aload_n hx hb dL_refuses_564 rfl (lv_at hl 3 rfl) ?_
    refine lv_bipush (v := 18) hx hb dL_refuses_565 (by decide) ?_
    refine lv_iload_n hx hb dL_refuses_567 rfl (lv_at hl 1 rfl) ?_
    refine lv_iconst (v := 0) hx hb dL_refuses_568 (by decide) ?_
    refine lv_iconst (v := 0) hx hb dL_refuses_569 (by decide) ?_
    have k553 : fCall S 18 (nI (N + (X % 50))) 0 0 = ((-9999001), S) := t_moves S 0 0 (fun q => absurd ((okL_iff e0 b1 (by omega)).mp q) (by omega))
    refine xw_callEi (va_runS (As := [.ref (av 0), .int 18, .int (nI (N + (X % 50))), .int 0, .int 0]) (rest := []) ⟨hx, hb, hml, hown, hts⟩ (c_call l hst D y av ga550 gb551 H.size S 18 (nI (N + (X % 50))) 0 0 hG.ok) (va_cwS 5 hts gL_refuses_L_call rfl rfl rfl hd_L_call ⟨Nat.le_of_ble_eq_true rfl, Nat.le_of_ble_eq_true rfl⟩) (lS hE hXE hLN hXZ hS hA hP hD) rfl rfl hl.1 rfl (lv_room (Nat.le_of_ble_eq_true rfl)) dL_refuses_570 ⟨Nat.le_of_ble_eq_true rfl, Nat.le_of_ble_eq_true rfl⟩) hD hS hA (fun v554 u555 ga557 gb558 H locs h556 hP hD hS => ?_)
    obtain ⟨rfl, rfl⟩ := Prod.mk.inj (k553.symm.trans h556)
    refine lv_ldc (v := (-9999001)) hx hb hown w_1 dL_refuses_573 ?_
    refine lv_icmp_ne (tgt := 701) hx hb dL_refuses_575 (by decide) (fun cb559 => absurd (by decide) cb559) (fun cb559 => ?_)
    refine lv_aload_n hx hb dL_refuses_578 rfl (lv_at hl 3 rfl) ?_
    refine lv_bipush (v := 19) hx hb dL_refuses_579 (by decide) ?_
    refine lv_iload_n hx hb dL_refuses_581 rfl (lv_at hl 1 rfl) ?_
    refine lv_iconst (v := (-1)) hx hb dL_refuses_582 (by decide) ?_
    refine lv_iconst (v := 0) hx hb dL_refuses_583 (by decide) ?_
    have k560 : fCall S 19 (nI (N + (X % 50))) (-1) 0 = ((-9999001), S) := t_behind1 S _ 0 (fun q => absurd ((okL_iff e0 b1 (by omega)).mp q) (by omega))
    refine xw_callEi (va_runS (As := [.ref (av 0), .int 19, .int (nI (N + (X % 50))), .int (-1), .int 0]) (rest := []) ⟨hx, hb, hml, hown, hts⟩ (c_call l hst D y av ga557 gb558 H.size S 19 (nI (N + (X % 50))) (-1) 0 hG.ok) (va_cwS 5 hts gL_refuses_L_call rfl rfl rfl hd_L_call ⟨Nat.le_of_ble_eq_true rfl, Nat.le_of_ble_eq_true rfl⟩) (lS hE hXE hLN hXZ hS hA hP hD) rfl rfl hl.1 rfl (lv_room (Nat.le_of_ble_eq_true rfl)) dL_refuses_584 ⟨Nat.le_of_ble_eq_true rfl, Nat.le_of_ble_eq_true rfl⟩) hD hS hA (fun v561 u562 ga564 gb565 H locs h563 hP hD hS => ?_)
    obtain ⟨rfl, rfl⟩ := Prod.mk.inj (k560.symm.trans h563)
    refine lv_ldc (v := (-9999001)) hx hb hown w_1 dL_refuses_587 ?_
    refine lv_icmp_ne (tgt := 701) hx hb dL_refuses_589 (by decide) (fun cb566 => absurd (by decide) cb566) (fun cb566 => ?_)
    refine lv_aload_n hx hb dL_refuses_592 rfl (lv_at hl 3 rfl) ?_
    refine lv_bipush (v := 19) hx hb dL_refuses_593 (by decide) ?_
    refine lv_iload_n hx hb dL_refuses_595 rfl (lv_at hl 4 rfl) ?_
    refine lv_iload_n hx hb dL_refuses_596 rfl (lv_at hl 2 rfl) ?_
    refine lv_irem hx hb dL_refuses_597 (nI_ne0 (n := N) (by omega) (by omega)) ?_
    refine lv_topi (fun z567 ez567 => ?_)
    obtain rfl : z567 = nI (X % N) := ez567.trans ((pk_rem (a := X) (d := N) (by omega) (by omega) (by omega) : nI X - nI X / nI N * nI N = _))
    refine lv_iconst (v := (-1)) hx hb dL_refuses_598 (by decide) ?_
    refine lv_iload_n hx hb dL_refuses_599 rfl (lv_at hl 4 rfl) ?_
    refine lv_bipush (v := 9) hx hb dL_refuses_600 (by decide) ?_
    refine lv_irem hx hb dL_refuses_602 (by decide) ?_
    refine lv_topi (fun z568 ez568 => ?_)
    obtain rfl : z568 = nI (X % 9) := ez568.trans ((pk_rem (a := X) (d := 9) (by omega) (by omega) (by omega) : nI X - nI X / nI 9 * nI 9 = _))
    refine lv_isub hx hb dL_refuses_603 ?_
    refine lv_iconst (v := 0) hx hb dL_refuses_604 (by decide) ?_
    have k569 : fCall S 19 (nI (X % N)) ((-1) - nI (X % 9)) 0 = ((-9999002), S) := t_behind2 S 0 (okL_nI hG.gd hxn) (Or.inl (neg_lt (by omega) (by decide)))
    refine xw_callEi (va_runS (As := [.ref (av 0), .int 19, .int (nI (X % N)), .int ((-1) - nI (X % 9)), .int 0]) (rest := []) ⟨hx, hb, hml, hown, hts⟩ (c_call l hst D y av ga564 gb565 H.size S 19 (nI (X % N)) ((-1) - nI (X % 9)) 0 hG.ok) (va_cwS 5 hts gL_refuses_L_call rfl rfl rfl hd_L_call ⟨Nat.le_of_ble_eq_true rfl, Nat.le_of_ble_eq_true rfl⟩) (lS hE hXE hLN hXZ hS hA hP hD) rfl rfl hl.1 rfl (lv_room (Nat.le_of_ble_eq_true rfl)) dL_refuses_605 ⟨Nat.le_of_ble_eq_true rfl, Nat.le_of_ble_eq_true rfl⟩) hD hS hA (fun v570 u571 ga573 gb574 H locs h572 hP hD hS => ?_)
    obtain ⟨rfl, rfl⟩ := Prod.mk.inj (k569.symm.trans h572)
    refine lv_ldc (v := (-9999002)) hx hb hown w_0 dL_refuses_608 ?_
    refine lv_icmp_ne (tgt := 701) hx hb dL_refuses_610 (by decide) (fun cb575 => absurd (by decide) cb575) (fun cb575 => ?_)
    refine lv_aload_n hx hb dL_refuses_613 rfl (lv_at hl 3 rfl) ?_
    refine lv_bipush (v := 20) hx hb dL_refuses_614 (by decide) ?_
    refine lv_iconst (v := 2) hx hb dL_refuses_616 (by decide) ?_
    refine lv_iload_n hx hb dL_refuses_617 rfl (lv_at hl 4 rfl) ?_
    refine lv_bipush (v := 50) hx hb dL_refuses_618 (by decide) ?_
    refine lv_irem hx hb dL_refuses_620 (by decide) ?_
    refine lv_topi (fun z576 ez576 => ?_)
    obtain rfl : z576 = nI (X % 50) := ez576.trans ((pk_rem (a := X) (d := 50) (by omega) (by omega) (by omega) : nI X - nI X / nI 50 * nI 50 = _))
    refine lv_iadd hx hb dL_refuses_621 ?_
    refine lv_topi (fun z577 ez577 => ?_)
    obtain rfl : z577 = nI (2 + (X % 50)) := ez577.trans ((nI_add 2 (X % 50) : nI 2 + nI (X % 50) = _))
    refine lv_iconst (v := 0) hx hb dL_refuses_622 (by decide) ?_
    refine lv_iconst (v := 0) hx hb dL_refuses_623 (by decide) ?_
    have k578 : fCall S 20 (nI (2 + (X % 50))) 0 0 = ((-9999001), S) := t_keep S 0 0 (Or.inr (nI_le (a := 2) (by omega) (by omega)))
    refine xw_callEi (va_runS (As := [.ref (av 0), .int 20, .int (nI (2 + (X % 50))), .int 0, .int 0]) (rest := []) ⟨hx, hb, hml, hown, hts⟩ (c_call l hst D y av ga573 gb574 H.size S 20 (nI (2 + (X % 50))) 0 0 hG.ok) (va_cwS 5 hts gL_refuses_L_call rfl rfl rfl hd_L_call ⟨Nat.le_of_ble_eq_true rfl, Nat.le_of_ble_eq_true rfl⟩) (lS hE hXE hLN hXZ hS hA hP hD) rfl rfl hl.1 rfl (lv_room (Nat.le_of_ble_eq_true rfl)) dL_refuses_624 ⟨Nat.le_of_ble_eq_true rfl, Nat.le_of_ble_eq_true rfl⟩) hD hS hA (fun v579 u580 ga582 gb583 H locs h581 hP hD hS => ?_)
    obtain ⟨rfl, rfl⟩ := Prod.mk.inj (k578.symm.trans h581)
    refine lv_ldc (v := (-9999001)) hx hb hown w_1 dL_refuses_627 ?_
    refine lv_icmp_ne (tgt := 701) hx hb dL_refuses_629 (by decide) (fun cb584 => absurd (by decide) cb584) (fun cb584 => ?_)
    refine lv_aload_n hx hb dL_refuses_632 rfl (lv_at hl 3 rfl) ?_
    refine lv_bipush (v := 21) hx hb dL_refuses_633 (by decide) ?_
    refine lv_iconst (v := (-1)) hx hb dL_refuses_635 (by decide) ?_
    refine lv_iload_n hx hb dL_refuses_636 rfl (lv_at hl 4 rfl) ?_
    refine lv_bipush (v := 9) hx hb dL_refuses_637 (by decide) ?_
    refine lv_irem hx hb dL_refuses_639 (by decide) ?_
    refine lv_topi (fun z585 ez585 => ?_)
    obtain rfl : z585 = nI (X % 9) := ez585.trans ((pk_rem (a := X) (d := 9) (by omega) (by omega) (by omega) : nI X - nI X / nI 9 * nI 9 = _))
    refine lv_isub hx hb dL_refuses_640 ?_
    refine lv_iconst (v := 0) hx hb dL_refuses_641 (by decide) ?_
    refine lv_iconst (v := 0) hx hb dL_refuses_642 (by decide) ?_
    have k586 : fCall S 21 ((-1) - nI (X % 9)) 0 0 = ((-9999001), S) := t_back S 0 0 (Or.inl (neg_lt (by omega) (by decide)))
    refine xw_callEi (va_runS (As := [.ref (av 0), .int 21, .int ((-1) - nI (X % 9)), .int 0, .int 0]) (rest := []) ⟨hx, hb, hml, hown, hts⟩ (c_call l hst D y av ga582 gb583 H.size S 21 ((-1) - nI (X % 9)) 0 0 hG.ok) (va_cwS 5 hts gL_refuses_L_call rfl rfl rfl hd_L_call ⟨Nat.le_of_ble_eq_true rfl, Nat.le_of_ble_eq_true rfl⟩) (lS hE hXE hLN hXZ hS hA hP hD) rfl rfl hl.1 rfl (lv_room (Nat.le_of_ble_eq_true rfl)) dL_refuses_643 ⟨Nat.le_of_ble_eq_true rfl, Nat.le_of_ble_eq_true rfl⟩) hD hS hA (fun v587 u588 ga590 gb591 H locs h589 hP hD hS => ?_)
    obtain ⟨rfl, rfl⟩ := Prod.mk.inj (k586.symm.trans h589)
    refine lv_ldc (v := (-9999001)) hx hb hown w_1 dL_refuses_646 ?_
    refine lv_icmp_ne (tgt := 701) hx hb dL_refuses_648 (by decide) (fun cb592 => absurd (by decide) cb592) (fun cb592 => ?_)
    refine lv_aload_n hx hb dL_refuses_651 rfl (lv_at hl 3 rfl) ?_
    refine lv_iconst (v := 0) hx hb dL_refuses_652 (by decide) ?_
    refine lv_lconst (v := 0) hx hb dL_refuses_653 (by decide) ?_
    have k593 : fScr S 0 0 = ((-9999002), S) := t_scr1 S 0 (by decide)
    refine xl_calli (vx_runSW (As := [.ref (av 0), .int 0, .long 0]) (rest := []) ⟨hx, hb, hml, hown, hts⟩ (c_L_doScript l hst D y (av 0) (av 1) (av 2) (av 3) (av 4) (av 5) (av 7) (av 8) (av 9) (av 10) H.size (S.2.2.1) (S.2.2.2.1) 0 0 (hG.ok).2.1) (vx_cwSW 3 hts gL_refuses_L_doScript rfl rfl rfl hd_L_doScript ⟨Nat.le_of_ble_eq_true rfl, Nat.le_of_ble_eq_true rfl⟩) (lS hE hXE hLN hXZ hS hA (hP.sub [0, 3, 4, 5, 6, 7, 8] rfl) (hD.sub [0, 3, 4, 5, 6, 7, 8] (by decide) rfl)) rfl rfl hl.1 rfl (lv_room (Nat.le_of_ble_eq_true rfl)) dL_refuses_654 ⟨Nat.le_of_ble_eq_true rfl, Nat.le_of_ble_eq_true rfl⟩) hP hD hS hA [0, 3, 4, 5, 6, 7, 8] rfl (by decide) (fun _ => rfl) (fun v594 u595 H locs h596 hP hD hS => ?_)
    have h5962 : fScr S 0 0 = (v594, (S.1, S.2.1, S.2.2.1, u595, S.2.2.2.2)) := by unfold fScr; rw [h596]
    obtain ⟨h5963, h5964⟩ := Prod.mk.inj (k593.symm.trans h5962)
    obtain rfl : (-9999002) = v594 := h5963
    have hP : va_P D vwCl (oW y av ga590 gb591 (S.1, S.2.1, S.2.2.1, u595, S.2.2.2.2)) H := hP
    have hD : va_D A (oW y av ga590 gb591 (S.1, S.2.1, S.2.2.1, u595, S.2.2.2.2)) := hD
    rw [← h5964] at hP hD
    refine lv_ldc (v := (-9999002)) hx hb hown w_0 dL_refuses_657 ?_
    refine lv_icmp_ne (tgt := 701) hx hb dL_refuses_659 (by decide) (fun cb597 => absurd (by decide) cb597) (fun cb597 => ?_)
    refine lv_aload_n hx hb dL_refuses_662 rfl (lv_at hl 3 rfl) ?_
    refine lv_iconst (v := 1) hx hb dL_refuses_663 (by decide) ?_
    refine lv_ldc2 (v := 1000000) hx hb hown w_2 dL_refuses_664 ?_
    refine lv_iload_n hx hb dL_refuses_667 rfl (lv_at hl 4 rfl) ?_
    refine lv_i2l (v := (nI X).toInt64) hx hb dL_refuses_668 rfl ?_
    refine lv_ladd hx hb dL_refuses_669 ?_
    refine lv_topl (fun z598 ez598 => ?_)
    obtain rfl : z598 = lN (1000000 + X) := ez598.trans (show lN 1000000 + (nI X).toInt64 = _ by rw [nI_l (by omega), lN_add])
    have k599 : fScr S 1 (lN (1000000 + X)) = ((-9999002), S) := t_scr2 S (by omega) (by omega)
    refine xl_calli (vx_runSW (As := [.ref (av 0), .int 1, .long (lN (1000000 + X))]) (rest := []) ⟨hx, hb, hml, hown, hts⟩ (c_L_doScript l hst D y (av 0) (av 1) (av 2) (av 3) (av 4) (av 5) (av 7) (av 8) (av 9) (av 10) H.size (S.2.2.1) (S.2.2.2.1) 1 (lN (1000000 + X)) (hG.ok).2.1) (vx_cwSW 3 hts gL_refuses_L_doScript rfl rfl rfl hd_L_doScript ⟨Nat.le_of_ble_eq_true rfl, Nat.le_of_ble_eq_true rfl⟩) (lS hE hXE hLN hXZ hS hA (hP.sub [0, 3, 4, 5, 6, 7, 8] rfl) (hD.sub [0, 3, 4, 5, 6, 7, 8] (by decide) rfl)) rfl rfl hl.1 rfl (lv_room (Nat.le_of_ble_eq_true rfl)) dL_refuses_670 ⟨Nat.le_of_ble_eq_true rfl, Nat.le_of_ble_eq_true rfl⟩) hP hD hS hA [0, 3, 4, 5, 6, 7, 8] rfl (by decide) (fun _ => rfl) (fun v600 u601 H locs h602 hP hD hS => ?_)
    have h6022 : fScr S 1 (lN (1000000 + X)) = (v600, (S.1, S.2.1, S.2.2.1, u601, S.2.2.2.2)) := by unfold fScr; rw [h602]
    obtain ⟨h6023, h6024⟩ := Prod.mk.inj (k599.symm.trans h6022)
    obtain rfl : (-9999002) = v600 := h6023
    have hP : va_P D vwCl (oW y av ga590 gb591 (S.1, S.2.1, S.2.2.1, u601, S.2.2.2.2)) H := hP
    have hD : va_D A (oW y av ga590 gb591 (S.1, S.2.1, S.2.2.1, u601, S.2.2.2.2)) := hD
    rw [← h6024] at hP hD
    refine lv_ldc (v := (-9999002)) hx hb hown w_0 dL_refuses_673 ?_
    refine lv_icmp_ne (tgt := 701) hx hb dL_refuses_675 (by decide) (fun cb603 => absurd (by decide) cb603) (fun cb603 => ?_)
    refine lv_aload_n hx hb dL_refuses_678 rfl (lv_at hl 3 rfl) ?_
    refine lv_iload_n hx hb dL_refuses_679 rfl (lv_at hl 4 rfl) ?_
    refine lv_i2l (v := (nI X).toInt64) hx hb dL_refuses_680 rfl ?_
    refine lv_sipush (v := 301) hx hb dL_refuses_681 (by decide) ?_
    refine lv_iload_n hx hb dL_refuses_684 rfl (lv_at hl 4 rfl) ?_
    refine lv_bipush (v := 9) hx hb dL_refuses_685 (by decide) ?_
    refine lv_irem hx hb dL_refuses_687 (by decide) ?_
    refine lv_topi (fun z604 ez604 => ?_)
    obtain rfl : z604 = nI (X % 9) := ez604.trans ((pk_rem (a := X) (d := 9) (by omega) (by omega) (by omega) : nI X - nI X / nI 9 * nI 9 = _))
    refine lv_iadd hx hb dL_refuses_688 ?_
    refine lv_topi (fun z605 ez605 => ?_)
    obtain rfl : z605 = nI (301 + (X % 9)) := ez605.trans ((nI_add 301 (X % 9) : nI 301 + nI (X % 9) = _))
    have k606 : fSim S ((nI X).toInt64) (nI (301 + (X % 9))) = ((-9999002), S) := t_sim S _ (Or.inr (nI_lt (a := 300) (by omega) (by omega)))
    refine xl_calli (vx_runSW (As := [.ref (av 0), .long ((nI X).toInt64), .int (nI (301 + (X % 9)))]) (rest := []) ⟨hx, hb, hml, hown, hts⟩ (c_L_doSimulate l hst D y (av 0) (av 1) (av 2) (av 3) (av 4) (av 5) (av 7) (av 8) (av 9) (av 10) H.size (S.2.2.1) (S.2.2.2.1) ((nI X).toInt64) (nI (301 + (X % 9))) (hG.ok).2.1) (vx_cwSW 3 hts gL_refuses_L_doSimulate rfl rfl rfl hd_L_doSimulate ⟨Nat.le_of_ble_eq_true rfl, Nat.le_of_ble_eq_true rfl⟩) (lS hE hXE hLN hXZ hS hA (hP.sub [0, 3, 4, 5, 6, 7, 8] rfl) (hD.sub [0, 3, 4, 5, 6, 7, 8] (by decide) rfl)) rfl rfl hl.1 rfl (lv_room (Nat.le_of_ble_eq_true rfl)) dL_refuses_689 ⟨Nat.le_of_ble_eq_true rfl, Nat.le_of_ble_eq_true rfl⟩) hP hD hS hA [0, 3, 4, 5, 6, 7, 8] rfl (by decide) (fun _ => rfl) (fun v607 u608 H locs h609 hP hD hS => ?_)
    have h6092 : fSim S ((nI X).toInt64) (nI (301 + (X % 9))) = (v607, (S.1, S.2.1, S.2.2.1, u608, S.2.2.2.2)) := by unfold fSim; rw [h609]
    obtain ⟨h6093, h6094⟩ := Prod.mk.inj (k606.symm.trans h6092)
    obtain rfl : (-9999002) = v607 := h6093
    have hP : va_P D vwCl (oW y av ga590 gb591 (S.1, S.2.1, S.2.2.1, u608, S.2.2.2.2)) H := hP
    have hD : va_D A (oW y av ga590 gb591 (S.1, S.2.1, S.2.2.1, u608, S.2.2.2.2)) := hD
    rw [← h6094] at hP hD
    refine lv_ldc (v := (-9999002)) hx hb hown w_0 dL_refuses_692 ?_
    refine lv_icmp_ne (tgt := 701) hx hb dL_refuses_694 (by decide) (fun cb610 => absurd (by decide) cb610) (fun cb610 => ?_)
    refine lv_iconst (v := 1) hx hb dL_refuses_697 (by decide) ?_
    refine lv_goto (tgt := 702) hx hb dL_refuses_698 (by decide) ?_
    refine W.widen (k := 200) (n := 3700) (Nat.le_of_ble_eq_true rfl) (Nat.le_of_ble_eq_true rfl) ?_
    exact W.zret (v := 1) hx hb hr rfl (fun t ht hW => ⟨⟨1, S, rfl, ⟨rfl, rfl⟩, ga590, gb591, by rw [ht]; exact hP, hD⟩, hS.F ht⟩) hS.2.2 dL_refuses_702
