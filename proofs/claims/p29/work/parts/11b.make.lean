theorem hd_X3_init : yX3_init.cls ≠ "java/lang/invoke/MethodHandle" ∧ yX3_init.cls ≠ "java/lang/invoke/VarHandle" ∧ (parseMethodDescriptor yX3_init.desc).map (fun d => d.parameters.length) = some 0 := by decide +kernel
set_option maxHeartbeats 4000000 in
set_option maxRecDepth 100000 in
theorem c_X3_init (l : Launch) (D : va_G) (y : Nat → ClassId) (a0 : Nat) (zh : Nat) : Met l yX3_init wsX3_init ({ frames := 1, cells := 2, slots := 65, locals := 12 }) (gP D y [.ref a0] zh [(a0, .inr (2, [.int 0, .int 0, .int 0, .int 0, .int 0, .int 0, .int 0, .int 0, .int 0, .int 0, .int 0, .int 0, .int 0, .null, .null]))]) (va_Qv (fun _ : Nat × Nat => True) (fun (u : Nat × Nat) t => va_P D vwCl ([(a0, soF u.1 u.2 iniR)] ++ [(u.1, soV y iniR), (u.2, soW y iniR)]) t.heap ∧ va_D (va_A [(a0, .inr (2, [.int 0, .int 0, .int 0, .int 0, .int 0, .int 0, .int 0, .int 0, .int 0, .int 0, .int 0, .int 0, .int 0, .null, .null]))] zh) ([(a0, soF u.1 u.2 iniR)] ++ [(u.1, soV y iniR), (u.2, soW y iniR)])) (va_A [(a0, .inr (2, [.int 0, .int 0, .int 0, .int 0, .int 0, .int 0, .int 0, .int 0, .int 0, .int 0, .int 0, .int 0, .int 0, .null, .null]))] zh)) 2 65 (va_A [(a0, .inr (2, [.int 0, .int 0, .int 0, .int 0, .int 0, .int 0, .int 0, .int 0, .int 0, .int 0, .int 0, .int 0, .int 0, .null, .null]))] zh) := by
  refine Met.ofW (cc := cX3_init) (maxL := 1) (ret := none) (by decide) rfl ?_
  intro p e s m args below meth c s₁ B hml hv
  obtain ⟨rfl, hsz, hP, hE, hD⟩ := hv
  have hx := B.exec
  have hb := B.bytes
  have hr := B.returns
  have hts := atoms_spec (ws := wsX3_init) B.pre
  have hown : s.vm.findClass RX3 = some m.cls := findClass_of_methodNamed B.named
  have hlocks := B.notSynchronized
  have hin : meth.name = "<init>" := (name_of_methodNamed B.named B.method).1
  have w_0 := hts (.methodLink RX3 3 objectInit) (List.mem_cons_of_mem _ (List.mem_append_left _ (List.mem_of_getElem? (i := 0) rfl)))
  have w_1 := hts (.instanceMethod objectInit) (List.mem_cons_of_mem _ (List.mem_append_left _ (List.mem_of_getElem? (i := 1) rfl)))
  have w_2 := hts (.code objectInit ⟨#[0xb1]⟩ 1 none) (List.mem_cons_of_mem _ (List.mem_append_left _ (List.mem_of_getElem? (i := 2) rfl)))
  have w_3 := hts (.fieldLink RX3 9 "GapLines$State" "endurance" "I") (List.mem_cons_of_mem _ (List.mem_append_left _ (List.mem_of_getElem? (i := 3) rfl)))
  have hi3 : ∀ w ∈ u_ws RX3 TX3 15, w ∈ wsX3_init := fun w h => (List.mem_cons_of_mem _ (List.mem_append_right _ h))
  have w_5 := hts (.fieldLink RX3 15 "GapLines$State" "every" "I") (List.mem_cons_of_mem _ (List.mem_append_left _ (List.mem_of_getElem? (i := 4) rfl)))
  have w_6 := hts (.arrayClass .int) (List.mem_cons_of_mem _ (List.mem_append_left _ (List.mem_of_getElem? (i := 5) rfl)))
  have w_7 := hts (.fieldLink RX3 18 "GapLines$State" "values" "[I") (List.mem_cons_of_mem _ (List.mem_append_left _ (List.mem_of_getElem? (i := 6) rfl)))
  have w_8 := hts (.fieldLink RX3 22 "GapLines$State" "wears" "[I") (List.mem_cons_of_mem _ (List.mem_append_left _ (List.mem_of_getElem? (i := 7) rfl)))
  subst hsz
  have hD := hD.self (sz := s.heap.size)
  generalize hAe : va_A [(a0, .inr (2, [.int 0, .int 0, .int 0, .int 0, .int 0, .int 0, .int 0, .int 0, .int 0, .int 0, .int 0, .int 0, .int 0, .null, .null]))] s.heap.size = A at hD ⊢
  have hA : ∀ q : Nat, s.heap.size ≤ q → A q := fun q h => by rw [← hAe]; exact Or.inr h
  have hS : va_S A s.heap s.heap [] := va_S.rf
  have hl := lv_entry ([.ref a0]) (n := 1) (Nat.le_of_ble_eq_true rfl)
  rw [lg_entry_eq]
  generalize (lg_sl ([.ref a0]) ++ List.replicate (1 - (lg_sl ([.ref a0])).length) Slot.unset).toArray = ls at hl ⊢
  have hl : lv_has ls 1 [(0, .ref a0)] := hl
  have hF : (0 : Nat) = 0 := rfl
  refine lv_aload_n hx hb dX3_init_0 rfl (lv_at hl 0 rfl) ?_
  refine W.objInit hx hb hown w_0 w_1 w_2 rfl (by rw [hml]; exact hl.1) rfl dX3_init_1 (Nat.le_of_ble_eq_true rfl) (Nat.le_of_ble_eq_true rfl) ?_
  refine W.eq (g2 := F0 m 4 ls []) rfl ?_
  refine lv_aload_n hx hb dX3_init_4 rfl (lv_at hl 0 rfl) ?_
  refine lv_bipush (v := 100) hx hb dX3_init_5 (by decide) ?_
  refine va_put (D := D) (ci := 2) (v := .int 100) (ty := .int) (C := RX3) (T := TX3) (N := 15) hx hb hts hi3 tyX3 tyX3_ok nmX3 hown hE.1 hP hD hS 0 rfl rfl 11 (by decide) w_3 (fun _ h9 => h9) rfl (by decide +kernel) rfl rfl (Nat.le_of_ble_eq_true rfl) dX3_init_7 (fun H locs hP hD hS => ?_)
  have hP : va_P D vwCl [(a0, .inr (2, [.int 0, .int 0, .int 0, .int 0, .int 0, .int 0, .int 0, .int 0, .int 0, .int 0, .int 0, .int 100, .int 0, .null, .null]))] H := hP
  have hD : va_D A [(a0, .inr (2, [.int 0, .int 0, .int 0, .int 0, .int 0, .int 0, .int 0, .int 0, .int 0, .int 0, .int 0, .int 100, .int 0, .null, .null]))] := hD
  refine lv_aload_n hx hb dX3_init_10 rfl (lv_at hl 0 rfl) ?_
  refine lv_bipush (v := 8) hx hb dX3_init_11 (by decide) ?_
  refine va_put (D := D) (ci := 2) (v := .int 8) (ty := .int) (C := RX3) (T := TX3) (N := 15) hx hb hts hi3 tyX3 tyX3_ok nmX3 hown hE.1 hP hD hS 0 rfl rfl 12 (by decide) w_5 (fun _ h9 => h9) rfl (by decide +kernel) rfl rfl (Nat.le_of_ble_eq_true rfl) dX3_init_13 (fun H locs hP hD hS => ?_)
  have hP : va_P D vwCl [(a0, .inr (2, [.int 0, .int 0, .int 0, .int 0, .int 0, .int 0, .int 0, .int 0, .int 0, .int 0, .int 0, .int 100, .int 8, .null, .null]))] H := hP
  have hD : va_D A [(a0, .inr (2, [.int 0, .int 0, .int 0, .int 0, .int 0, .int 0, .int 0, .int 0, .int 0, .int 0, .int 0, .int 100, .int 8, .null, .null]))] := hD
  refine lv_aload_n hx hb dX3_init_16 rfl (lv_at hl 0 rfl) ?_
  refine lv_bipush (v := 32) hx hb dX3_init_17 (by decide) ?_
  refine va_newa (atype := .int) (ty := .int) (N' := 32) (a0 := (32, .inl (fun _ => 0))) hx hb w_6 rfl hE.1 hP hD hS hA (fun cA => rfl) (by decide) rfl (Nat.le_of_ble_eq_true rfl) (Nat.le_of_ble_eq_true rfl) (Nat.le_of_ble_eq_true rfl) dX3_init_19 (fun q1 cA2 H hK hP hD hS => ?_)
  obtain rfl : cA2 = y 0 := va_K_eq hK 4 0 rfl rfl
  have hP : va_P D vwCl [(a0, .inr (2, [.int 0, .int 0, .int 0, .int 0, .int 0, .int 0, .int 0, .int 0, .int 0, .int 0, .int 0, .int 100, .int 8, .null, .null])), (q1, .inl (y 0, 32, .inl (fun _ => 0)))] H := hP
  have hD : va_D A [(a0, .inr (2, [.int 0, .int 0, .int 0, .int 0, .int 0, .int 0, .int 0, .int 0, .int 0, .int 0, .int 0, .int 100, .int 8, .null, .null])), (q1, .inl (y 0, 32, .inl (fun _ => 0)))] := hD
  refine va_putF (D := D) (ci := 2) (v := .ref q1) (ty := tyX3 13) (C := RX3) (T := TX3) (N := 15) hx hb hts hi3 tyX3 tyX3_ok nmX3 hown hE.1 hP hD hS 0 rfl rfl 13 (by decide) w_7 (fun _ h9 => h9) rfl hin rfl (by decide +kernel) rfl rfl (Nat.le_of_ble_eq_true rfl) dX3_init_21 (fun H locs hP hD hS => ?_)
  have hP : va_P D vwCl [(a0, .inr (2, [.int 0, .int 0, .int 0, .int 0, .int 0, .int 0, .int 0, .int 0, .int 0, .int 0, .int 0, .int 100, .int 8, .ref q1, .null])), (q1, .inl (y 0, 32, .inl (fun _ => 0)))] H := hP
  have hD : va_D A [(a0, .inr (2, [.int 0, .int 0, .int 0, .int 0, .int 0, .int 0, .int 0, .int 0, .int 0, .int 0, .int 0, .int 100, .int 8, .ref q1, .null])), (q1, .inl (y 0, 32, .inl (fun _ => 0)))] := hD
  refine lv_aload_n hx hb dX3_init_24 rfl (lv_at hl 0 rfl) ?_
  refine lv_bipush (v := 33) hx hb dX3_init_25 (by decide) ?_
  refine va_newa (atype := .int) (ty := .int) (N' := 33) (a0 := (33, .inl (fun _ => 0))) hx hb w_6 rfl hE.1 hP hD hS hA (fun cA => rfl) (by decide) rfl (Nat.le_of_ble_eq_true rfl) (Nat.le_of_ble_eq_true rfl) (Nat.le_of_ble_eq_true rfl) dX3_init_27 (fun q3 cA4 H hK hP hD hS => ?_)
  obtain rfl : cA4 = y 0 := va_K_eq hK 4 0 rfl rfl
  have hP : va_P D vwCl [(a0, .inr (2, [.int 0, .int 0, .int 0, .int 0, .int 0, .int 0, .int 0, .int 0, .int 0, .int 0, .int 0, .int 100, .int 8, .ref q1, .null])), (q1, .inl (y 0, 32, .inl (fun _ => 0))), (q3, .inl (y 0, 33, .inl (fun _ => 0)))] H := hP
  have hD : va_D A [(a0, .inr (2, [.int 0, .int 0, .int 0, .int 0, .int 0, .int 0, .int 0, .int 0, .int 0, .int 0, .int 0, .int 100, .int 8, .ref q1, .null])), (q1, .inl (y 0, 32, .inl (fun _ => 0))), (q3, .inl (y 0, 33, .inl (fun _ => 0)))] := hD
  refine va_putF (D := D) (ci := 2) (v := .ref q3) (ty := tyX3 14) (C := RX3) (T := TX3) (N := 15) hx hb hts hi3 tyX3 tyX3_ok nmX3 hown hE.1 hP hD hS 0 rfl rfl 14 (by decide) w_8 (fun _ h9 => h9) rfl hin rfl (by decide +kernel) rfl rfl (Nat.le_of_ble_eq_true rfl) dX3_init_29 (fun H locs hP hD hS => ?_)
  have hP : va_P D vwCl [(a0, .inr (2, [.int 0, .int 0, .int 0, .int 0, .int 0, .int 0, .int 0, .int 0, .int 0, .int 0, .int 0, .int 100, .int 8, .ref q1, .ref q3])), (q1, .inl (y 0, 32, .inl (fun _ => 0))), (q3, .inl (y 0, 33, .inl (fun _ => 0)))] H := hP
  have hD : va_D A [(a0, .inr (2, [.int 0, .int 0, .int 0, .int 0, .int 0, .int 0, .int 0, .int 0, .int 0, .int 0, .int 0, .int 100, .int 8, .ref q1, .ref q3])), (q1, .inl (y 0, 32, .inl (fun _ => 0))), (q3, .inl (y 0, 33, .inl (fun _ => 0)))] := hD
  have hP : va_P D vwCl [(a0, soF q1 q3 iniR), (q1, soV y iniR), (q3, soW y iniR)] H := by rw [soV_ini, soW_ini]; exact hP
  have hD : va_D A [(a0, soF q1 q3 iniR), (q1, soV y iniR), (q3, soW y iniR)] := by rw [soV_ini, soW_ini]; exact hD
  refine W.widen (k := 2) (n := 65) (Nat.le_of_ble_eq_true rfl) (Nat.le_of_ble_eq_true rfl) ?_
  exact W.vret hx hb hr (fun t ht hW => ⟨⟨(q1, q3), rfl, trivial, by rw [ht]; exact hP, hD⟩, hS.F ht⟩) hS.2.2 dX3_init_32

theorem hd_X4_init : yX4_init.cls ≠ "java/lang/invoke/MethodHandle" ∧ yX4_init.cls ≠ "java/lang/invoke/VarHandle" ∧ (parseMethodDescriptor yX4_init.desc).map (fun d => d.parameters.length) = some 0 := by decide +kernel
set_option maxHeartbeats 4000000 in
set_option maxRecDepth 100000 in
theorem c_X4_init (l : Launch) (D : va_G) (y : Nat → ClassId) (a0 : Nat) (zh : Nat) : Met l yX4_init wsX4_init ({ frames := 1, cells := 1, slots := 120, locals := 12 }) (gP D y [.ref a0] zh [(a0, .inr (3, [.null, .int 0]))]) (va_Qv (fun _ : Nat => True) (fun (u : Nat) t => va_P D vwCl ([(a0, .inr (3, [.ref u, .int 0]))] ++ [(u, .inl (y 1, 120, .inl (fun _ => 0)))]) t.heap ∧ va_D (va_A [(a0, .inr (3, [.null, .int 0]))] zh) ([(a0, .inr (3, [.ref u, .int 0]))] ++ [(u, .inl (y 1, 120, .inl (fun _ => 0)))])) (va_A [(a0, .inr (3, [.null, .int 0]))] zh)) 1 120 (va_A [(a0, .inr (3, [.null, .int 0]))] zh) := by
  refine Met.ofW (cc := cX4_init) (maxL := 1) (ret := none) (by decide) rfl ?_
  intro p e s m args below meth c s₁ B hml hv
  obtain ⟨rfl, hsz, hP, hE, hD⟩ := hv
  have hx := B.exec
  have hb := B.bytes
  have hr := B.returns
  have hts := atoms_spec (ws := wsX4_init) B.pre
  have hown : s.vm.findClass RX4 = some m.cls := findClass_of_methodNamed B.named
  have hlocks := B.notSynchronized
  have hin : meth.name = "<init>" := (name_of_methodNamed B.named B.method).1
  have w_0 := hts (.methodLink RX4 3 objectInit) (List.mem_cons_of_mem _ (List.mem_append_left _ (List.mem_of_getElem? (i := 0) rfl)))
  have w_1 := hts (.instanceMethod objectInit) (List.mem_cons_of_mem _ (List.mem_append_left _ (List.mem_of_getElem? (i := 1) rfl)))
  have w_2 := hts (.code objectInit ⟨#[0xb1]⟩ 1 none) (List.mem_cons_of_mem _ (List.mem_append_left _ (List.mem_of_getElem? (i := 2) rfl)))
  have w_3 := hts (.arrayClass .char) (List.mem_cons_of_mem _ (List.mem_append_left _ (List.mem_of_getElem? (i := 3) rfl)))
  have w_4 := hts (.fieldLink RX4 11 "GapLines$Text" "signs" "[C") (List.mem_cons_of_mem _ (List.mem_append_left _ (List.mem_of_getElem? (i := 4) rfl)))
  have hi4 : ∀ w ∈ u_ws RX4 TX4 2, w ∈ wsX4_init := fun w h => (List.mem_cons_of_mem _ (List.mem_append_right _ h))
  subst hsz
  have hD := hD.self (sz := s.heap.size)
  generalize hAe : va_A [(a0, .inr (3, [.null, .int 0]))] s.heap.size = A at hD ⊢
  have hA : ∀ q : Nat, s.heap.size ≤ q → A q := fun q h => by rw [← hAe]; exact Or.inr h
  have hS : va_S A s.heap s.heap [] := va_S.rf
  have hl := lv_entry ([.ref a0]) (n := 1) (Nat.le_of_ble_eq_true rfl)
  rw [lg_entry_eq]
  generalize (lg_sl ([.ref a0]) ++ List.replicate (1 - (lg_sl ([.ref a0])).length) Slot.unset).toArray = ls at hl ⊢
  have hl : lv_has ls 1 [(0, .ref a0)] := hl
  have hF : (0 : Nat) = 0 := rfl
  refine lv_aload_n hx hb dX4_init_0 rfl (lv_at hl 0 rfl) ?_
  refine W.objInit hx hb hown w_0 w_1 w_2 rfl (by rw [hml]; exact hl.1) rfl dX4_init_1 (Nat.le_of_ble_eq_true rfl) (Nat.le_of_ble_eq_true rfl) ?_
  refine W.eq (g2 := F0 m 4 ls []) rfl ?_
  refine lv_aload_n hx hb dX4_init_4 rfl (lv_at hl 0 rfl) ?_
  refine lv_bipush (v := 120) hx hb dX4_init_5 (by decide) ?_
  refine va_newa (atype := .char) (ty := .char) (N' := 120) (a0 := (120, .inl (fun _ => 0))) hx hb w_3 rfl hE.1 hP hD hS hA (fun cA => rfl) (by decide) rfl (Nat.le_of_ble_eq_true rfl) (Nat.le_of_ble_eq_true rfl) (Nat.le_of_ble_eq_true rfl) dX4_init_7 (fun q1 cA2 H hK hP hD hS => ?_)
  obtain rfl : cA2 = y 1 := va_K_eq hK 4 1 rfl rfl
  have hP : va_P D vwCl [(a0, .inr (3, [.null, .int 0])), (q1, .inl (y 1, 120, .inl (fun _ => 0)))] H := hP
  have hD : va_D A [(a0, .inr (3, [.null, .int 0])), (q1, .inl (y 1, 120, .inl (fun _ => 0)))] := hD
  refine va_putF (D := D) (ci := 3) (v := .ref q1) (ty := tyX4 0) (C := RX4) (T := TX4) (N := 2) hx hb hts hi4 tyX4 tyX4_ok nmX4 hown hE.1 hP hD hS 0 rfl rfl 0 (by decide) w_4 (fun _ h9 => h9) rfl hin rfl (by decide +kernel) rfl rfl (Nat.le_of_ble_eq_true rfl) dX4_init_9 (fun H locs hP hD hS => ?_)
  have hP : va_P D vwCl [(a0, .inr (3, [.ref q1, .int 0])), (q1, .inl (y 1, 120, .inl (fun _ => 0)))] H := hP
  have hD : va_D A [(a0, .inr (3, [.ref q1, .int 0])), (q1, .inl (y 1, 120, .inl (fun _ => 0)))] := hD
  refine W.widen (k := 1) (n := 120) (Nat.le_of_ble_eq_true rfl) (Nat.le_of_ble_eq_true rfl) ?_
  exact W.vret hx hb hr (fun t ht hW => ⟨⟨q1, rfl, trivial, by rw [ht]; exact hP, hD⟩, hS.F ht⟩) hS.2.2 dX4_init_12

theorem hd_X0_init : yX0_init.cls ≠ "java/lang/invoke/MethodHandle" ∧ yX0_init.cls ≠ "java/lang/invoke/VarHandle" ∧ (parseMethodDescriptor yX0_init.desc).map (fun d => d.parameters.length) = some 0 := by decide +kernel
set_option maxHeartbeats 4000000 in
set_option maxRecDepth 100000 in
theorem c_X0_init (l : Launch) (D : va_G) (y : Nat → ClassId) (a0 : Nat) (zh : Nat) : Met l yX0_init wsX0_init ({ frames := 1, cells := 1, slots := 14, locals := 12 }) (gP D y [.ref a0] zh [(a0, .inr (0, [.null, .int 0, .int 0]))]) (va_Qv (fun _ : Nat => True) (fun (u : Nat) t => va_P D vwCl ([(a0, .inr (0, [.ref u, .int 0, .int 0]))] ++ [(u, .inl (y 3, 14, .inr (.inr (.inr (.inr (fun _ => none))))))]) t.heap ∧ va_D (va_A [(a0, .inr (0, [.null, .int 0, .int 0]))] zh) ([(a0, .inr (0, [.ref u, .int 0, .int 0]))] ++ [(u, .inl (y 3, 14, .inr (.inr (.inr (.inr (fun _ => none))))))])) (va_A [(a0, .inr (0, [.null, .int 0, .int 0]))] zh)) 1 14 (va_A [(a0, .inr (0, [.null, .int 0, .int 0]))] zh) := by
  refine Met.ofW (cc := cX0_init) (maxL := 1) (ret := none) (by decide) rfl ?_
  intro p e s m args below meth c s₁ B hml hv
  obtain ⟨rfl, hsz, hP, hE, hD⟩ := hv
  have hx := B.exec
  have hb := B.bytes
  have hr := B.returns
  have hts := atoms_spec (ws := wsX0_init) B.pre
  have hown : s.vm.findClass RX0 = some m.cls := findClass_of_methodNamed B.named
  have hlocks := B.notSynchronized
  have hin : meth.name = "<init>" := (name_of_methodNamed B.named B.method).1
  have w_0 := hts (.methodLink RX0 1 objectInit) (List.mem_cons_of_mem _ (List.mem_append_left _ (List.mem_of_getElem? (i := 0) rfl)))
  have w_1 := hts (.instanceMethod objectInit) (List.mem_cons_of_mem _ (List.mem_append_left _ (List.mem_of_getElem? (i := 1) rfl)))
  have w_2 := hts (.code objectInit ⟨#[0xb1]⟩ 1 none) (List.mem_cons_of_mem _ (List.mem_append_left _ (List.mem_of_getElem? (i := 2) rfl)))
  have w_3 := hts (.classLink RX0 9 RX3) (List.mem_cons_of_mem _ (List.mem_append_left _ (List.mem_of_getElem? (i := 3) rfl)))
  have w_4 := hts (.fieldLink RX0 11 "GapLines$History" "states" "[LGapLines$State;") (List.mem_cons_of_mem _ (List.mem_append_left _ (List.mem_of_getElem? (i := 4) rfl)))
  have hi0 : ∀ w ∈ u_ws RX0 TX0 3, w ∈ wsX0_init := fun w h => (List.mem_cons_of_mem _ (List.mem_append_right _ h))
  subst hsz
  have hD := hD.self (sz := s.heap.size)
  generalize hAe : va_A [(a0, .inr (0, [.null, .int 0, .int 0]))] s.heap.size = A at hD ⊢
  have hA : ∀ q : Nat, s.heap.size ≤ q → A q := fun q h => by rw [← hAe]; exact Or.inr h
  have hS : va_S A s.heap s.heap [] := va_S.rf
  have hl := lv_entry ([.ref a0]) (n := 1) (Nat.le_of_ble_eq_true rfl)
  rw [lg_entry_eq]
  generalize (lg_sl ([.ref a0]) ++ List.replicate (1 - (lg_sl ([.ref a0])).length) Slot.unset).toArray = ls at hl ⊢
  have hl : lv_has ls 1 [(0, .ref a0)] := hl
  have hF : (0 : Nat) = 0 := rfl
  refine lv_aload_n hx hb dX0_init_0 rfl (lv_at hl 0 rfl) ?_
  refine W.objInit hx hb hown w_0 w_1 w_2 rfl (by rw [hml]; exact hl.1) rfl dX0_init_1 (Nat.le_of_ble_eq_true rfl) (Nat.le_of_ble_eq_true rfl) ?_
  refine W.eq (g2 := F0 m 4 ls []) rfl ?_
  refine lv_aload_n hx hb dX0_init_4 rfl (lv_at hl 0 rfl) ?_
  refine lv_bipush (v := 14) hx hb dX0_init_5 (by decide) ?_
  refine va_newq (N' := 14) hx hb hown w_3 hE.2.2 hE.1 hP hD hS hA (by decide) rfl (Nat.le_of_ble_eq_true rfl) (Nat.le_of_ble_eq_true rfl) (Nat.le_of_ble_eq_true rfl) dX0_init_7 (fun q1 cA2 H hK hP hD hS => ?_)
  obtain rfl : cA2 = y 3 := va_K_eq hK 4 3 rfl rfl
  have hP : va_P D vwCl [(a0, .inr (0, [.null, .int 0, .int 0])), (q1, .inl (y 3, 14, .inr (.inr (.inr (.inr (fun _ => none))))))] H := hP
  have hD : va_D A [(a0, .inr (0, [.null, .int 0, .int 0])), (q1, .inl (y 3, 14, .inr (.inr (.inr (.inr (fun _ => none))))))] := hD
  refine va_putF (D := D) (ci := 0) (v := .ref q1) (ty := tyX0 0) (C := RX0) (T := TX0) (N := 3) hx hb hts hi0 tyX0 tyX0_ok nmX0 hown hE.1 hP hD hS 0 rfl rfl 0 (by decide) w_4 (fun _ h9 => h9) rfl hin rfl (by decide +kernel) rfl rfl (Nat.le_of_ble_eq_true rfl) dX0_init_10 (fun H locs hP hD hS => ?_)
  have hP : va_P D vwCl [(a0, .inr (0, [.ref q1, .int 0, .int 0])), (q1, .inl (y 3, 14, .inr (.inr (.inr (.inr (fun _ => none))))))] H := hP
  have hD : va_D A [(a0, .inr (0, [.ref q1, .int 0, .int 0])), (q1, .inl (y 3, 14, .inr (.inr (.inr (.inr (fun _ => none))))))] := hD
  refine W.widen (k := 1) (n := 14) (Nat.le_of_ble_eq_true rfl) (Nat.le_of_ble_eq_true rfl) ?_
  exact W.vret hx hb hr (fun t ht hW => ⟨⟨q1, rfl, trivial, by rw [ht]; exact hP, hD⟩, hS.F ht⟩) hS.2.2 dX0_init_13

theorem hd_X2_init : yX2_init.cls ≠ "java/lang/invoke/MethodHandle" ∧ yX2_init.cls ≠ "java/lang/invoke/VarHandle" ∧ (parseMethodDescriptor yX2_init.desc).map (fun d => d.parameters.length) = some 0 := by decide +kernel
set_option maxHeartbeats 4000000 in
set_option maxRecDepth 100000 in
theorem c_X2_init (l : Launch) (D : va_G) (y : Nat → ClassId) (a0 : Nat) (zh : Nat) : Met l yX2_init wsX2_init ({ frames := 1, cells := 2, slots := 4, locals := 12 }) (gP D y [.ref a0] zh [(a0, .inr (1, [.null, .null]))]) (va_Qv (fun _ : Nat × Nat => True) (fun (u : Nat × Nat) t => va_P D vwCl ([(a0, .inr (1, [.ref u.1, .ref u.2]))] ++ [(u.1, .inl (y 3, 2, .inr (.inr (.inr (.inr (fun _ => none)))))), (u.2, .inl (y 2, 2, .inl (fun _ => 0)))]) t.heap ∧ va_D (va_A [(a0, .inr (1, [.null, .null]))] zh) ([(a0, .inr (1, [.ref u.1, .ref u.2]))] ++ [(u.1, .inl (y 3, 2, .inr (.inr (.inr (.inr (fun _ => none)))))), (u.2, .inl (y 2, 2, .inl (fun _ => 0)))])) (va_A [(a0, .inr (1, [.null, .null]))] zh)) 2 4 (va_A [(a0, .inr (1, [.null, .null]))] zh) := by
  refine Met.ofW (cc := cX2_init) (maxL := 1) (ret := none) (by decide) rfl ?_
  intro p e s m args below meth c s₁ B hml hv
  obtain ⟨rfl, hsz, hP, hE, hD⟩ := hv
  have hx := B.exec
  have hb := B.bytes
  have hr := B.returns
  have hts := atoms_spec (ws := wsX2_init) B.pre
  have hown : s.vm.findClass RX2 = some m.cls := findClass_of_methodNamed B.named
  have hlocks := B.notSynchronized
  have hin : meth.name = "<init>" := (name_of_methodNamed B.named B.method).1
  have w_0 := hts (.methodLink RX2 1 objectInit) (List.mem_cons_of_mem _ (List.mem_append_left _ (List.mem_of_getElem? (i := 0) rfl)))
  have w_1 := hts (.instanceMethod objectInit) (List.mem_cons_of_mem _ (List.mem_append_left _ (List.mem_of_getElem? (i := 1) rfl)))
  have w_2 := hts (.code objectInit ⟨#[0xb1]⟩ 1 none) (List.mem_cons_of_mem _ (List.mem_append_left _ (List.mem_of_getElem? (i := 2) rfl)))
  have w_3 := hts (.classLink RX2 9 RX3) (List.mem_cons_of_mem _ (List.mem_append_left _ (List.mem_of_getElem? (i := 3) rfl)))
  have w_4 := hts (.fieldLink RX2 11 "GapLines$Slots" "states" "[LGapLines$State;") (List.mem_cons_of_mem _ (List.mem_append_left _ (List.mem_of_getElem? (i := 4) rfl)))
  have hi2 : ∀ w ∈ u_ws RX2 TX2 2, w ∈ wsX2_init := fun w h => (List.mem_cons_of_mem _ (List.mem_append_right _ h))
  have w_6 := hts (.arrayClass .boolean) (List.mem_cons_of_mem _ (List.mem_append_left _ (List.mem_of_getElem? (i := 5) rfl)))
  have w_7 := hts (.fieldLink RX2 15 "GapLines$Slots" "filled" "[Z") (List.mem_cons_of_mem _ (List.mem_append_left _ (List.mem_of_getElem? (i := 6) rfl)))
  subst hsz
  have hD := hD.self (sz := s.heap.size)
  generalize hAe : va_A [(a0, .inr (1, [.null, .null]))] s.heap.size = A at hD ⊢
  have hA : ∀ q : Nat, s.heap.size ≤ q → A q := fun q h => by rw [← hAe]; exact Or.inr h
  have hS : va_S A s.heap s.heap [] := va_S.rf
  have hl := lv_entry ([.ref a0]) (n := 1) (Nat.le_of_ble_eq_true rfl)
  rw [lg_entry_eq]
  generalize (lg_sl ([.ref a0]) ++ List.replicate (1 - (lg_sl ([.ref a0])).length) Slot.unset).toArray = ls at hl ⊢
  have hl : lv_has ls 1 [(0, .ref a0)] := hl
  have hF : (0 : Nat) = 0 := rfl
  refine lv_aload_n hx hb dX2_init_0 rfl (lv_at hl 0 rfl) ?_
  refine W.objInit hx hb hown w_0 w_1 w_2 rfl (by rw [hml]; exact hl.1) rfl dX2_init_1 (Nat.le_of_ble_eq_true rfl) (Nat.le_of_ble_eq_true rfl) ?_
  refine W.eq (g2 := F0 m 4 ls []) rfl ?_
  refine lv_aload_n hx hb dX2_init_4 rfl (lv_at hl 0 rfl) ?_
  refine lv_iconst (v := 2) hx hb dX2_init_5 (by decide) ?_
  refine va_newq (N' := 2) hx hb hown w_3 hE.2.2 hE.1 hP hD hS hA (by decide) rfl (Nat.le_of_ble_eq_true rfl) (Nat.le_of_ble_eq_true rfl) (Nat.le_of_ble_eq_true rfl) dX2_init_6 (fun q1 cA2 H hK hP hD hS => ?_)
  obtain rfl : cA2 = y 3 := va_K_eq hK 4 3 rfl rfl
  have hP : va_P D vwCl [(a0, .inr (1, [.null, .null])), (q1, .inl (y 3, 2, .inr (.inr (.inr (.inr (fun _ => none))))))] H := hP
  have hD : va_D A [(a0, .inr (1, [.null, .null])), (q1, .inl (y 3, 2, .inr (.inr (.inr (.inr (fun _ => none))))))] := hD
  refine va_putF (D := D) (ci := 1) (v := .ref q1) (ty := tyX2 0) (C := RX2) (T := TX2) (N := 2) hx hb hts hi2 tyX2 tyX2_ok nmX2 hown hE.1 hP hD hS 0 rfl rfl 0 (by decide) w_4 (fun _ h9 => h9) rfl hin rfl (by decide +kernel) rfl rfl (Nat.le_of_ble_eq_true rfl) dX2_init_9 (fun H locs hP hD hS => ?_)
  have hP : va_P D vwCl [(a0, .inr (1, [.ref q1, .null])), (q1, .inl (y 3, 2, .inr (.inr (.inr (.inr (fun _ => none))))))] H := hP
  have hD : va_D A [(a0, .inr (1, [.ref q1, .null])), (q1, .inl (y 3, 2, .inr (.inr (.inr (.inr (fun _ => none))))))] := hD
  refine lv_aload_n hx hb dX2_init_12 rfl (lv_at hl 0 rfl) ?_
  refine lv_iconst (v := 2) hx hb dX2_init_13 (by decide) ?_
  refine va_newa (atype := .boolean) (ty := .boolean) (N' := 2) (a0 := (2, .inl (fun _ => 0))) hx hb w_6 rfl hE.1 hP hD hS hA (fun cA => rfl) (by decide) rfl (Nat.le_of_ble_eq_true rfl) (Nat.le_of_ble_eq_true rfl) (Nat.le_of_ble_eq_true rfl) dX2_init_14 (fun q3 cA4 H hK hP hD hS => ?_)
  obtain rfl : cA4 = y 2 := va_K_eq hK 4 2 rfl rfl
  have hP : va_P D vwCl [(a0, .inr (1, [.ref q1, .null])), (q1, .inl (y 3, 2, .inr (.inr (.inr (.inr (fun _ => none)))))), (q3, .inl (y 2, 2, .inl (fun _ => 0)))] H := hP
  have hD : va_D A [(a0, .inr (1, [.ref q1, .null])), (q1, .inl (y 3, 2, .inr (.inr (.inr (.inr (fun _ => none)))))), (q3, .inl (y 2, 2, .inl (fun _ => 0)))] := hD
  refine va_putF (D := D) (ci := 1) (v := .ref q3) (ty := tyX2 1) (C := RX2) (T := TX2) (N := 2) hx hb hts hi2 tyX2 tyX2_ok nmX2 hown hE.1 hP hD hS 0 rfl rfl 1 (by decide) w_7 (fun _ h9 => h9) rfl hin rfl (by decide +kernel) rfl rfl (Nat.le_of_ble_eq_true rfl) dX2_init_16 (fun H locs hP hD hS => ?_)
  have hP : va_P D vwCl [(a0, .inr (1, [.ref q1, .ref q3])), (q1, .inl (y 3, 2, .inr (.inr (.inr (.inr (fun _ => none)))))), (q3, .inl (y 2, 2, .inl (fun _ => 0)))] H := hP
  have hD : va_D A [(a0, .inr (1, [.ref q1, .ref q3])), (q1, .inl (y 3, 2, .inr (.inr (.inr (.inr (fun _ => none)))))), (q3, .inl (y 2, 2, .inl (fun _ => 0)))] := hD
  refine W.widen (k := 2) (n := 4) (Nat.le_of_ble_eq_true rfl) (Nat.le_of_ble_eq_true rfl) ?_
  exact W.vret hx hb hr (fun t ht hW => ⟨⟨(q1, q3), rfl, trivial, by rw [ht]; exact hP, hD⟩, hS.F ht⟩) hS.2.2 dX2_init_19

theorem hd_X5_init : yX5_init.cls ≠ "java/lang/invoke/MethodHandle" ∧ yX5_init.cls ≠ "java/lang/invoke/VarHandle" ∧ (parseMethodDescriptor yX5_init.desc).map (fun d => d.parameters.length) = some 0 := by decide +kernel
set_option maxHeartbeats 4000000 in
set_option maxRecDepth 100000 in
theorem c_X5_init (l : Launch) (D : va_G) (y : Nat → ClassId) (a0 : Nat) (zh : Nat) : Met l yX5_init wsX5_init ({ frames := 2, cells := 13, slots := 305, locals := 32 }) (gP D y [.ref a0] zh [(a0, .inr (4, [.null, .null, .null, .null, .null]))]) (va_Qv (fun _ : Nat → Nat => True) (fun (u : Nat → Nat) t => va_P D vwCl ([(a0, .inr (4, [.ref (u 0), .ref (u 2), .ref (u 5), .ref (u 8), .ref (u 10)]))] ++ [((u 0), .inr (3, [.ref (u 1), .int 0])), ((u 1), .inl (y 1, 120, .inl (fun _ => 0))), ((u 2), soF (u 3) (u 4) iniR), ((u 3), soV y iniR), ((u 4), soW y iniR), ((u 5), soF (u 6) (u 7) iniR), ((u 6), soV y iniR), ((u 7), soW y iniR), ((u 8), .inr (0, [.ref (u 9), .int 0, .int 0])), ((u 9), .inl (y 3, 14, .inr (.inr (.inr (.inr (fun _ => none)))))), ((u 10), .inr (1, [.ref (u 11), .ref (u 12)])), ((u 11), .inl (y 3, 2, .inr (.inr (.inr (.inr (fun _ => none)))))), ((u 12), .inl (y 2, 2, .inl (fun _ => 0)))]) t.heap ∧ va_D (va_A [(a0, .inr (4, [.null, .null, .null, .null, .null]))] zh) ([(a0, .inr (4, [.ref (u 0), .ref (u 2), .ref (u 5), .ref (u 8), .ref (u 10)]))] ++ [((u 0), .inr (3, [.ref (u 1), .int 0])), ((u 1), .inl (y 1, 120, .inl (fun _ => 0))), ((u 2), soF (u 3) (u 4) iniR), ((u 3), soV y iniR), ((u 4), soW y iniR), ((u 5), soF (u 6) (u 7) iniR), ((u 6), soV y iniR), ((u 7), soW y iniR), ((u 8), .inr (0, [.ref (u 9), .int 0, .int 0])), ((u 9), .inl (y 3, 14, .inr (.inr (.inr (.inr (fun _ => none)))))), ((u 10), .inr (1, [.ref (u 11), .ref (u 12)])), ((u 11), .inl (y 3, 2, .inr (.inr (.inr (.inr (fun _ => none)))))), ((u 12), .inl (y 2, 2, .inl (fun _ => 0)))])) (va_A [(a0, .inr (4, [.null, .null, .null, .null, .null]))] zh)) 13 305 (va_A [(a0, .inr (4, [.null, .null, .null, .null, .null]))] zh) := by
  refine Met.ofW (cc := cX5_init) (maxL := 1) (ret := none) (by decide) rfl ?_
  intro p e s m args below meth c s₁ B hml hv
  obtain ⟨rfl, hsz, hP, hE, hD⟩ := hv
  have hx := B.exec
  have hb := B.bytes
  have hr := B.returns
  have hts := atoms_spec (ws := wsX5_init) B.pre
  have hown : s.vm.findClass RX5 = some m.cls := findClass_of_methodNamed B.named
  have hlocks := B.notSynchronized
  have hin : meth.name = "<init>" := (name_of_methodNamed B.named B.method).1
  have w_0 := hts (.methodLink RX5 1 objectInit) (List.mem_cons_of_mem _ (List.mem_append_left _ (List.mem_append_left _ (List.mem_append_left _ (List.mem_append_left _ (List.mem_append_left _ (List.mem_append_left _ (List.mem_of_getElem? (i := 0) rfl))))))))
  have w_1 := hts (.instanceMethod objectInit) (List.mem_cons_of_mem _ (List.mem_append_left _ (List.mem_append_left _ (List.mem_append_left _ (List.mem_append_left _ (List.mem_append_left _ (List.mem_append_left _ (List.mem_of_getElem? (i := 1) rfl))))))))
  have w_2 := hts (.code objectInit ⟨#[0xb1]⟩ 1 none) (List.mem_cons_of_mem _ (List.mem_append_left _ (List.mem_append_left _ (List.mem_append_left _ (List.mem_append_left _ (List.mem_append_left _ (List.mem_append_left _ (List.mem_of_getElem? (i := 2) rfl))))))))
  have hi4 : ∀ w ∈ u_ws RX4 TX4 2, w ∈ wsX5_init := fun w h => (List.mem_cons_of_mem _ (List.mem_append_left _ (List.mem_append_left _ (List.mem_append_left _ (List.mem_append_left _ (List.mem_append_right _ h))))))
  have w_4 := hts (.classLink RX5 7 RX4) (List.mem_cons_of_mem _ (List.mem_append_left _ (List.mem_append_left _ (List.mem_append_left _ (List.mem_append_left _ (List.mem_append_left _ (List.mem_append_left _ (List.mem_of_getElem? (i := 3) rfl))))))))
  have w_5 := hts (.instantiable RX4 2) (List.mem_cons_of_mem _ (List.mem_append_left _ (List.mem_append_left _ (List.mem_append_left _ (List.mem_append_left _ (List.mem_append_left _ (List.mem_append_left _ (List.mem_of_getElem? (i := 4) rfl))))))))
  have w_6 := hts (.initialized RX4) (List.mem_cons_of_mem _ (List.mem_append_left _ (List.mem_append_left _ (List.mem_append_left _ (List.mem_append_left _ (List.mem_append_left _ (List.mem_append_left _ (List.mem_of_getElem? (i := 5) rfl))))))))
  have w_7 := hts (.instanceMethod yX4_init) (List.mem_cons_of_mem _ (List.mem_append_left _ (List.mem_append_left _ (List.mem_append_left _ (List.mem_append_left _ (List.mem_append_left _ (List.mem_append_left _ (List.mem_of_getElem? (i := 20) rfl))))))))
  have w_8 := hts (.fieldLink RX5 10 "GapLines" "text" "LGapLines$Text;") (List.mem_cons_of_mem _ (List.mem_append_left _ (List.mem_append_left _ (List.mem_append_left _ (List.mem_append_left _ (List.mem_append_left _ (List.mem_append_left _ (List.mem_of_getElem? (i := 6) rfl))))))))
  have hi5 : ∀ w ∈ u_ws RX5 TX5 5, w ∈ wsX5_init := fun w h => (List.mem_cons_of_mem _ (List.mem_append_left _ (List.mem_append_left _ (List.mem_append_left _ (List.mem_append_right _ h)))))
  have hi3 : ∀ w ∈ u_ws RX3 TX3 15, w ∈ wsX5_init := fun w h => (List.mem_cons_of_mem _ (List.mem_append_left _ (List.mem_append_left _ (List.mem_append_right _ h))))
  have w_11 := hts (.classLink RX5 16 RX3) (List.mem_cons_of_mem _ (List.mem_append_left _ (List.mem_append_left _ (List.mem_append_left _ (List.mem_append_left _ (List.mem_append_left _ (List.mem_append_left _ (List.mem_of_getElem? (i := 7) rfl))))))))
  have w_12 := hts (.instantiable RX3 15) (List.mem_cons_of_mem _ (List.mem_append_left _ (List.mem_append_left _ (List.mem_append_left _ (List.mem_append_left _ (List.mem_append_left _ (List.mem_append_left _ (List.mem_of_getElem? (i := 8) rfl))))))))
  have w_13 := hts (.initialized RX3) (List.mem_cons_of_mem _ (List.mem_append_left _ (List.mem_append_left _ (List.mem_append_left _ (List.mem_append_left _ (List.mem_append_left _ (List.mem_append_left _ (List.mem_of_getElem? (i := 9) rfl))))))))
  have w_14 := hts (.instanceMethod yX3_init) (List.mem_cons_of_mem _ (List.mem_append_left _ (List.mem_append_left _ (List.mem_append_left _ (List.mem_append_left _ (List.mem_append_left _ (List.mem_append_right _ (List.mem_of_getElem? (i := 1) rfl))))))))
  have w_15 := hts (.fieldLink RX5 19 "GapLines" "state" "LGapLines$State;") (List.mem_cons_of_mem _ (List.mem_append_left _ (List.mem_append_left _ (List.mem_append_left _ (List.mem_append_left _ (List.mem_append_left _ (List.mem_append_left _ (List.mem_of_getElem? (i := 10) rfl))))))))
  have w_16 := hts (.fieldLink RX5 23 "GapLines" "copy" "LGapLines$State;") (List.mem_cons_of_mem _ (List.mem_append_left _ (List.mem_append_left _ (List.mem_append_left _ (List.mem_append_left _ (List.mem_append_left _ (List.mem_append_left _ (List.mem_of_getElem? (i := 11) rfl))))))))
  have hi0 : ∀ w ∈ u_ws RX0 TX0 3, w ∈ wsX5_init := fun w h => (List.mem_cons_of_mem _ (List.mem_append_left _ (List.mem_append_right _ h)))
  have w_18 := hts (.classLink RX5 26 RX0) (List.mem_cons_of_mem _ (List.mem_append_left _ (List.mem_append_left _ (List.mem_append_left _ (List.mem_append_left _ (List.mem_append_left _ (List.mem_append_left _ (List.mem_of_getElem? (i := 12) rfl))))))))
  have w_19 := hts (.instantiable RX0 3) (List.mem_cons_of_mem _ (List.mem_append_left _ (List.mem_append_left _ (List.mem_append_left _ (List.mem_append_left _ (List.mem_append_left _ (List.mem_append_left _ (List.mem_of_getElem? (i := 13) rfl))))))))
  have w_20 := hts (.initialized RX0) (List.mem_cons_of_mem _ (List.mem_append_left _ (List.mem_append_left _ (List.mem_append_left _ (List.mem_append_left _ (List.mem_append_left _ (List.mem_append_left _ (List.mem_of_getElem? (i := 14) rfl))))))))
  have w_21 := hts (.instanceMethod yX0_init) (List.mem_cons_of_mem _ (List.mem_append_left _ (List.mem_append_left _ (List.mem_append_left _ (List.mem_append_left _ (List.mem_append_left _ (List.mem_append_right _ (List.mem_of_getElem? (i := 9) rfl))))))))
  have w_22 := hts (.fieldLink RX5 29 "GapLines" "history" "LGapLines$History;") (List.mem_cons_of_mem _ (List.mem_append_left _ (List.mem_append_left _ (List.mem_append_left _ (List.mem_append_left _ (List.mem_append_left _ (List.mem_append_left _ (List.mem_of_getElem? (i := 15) rfl))))))))
  have hi2 : ∀ w ∈ u_ws RX2 TX2 2, w ∈ wsX5_init := fun w h => (List.mem_cons_of_mem _ (List.mem_append_right _ h))
  have w_24 := hts (.classLink RX5 33 RX2) (List.mem_cons_of_mem _ (List.mem_append_left _ (List.mem_append_left _ (List.mem_append_left _ (List.mem_append_left _ (List.mem_append_left _ (List.mem_append_left _ (List.mem_of_getElem? (i := 16) rfl))))))))
  have w_25 := hts (.instantiable RX2 2) (List.mem_cons_of_mem _ (List.mem_append_left _ (List.mem_append_left _ (List.mem_append_left _ (List.mem_append_left _ (List.mem_append_left _ (List.mem_append_left _ (List.mem_of_getElem? (i := 17) rfl))))))))
  have w_26 := hts (.initialized RX2) (List.mem_cons_of_mem _ (List.mem_append_left _ (List.mem_append_left _ (List.mem_append_left _ (List.mem_append_left _ (List.mem_append_left _ (List.mem_append_left _ (List.mem_of_getElem? (i := 18) rfl))))))))
  have w_27 := hts (.instanceMethod yX2_init) (List.mem_cons_of_mem _ (List.mem_append_left _ (List.mem_append_left _ (List.mem_append_left _ (List.mem_append_left _ (List.mem_append_left _ (List.mem_append_right _ (List.mem_of_getElem? (i := 14) rfl))))))))
  have w_28 := hts (.fieldLink RX5 36 "GapLines" "slots" "LGapLines$Slots;") (List.mem_cons_of_mem _ (List.mem_append_left _ (List.mem_append_left _ (List.mem_append_left _ (List.mem_append_left _ (List.mem_append_left _ (List.mem_append_left _ (List.mem_of_getElem? (i := 19) rfl))))))))
  subst hsz
  have hD := hD.self (sz := s.heap.size)
  generalize hAe : va_A [(a0, .inr (4, [.null, .null, .null, .null, .null]))] s.heap.size = A at hD ⊢
  have hA : ∀ q : Nat, s.heap.size ≤ q → A q := fun q h => by rw [← hAe]; exact Or.inr h
  have hS : va_S A s.heap s.heap [] := va_S.rf
  have hl := lv_entry ([.ref a0]) (n := 1) (Nat.le_of_ble_eq_true rfl)
  rw [lg_entry_eq]
  generalize (lg_sl ([.ref a0]) ++ List.replicate (1 - (lg_sl ([.ref a0])).length) Slot.unset).toArray = ls at hl ⊢
  have hl : lv_has ls 1 [(0, .ref a0)] := hl
  have hF : (0 : Nat) = 0 := rfl
  refine lv_aload_n hx hb dX5_init_0 rfl (lv_at hl 0 rfl) ?_
  refine W.objInit hx hb hown w_0 w_1 w_2 rfl (by rw [hml]; exact hl.1) rfl dX5_init_1 (Nat.le_of_ble_eq_true rfl) (Nat.le_of_ble_eq_true rfl) ?_
  refine W.eq (g2 := F0 m 4 ls []) rfl ?_
  refine lv_aload_n hx hb dX5_init_4 rfl (lv_at hl 0 rfl) ?_
  refine va_new (ci := 3) (fs := [.null, .int 0]) (C := RX4) (T := TX4) (N := 2) hx hb hts hi4 tyX4 tyX4_ok hown w_4 w_5 w_6 hE.1 hP hD hS hA rfl (fun j hj => by rcases (show j = 0 ∨ j = 1 by omega) with rfl | rfl <;> rfl) (Nat.le_of_ble_eq_true rfl) (Nat.le_of_ble_eq_true rfl) dX5_init_5 (fun q1 H hP hD hS => ?_)
  have hP : va_P D vwCl [(a0, .inr (4, [.null, .null, .null, .null, .null])), (q1, .inr (3, [.null, .int 0]))] H := hP
  have hD : va_D A [(a0, .inr (4, [.null, .null, .null, .null, .null])), (q1, .inr (3, [.null, .int 0]))] := hD
  refine lv_dup hx hb dX5_init_8 rfl ?_
  refine xw_new (w1a := fun (u : Nat) => [(q1, .inr (3, [.ref u, .int 0]))]) (w1b := fun (u : Nat) => [(u, .inl (y 1, 120, .inl (fun _ => 0)))]) (va_runIN (As := []) (rest := [.ref q1, .ref a0]) ⟨hx, hb, hml, hown, hts⟩ (c_X4_init l D y q1 H.size) ⟨va_cnB 0 hts gX5_init_X4_init_n9 rfl rfl rfl (hE.2.1 _ (List.mem_of_getElem? (i := 0) rfl)) w_6 hd_X4_init ⟨Nat.le_of_ble_eq_true rfl, Nat.le_of_ble_eq_true rfl⟩, rfl, w_7⟩ (gS (As := [.ref q1]) hE (hP.sub [1] rfl) (hD.sub [1] (by decide) rfl)) rfl rfl hl.1 rfl (lv_room (Nat.le_of_ble_eq_true rfl)) dX5_init_9 ⟨Nat.le_of_ble_eq_true rfl, Nat.le_of_ble_eq_true rfl⟩) hP hD hS hA [1] rfl (by decide) (fun _ => rfl) (fun u2 H locs h3 hP hD hS => ?_)
  have hP : va_P D vwCl [(a0, .inr (4, [.null, .null, .null, .null, .null])), (q1, .inr (3, [.ref u2, .int 0])), (u2, .inl (y 1, 120, .inl (fun _ => 0)))] H := hP
  have hD : va_D A [(a0, .inr (4, [.null, .null, .null, .null, .null])), (q1, .inr (3, [.ref u2, .int 0])), (u2, .inl (y 1, 120, .inl (fun _ => 0)))] := hD
  refine va_putF (D := D) (ci := 4) (v := .ref q1) (ty := tyX5 0) (C := RX5) (T := TX5) (N := 5) hx hb hts hi5 tyX5 tyX5_ok nmX5 hown hE.1 hP hD hS 0 rfl rfl 0 (by decide) w_8 (fun _ h9 => h9) rfl hin rfl (by decide +kernel) rfl rfl (Nat.le_of_ble_eq_true rfl) dX5_init_12 (fun H locs hP hD hS => ?_)
  have hP : va_P D vwCl [(a0, .inr (4, [.ref q1, .null, .null, .null, .null])), (q1, .inr (3, [.ref u2, .int 0])), (u2, .inl (y 1, 120, .inl (fun _ => 0)))] H := hP
  have hD : va_D A [(a0, .inr (4, [.ref q1, .null, .null, .null, .null])), (q1, .inr (3, [.ref u2, .int 0])), (u2, .inl (y 1, 120, .inl (fun _ => 0)))] := hD
  refine lv_aload_n hx hb dX5_init_15 rfl (lv_at hl 0 rfl) ?_
  refine va_new (ci := 2) (fs := [.int 0, .int 0, .int 0, .int 0, .int 0, .int 0, .int 0, .int 0, .int 0, .int 0, .int 0, .int 0, .int 0, .null, .null]) (C := RX3) (T := TX3) (N := 15) hx hb hts hi3 tyX3 tyX3_ok hown w_11 w_12 w_13 hE.1 hP hD hS hA rfl (fun j hj => by rcases (show j = 0 ∨ j = 1 ∨ j = 2 ∨ j = 3 ∨ j = 4 ∨ j = 5 ∨ j = 6 ∨ j = 7 ∨ j = 8 ∨ j = 9 ∨ j = 10 ∨ j = 11 ∨ j = 12 ∨ j = 13 ∨ j = 14 by omega) with rfl | rfl | rfl | rfl | rfl | rfl | rfl | rfl | rfl | rfl | rfl | rfl | rfl | rfl | rfl <;> rfl) (Nat.le_of_ble_eq_true rfl) (Nat.le_of_ble_eq_true rfl) dX5_init_16 (fun q4 H hP hD hS => ?_)
  have hP : va_P D vwCl [(a0, .inr (4, [.ref q1, .null, .null, .null, .null])), (q1, .inr (3, [.ref u2, .int 0])), (u2, .inl (y 1, 120, .inl (fun _ => 0))), (q4, .inr (2, [.int 0, .int 0, .int 0, .int 0, .int 0, .int 0, .int 0, .int 0, .int 0, .int 0, .int 0, .int 0, .int 0, .null, .null]))] H := hP
  have hD : va_D A [(a0, .inr (4, [.ref q1, .null, .null, .null, .null])), (q1, .inr (3, [.ref u2, .int 0])), (u2, .inl (y 1, 120, .inl (fun _ => 0))), (q4, .inr (2, [.int 0, .int 0, .int 0, .int 0, .int 0, .int 0, .int 0, .int 0, .int 0, .int 0, .int 0, .int 0, .int 0, .null, .null]))] := hD
  refine lv_dup hx hb dX5_init_19 rfl ?_
  refine xw_new (w1a := fun (u : Nat × Nat) => [(q4, soF u.1 u.2 iniR)]) (w1b := fun (u : Nat × Nat) => [(u.1, soV y iniR), (u.2, soW y iniR)]) (va_runIN (As := []) (rest := [.ref q4, .ref a0]) ⟨hx, hb, hml, hown, hts⟩ (c_X3_init l D y q4 H.size) ⟨va_cnB 0 hts gX5_init_X3_init_n18 rfl rfl rfl (hE.2.1 _ (List.mem_of_getElem? (i := 1) rfl)) w_13 hd_X3_init ⟨Nat.le_of_ble_eq_true rfl, Nat.le_of_ble_eq_true rfl⟩, rfl, w_14⟩ (gS (As := [.ref q4]) hE (hP.sub [3] rfl) (hD.sub [3] (by decide) rfl)) rfl rfl hl.1 rfl (lv_room (Nat.le_of_ble_eq_true rfl)) dX5_init_20 ⟨Nat.le_of_ble_eq_true rfl, Nat.le_of_ble_eq_true rfl⟩) hP hD hS hA [3] rfl (by decide) (fun _ => rfl) (fun u5 H locs h6 hP hD hS => ?_)
  have hP : va_P D vwCl [(a0, .inr (4, [.ref q1, .null, .null, .null, .null])), (q1, .inr (3, [.ref u2, .int 0])), (u2, .inl (y 1, 120, .inl (fun _ => 0))), (q4, soF u5.1 u5.2 iniR), (u5.1, soV y iniR), (u5.2, soW y iniR)] H := hP
  have hD : va_D A [(a0, .inr (4, [.ref q1, .null, .null, .null, .null])), (q1, .inr (3, [.ref u2, .int 0])), (u2, .inl (y 1, 120, .inl (fun _ => 0))), (q4, soF u5.1 u5.2 iniR), (u5.1, soV y iniR), (u5.2, soW y iniR)] := hD
  refine va_putF (D := D) (ci := 4) (v := .ref q4) (ty := tyX5 1) (C := RX5) (T := TX5) (N := 5) hx hb hts hi5 tyX5 tyX5_ok nmX5 hown hE.1 hP hD hS 0 rfl rfl 1 (by decide) w_15 (fun _ h9 => h9) rfl hin rfl (by decide +kernel) rfl rfl (Nat.le_of_ble_eq_true rfl) dX5_init_23 (fun H locs hP hD hS => ?_)
  have hP : va_P D vwCl [(a0, .inr (4, [.ref q1, .ref q4, .null, .null, .null])), (q1, .inr (3, [.ref u2, .int 0])), (u2, .inl (y 1, 120, .inl (fun _ => 0))), (q4, soF u5.1 u5.2 iniR), (u5.1, soV y iniR), (u5.2, soW y iniR)] H := hP
  have hD : va_D A [(a0, .inr (4, [.ref q1, .ref q4, .null, .null, .null])), (q1, .inr (3, [.ref u2, .int 0])), (u2, .inl (y 1, 120, .inl (fun _ => 0))), (q4, soF u5.1 u5.2 iniR), (u5.1, soV y iniR), (u5.2, soW y iniR)] := hD
  refine lv_aload_n hx hb dX5_init_26 rfl (lv_at hl 0 rfl) ?_
  refine va_new (ci := 2) (fs := [.int 0, .int 0, .int 0, .int 0, .int 0, .int 0, .int 0, .int 0, .int 0, .int 0, .int 0, .int 0, .int 0, .null, .null]) (C := RX3) (T := TX3) (N := 15) hx hb hts hi3 tyX3 tyX3_ok hown w_11 w_12 w_13 hE.1 hP hD hS hA rfl (fun j hj => by rcases (show j = 0 ∨ j = 1 ∨ j = 2 ∨ j = 3 ∨ j = 4 ∨ j = 5 ∨ j = 6 ∨ j = 7 ∨ j = 8 ∨ j = 9 ∨ j = 10 ∨ j = 11 ∨ j = 12 ∨ j = 13 ∨ j = 14 by omega) with rfl | rfl | rfl | rfl | rfl | rfl | rfl | rfl | rfl | rfl | rfl | rfl | rfl | rfl | rfl <;> rfl) (Nat.le_of_ble_eq_true rfl) (Nat.le_of_ble_eq_true rfl) dX5_init_27 (fun q7 H hP hD hS => ?_)
  have hP : va_P D vwCl [(a0, .inr (4, [.ref q1, .ref q4, .null, .null, .null])), (q1, .inr (3, [.ref u2, .int 0])), (u2, .inl (y 1, 120, .inl (fun _ => 0))), (q4, soF u5.1 u5.2 iniR), (u5.1, soV y iniR), (u5.2, soW y iniR), (q7, .inr (2, [.int 0, .int 0, .int 0, .int 0, .int 0, .int 0, .int 0, .int 0, .int 0, .int 0, .int 0, .int 0, .int 0, .null, .null]))] H := hP
  have hD : va_D A [(a0, .inr (4, [.ref q1, .ref q4, .null, .null, .null])), (q1, .inr (3, [.ref u2, .int 0])), (u2, .inl (y 1, 120, .inl (fun _ => 0))), (q4, soF u5.1 u5.2 iniR), (u5.1, soV y iniR), (u5.2, soW y iniR), (q7, .inr (2, [.int 0, .int 0, .int 0, .int 0, .int 0, .int 0, .int 0, .int 0, .int 0, .int 0, .int 0, .int 0, .int 0, .null, .null]))] := hD
  refine lv_dup hx hb dX5_init_30 rfl ?_
  refine xw_new (w1a := fun (u : Nat × Nat) => [(q7, soF u.1 u.2 iniR)]) (w1b := fun (u : Nat × Nat) => [(u.1, soV y iniR), (u.2, soW y iniR)]) (va_runIN (As := []) (rest := [.ref q7, .ref a0]) ⟨hx, hb, hml, hown, hts⟩ (c_X3_init l D y q7 H.size) ⟨va_cnB 0 hts gX5_init_X3_init_n18 rfl rfl rfl (hE.2.1 _ (List.mem_of_getElem? (i := 1) rfl)) w_13 hd_X3_init ⟨Nat.le_of_ble_eq_true rfl, Nat.le_of_ble_eq_true rfl⟩, rfl, w_14⟩ (gS (As := [.ref q7]) hE (hP.sub [6] rfl) (hD.sub [6] (by decide) rfl)) rfl rfl hl.1 rfl (lv_room (Nat.le_of_ble_eq_true rfl)) dX5_init_31 ⟨Nat.le_of_ble_eq_true rfl, Nat.le_of_ble_eq_true rfl⟩) hP hD hS hA [6] rfl (by decide) (fun _ => rfl) (fun u8 H locs h9 hP hD hS => ?_)
  have hP : va_P D vwCl [(a0, .inr (4, [.ref q1, .ref q4, .null, .null, .null])), (q1, .inr (3, [.ref u2, .int 0])), (u2, .inl (y 1, 120, .inl (fun _ => 0))), (q4, soF u5.1 u5.2 iniR), (u5.1, soV y iniR), (u5.2, soW y iniR), (q7, soF u8.1 u8.2 iniR), (u8.1, soV y iniR), (u8.2, soW y iniR)] H := hP
  have hD : va_D A [(a0, .inr (4, [.ref q1, .ref q4, .null, .null, .null])), (q1, .inr (3, [.ref u2, .int 0])), (u2, .inl (y 1, 120, .inl (fun _ => 0))), (q4, soF u5.1 u5.2 iniR), (u5.1, soV y iniR), (u5.2, soW y iniR), (q7, soF u8.1 u8.2 iniR), (u8.1, soV y iniR), (u8.2, soW y iniR)] := hD
  refine va_putF (D := D) (ci := 4) (v := .ref q7) (ty := tyX5 2) (C := RX5) (T := TX5) (N := 5) hx hb hts hi5 tyX5 tyX5_ok nmX5 hown hE.1 hP hD hS 0 rfl rfl 2 (by decide) w_16 (fun _ h9 => h9) rfl hin rfl (by decide +kernel) rfl rfl (Nat.le_of_ble_eq_true rfl) dX5_init_34 (fun H locs hP hD hS => ?_)
  have hP : va_P D vwCl [(a0, .inr (4, [.ref q1, .ref q4, .ref q7, .null, .null])), (q1, .inr (3, [.ref u2, .int 0])), (u2, .inl (y 1, 120, .inl (fun _ => 0))), (q4, soF u5.1 u5.2 iniR), (u5.1, soV y iniR), (u5.2, soW y iniR), (q7, soF u8.1 u8.2 iniR), (u8.1, soV y iniR), (u8.2, soW y iniR)] H := hP
  have hD : va_D A [(a0, .inr (4, [.ref q1, .ref q4, .ref q7, .null, .null])), (q1, .inr (3, [.ref u2, .int 0])), (u2, .inl (y 1, 120, .inl (fun _ => 0))), (q4, soF u5.1 u5.2 iniR), (u5.1, soV y iniR), (u5.2, soW y iniR), (q7, soF u8.1 u8.2 iniR), (u8.1, soV y iniR), (u8.2, soW y iniR)] := hD
  refine lv_aload_n hx hb dX5_init_37 rfl (lv_at hl 0 rfl) ?_
  refine va_new (ci := 0) (fs := [.null, .int 0, .int 0]) (C := RX0) (T := TX0) (N := 3) hx hb hts hi0 tyX0 tyX0_ok hown w_18 w_19 w_20 hE.1 hP hD hS hA rfl (fun j hj => by rcases (show j = 0 ∨ j = 1 ∨ j = 2 by omega) with rfl | rfl | rfl <;> rfl) (Nat.le_of_ble_eq_true rfl) (Nat.le_of_ble_eq_true rfl) dX5_init_38 (fun q10 H hP hD hS => ?_)
  have hP : va_P D vwCl [(a0, .inr (4, [.ref q1, .ref q4, .ref q7, .null, .null])), (q1, .inr (3, [.ref u2, .int 0])), (u2, .inl (y 1, 120, .inl (fun _ => 0))), (q4, soF u5.1 u5.2 iniR), (u5.1, soV y iniR), (u5.2, soW y iniR), (q7, soF u8.1 u8.2 iniR), (u8.1, soV y iniR), (u8.2, soW y iniR), (q10, .inr (0, [.null, .int 0, .int 0]))] H := hP
  have hD : va_D A [(a0, .inr (4, [.ref q1, .ref q4, .ref q7, .null, .null])), (q1, .inr (3, [.ref u2, .int 0])), (u2, .inl (y 1, 120, .inl (fun _ => 0))), (q4, soF u5.1 u5.2 iniR), (u5.1, soV y iniR), (u5.2, soW y iniR), (q7, soF u8.1 u8.2 iniR), (u8.1, soV y iniR), (u8.2, soW y iniR), (q10, .inr (0, [.null, .int 0, .int 0]))] := hD
  refine lv_dup hx hb dX5_init_41 rfl ?_
  refine xw_new (w1a := fun (u : Nat) => [(q10, .inr (0, [.ref u, .int 0, .int 0]))]) (w1b := fun (u : Nat) => [(u, .inl (y 3, 14, .inr (.inr (.inr (.inr (fun _ => none))))))]) (va_runIN (As := []) (rest := [.ref q10, .ref a0]) ⟨hx, hb, hml, hown, hts⟩ (c_X0_init l D y q10 H.size) ⟨va_cnB 0 hts gX5_init_X0_init_n28 rfl rfl rfl (hE.2.1 _ (List.mem_of_getElem? (i := 2) rfl)) w_20 hd_X0_init ⟨Nat.le_of_ble_eq_true rfl, Nat.le_of_ble_eq_true rfl⟩, rfl, w_21⟩ (gS (As := [.ref q10]) hE (hP.sub [9] rfl) (hD.sub [9] (by decide) rfl)) rfl rfl hl.1 rfl (lv_room (Nat.le_of_ble_eq_true rfl)) dX5_init_42 ⟨Nat.le_of_ble_eq_true rfl, Nat.le_of_ble_eq_true rfl⟩) hP hD hS hA [9] rfl (by decide) (fun _ => rfl) (fun u11 H locs h12 hP hD hS => ?_)
  have hP : va_P D vwCl [(a0, .inr (4, [.ref q1, .ref q4, .ref q7, .null, .null])), (q1, .inr (3, [.ref u2, .int 0])), (u2, .inl (y 1, 120, .inl (fun _ => 0))), (q4, soF u5.1 u5.2 iniR), (u5.1, soV y iniR), (u5.2, soW y iniR), (q7, soF u8.1 u8.2 iniR), (u8.1, soV y iniR), (u8.2, soW y iniR), (q10, .inr (0, [.ref u11, .int 0, .int 0])), (u11, .inl (y 3, 14, .inr (.inr (.inr (.inr (fun _ => none))))))] H := hP
  have hD : va_D A [(a0, .inr (4, [.ref q1, .ref q4, .ref q7, .null, .null])), (q1, .inr (3, [.ref u2, .int 0])), (u2, .inl (y 1, 120, .inl (fun _ => 0))), (q4, soF u5.1 u5.2 iniR), (u5.1, soV y iniR), (u5.2, soW y iniR), (q7, soF u8.1 u8.2 iniR), (u8.1, soV y iniR), (u8.2, soW y iniR), (q10, .inr (0, [.ref u11, .int 0, .int 0])), (u11, .inl (y 3, 14, .inr (.inr (.inr (.inr (fun _ => none))))))] := hD
  refine va_putF (D := D) (ci := 4) (v := .ref q10) (ty := tyX5 3) (C := RX5) (T := TX5) (N := 5) hx hb hts hi5 tyX5 tyX5_ok nmX5 hown hE.1 hP hD hS 0 rfl rfl 3 (by decide) w_22 (fun _ h9 => h9) rfl hin rfl (by decide +kernel) rfl rfl (Nat.le_of_ble_eq_true rfl) dX5_init_45 (fun H locs hP hD hS => ?_)
  have hP : va_P D vwCl [(a0, .inr (4, [.ref q1, .ref q4, .ref q7, .ref q10, .null])), (q1, .inr (3, [.ref u2, .int 0])), (u2, .inl (y 1, 120, .inl (fun _ => 0))), (q4, soF u5.1 u5.2 iniR), (u5.1, soV y iniR), (u5.2, soW y iniR), (q7, soF u8.1 u8.2 iniR), (u8.1, soV y iniR), (u8.2, soW y iniR), (q10, .inr (0, [.ref u11, .int 0, .int 0])), (u11, .inl (y 3, 14, .inr (.inr (.inr (.inr (fun _ => none))))))] H := hP
  have hD : va_D A [(a0, .inr (4, [.ref q1, .ref q4, .ref q7, .ref q10, .null])), (q1, .inr (3, [.ref u2, .int 0])), (u2, .inl (y 1, 120, .inl (fun _ => 0))), (q4, soF u5.1 u5.2 iniR), (u5.1, soV y iniR), (u5.2, soW y iniR), (q7, soF u8.1 u8.2 iniR), (u8.1, soV y iniR), (u8.2, soW y iniR), (q10, .inr (0, [.ref u11, .int 0, .int 0])), (u11, .inl (y 3, 14, .inr (.inr (.inr (.inr (fun _ => none))))))] := hD
  refine lv_aload_n hx hb dX5_init_48 rfl (lv_at hl 0 rfl) ?_
  refine va_new (ci := 1) (fs := [.null, .null]) (C := RX2) (T := TX2) (N := 2) hx hb hts hi2 tyX2 tyX2_ok hown w_24 w_25 w_26 hE.1 hP hD hS hA rfl (fun j hj => by rcases (show j = 0 ∨ j = 1 by omega) with rfl | rfl <;> rfl) (Nat.le_of_ble_eq_true rfl) (Nat.le_of_ble_eq_true rfl) dX5_init_49 (fun q13 H hP hD hS => ?_)
  have hP : va_P D vwCl [(a0, .inr (4, [.ref q1, .ref q4, .ref q7, .ref q10, .null])), (q1, .inr (3, [.ref u2, .int 0])), (u2, .inl (y 1, 120, .inl (fun _ => 0))), (q4, soF u5.1 u5.2 iniR), (u5.1, soV y iniR), (u5.2, soW y iniR), (q7, soF u8.1 u8.2 iniR), (u8.1, soV y iniR), (u8.2, soW y iniR), (q10, .inr (0, [.ref u11, .int 0, .int 0])), (u11, .inl (y 3, 14, .inr (.inr (.inr (.inr (fun _ => none)))))), (q13, .inr (1, [.null, .null]))] H := hP
  have hD : va_D A [(a0, .inr (4, [.ref q1, .ref q4, .ref q7, .ref q10, .null])), (q1, .inr (3, [.ref u2, .int 0])), (u2, .inl (y 1, 120, .inl (fun _ => 0))), (q4, soF u5.1 u5.2 iniR), (u5.1, soV y iniR), (u5.2, soW y iniR), (q7, soF u8.1 u8.2 iniR), (u8.1, soV y iniR), (u8.2, soW y iniR), (q10, .inr (0, [.ref u11, .int 0, .int 0])), (u11, .inl (y 3, 14, .inr (.inr (.inr (.inr (fun _ => none)))))), (q13, .inr (1, [.null, .null]))] := hD
  refine lv_dup hx hb dX5_init_52 rfl ?_
  refine xw_new (w1a := fun (u : Nat × Nat) => [(q13, .inr (1, [.ref u.1, .ref u.2]))]) (w1b := fun (u : Nat × Nat) => [(u.1, .inl (y 3, 2, .inr (.inr (.inr (.inr (fun _ => none)))))), (u.2, .inl (y 2, 2, .inl (fun _ => 0)))]) (va_runIN (As := []) (rest := [.ref q13, .ref a0]) ⟨hx, hb, hml, hown, hts⟩ (c_X2_init l D y q13 H.size) ⟨va_cnB 0 hts gX5_init_X2_init_n35 rfl rfl rfl (hE.2.1 _ (List.mem_of_getElem? (i := 3) rfl)) w_26 hd_X2_init ⟨Nat.le_of_ble_eq_true rfl, Nat.le_of_ble_eq_true rfl⟩, rfl, w_27⟩ (gS (As := [.ref q13]) hE (hP.sub [11] rfl) (hD.sub [11] (by decide) rfl)) rfl rfl hl.1 rfl (lv_room (Nat.le_of_ble_eq_true rfl)) dX5_init_53 ⟨Nat.le_of_ble_eq_true rfl, Nat.le_of_ble_eq_true rfl⟩) hP hD hS hA [11] rfl (by decide) (fun _ => rfl) (fun u14 H locs h15 hP hD hS => ?_)
  have hP : va_P D vwCl [(a0, .inr (4, [.ref q1, .ref q4, .ref q7, .ref q10, .null])), (q1, .inr (3, [.ref u2, .int 0])), (u2, .inl (y 1, 120, .inl (fun _ => 0))), (q4, soF u5.1 u5.2 iniR), (u5.1, soV y iniR), (u5.2, soW y iniR), (q7, soF u8.1 u8.2 iniR), (u8.1, soV y iniR), (u8.2, soW y iniR), (q10, .inr (0, [.ref u11, .int 0, .int 0])), (u11, .inl (y 3, 14, .inr (.inr (.inr (.inr (fun _ => none)))))), (q13, .inr (1, [.ref u14.1, .ref u14.2])), (u14.1, .inl (y 3, 2, .inr (.inr (.inr (.inr (fun _ => none)))))), (u14.2, .inl (y 2, 2, .inl (fun _ => 0)))] H := hP
  have hD : va_D A [(a0, .inr (4, [.ref q1, .ref q4, .ref q7, .ref q10, .null])), (q1, .inr (3, [.ref u2, .int 0])), (u2, .inl (y 1, 120, .inl (fun _ => 0))), (q4, soF u5.1 u5.2 iniR), (u5.1, soV y iniR), (u5.2, soW y iniR), (q7, soF u8.1 u8.2 iniR), (u8.1, soV y iniR), (u8.2, soW y iniR), (q10, .inr (0, [.ref u11, .int 0, .int 0])), (u11, .inl (y 3, 14, .inr (.inr (.inr (.inr (fun _ => none)))))), (q13, .inr (1, [.ref u14.1, .ref u14.2])), (u14.1, .inl (y 3, 2, .inr (.inr (.inr (.inr (fun _ => none)))))), (u14.2, .inl (y 2, 2, .inl (fun _ => 0)))] := hD
  refine va_putF (D := D) (ci := 4) (v := .ref q13) (ty := tyX5 4) (C := RX5) (T := TX5) (N := 5) hx hb hts hi5 tyX5 tyX5_ok nmX5 hown hE.1 hP hD hS 0 rfl rfl 4 (by decide) w_28 (fun _ h9 => h9) rfl hin rfl (by decide +kernel) rfl rfl (Nat.le_of_ble_eq_true rfl) dX5_init_56 (fun H locs hP hD hS => ?_)
  have hP : va_P D vwCl [(a0, .inr (4, [.ref q1, .ref q4, .ref q7, .ref q10, .ref q13])), (q1, .inr (3, [.ref u2, .int 0])), (u2, .inl (y 1, 120, .inl (fun _ => 0))), (q4, soF u5.1 u5.2 iniR), (u5.1, soV y iniR), (u5.2, soW y iniR), (q7, soF u8.1 u8.2 iniR), (u8.1, soV y iniR), (u8.2, soW y iniR), (q10, .inr (0, [.ref u11, .int 0, .int 0])), (u11, .inl (y 3, 14, .inr (.inr (.inr (.inr (fun _ => none)))))), (q13, .inr (1, [.ref u14.1, .ref u14.2])), (u14.1, .inl (y 3, 2, .inr (.inr (.inr (.inr (fun _ => none)))))), (u14.2, .inl (y 2, 2, .inl (fun _ => 0)))] H := hP
  have hD : va_D A [(a0, .inr (4, [.ref q1, .ref q4, .ref q7, .ref q10, .ref q13])), (q1, .inr (3, [.ref u2, .int 0])), (u2, .inl (y 1, 120, .inl (fun _ => 0))), (q4, soF u5.1 u5.2 iniR), (u5.1, soV y iniR), (u5.2, soW y iniR), (q7, soF u8.1 u8.2 iniR), (u8.1, soV y iniR), (u8.2, soW y iniR), (q10, .inr (0, [.ref u11, .int 0, .int 0])), (u11, .inl (y 3, 14, .inr (.inr (.inr (.inr (fun _ => none)))))), (q13, .inr (1, [.ref u14.1, .ref u14.2])), (u14.1, .inl (y 3, 2, .inr (.inr (.inr (.inr (fun _ => none)))))), (u14.2, .inl (y 2, 2, .inl (fun _ => 0)))] := hD
  refine W.widen (k := 13) (n := 305) (Nat.le_of_ble_eq_true rfl) (Nat.le_of_ble_eq_true rfl) ?_
  exact W.vret hx hb hr (fun t ht hW => ⟨⟨(fun i => [q1, u2, q4, u5.1, u5.2, q7, u8.1, u8.2, q10, u11, q13, u14.1, u14.2].getD i 0), rfl, trivial, by rw [ht]; exact hP, hD⟩, hS.F ht⟩) hS.2.2 dX5_init_59
