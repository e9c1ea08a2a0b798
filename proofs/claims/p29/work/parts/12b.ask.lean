/-! WHAT ASKS AND THROWS -/

def f_X5_requireLine (r : gR) (p0 : Int32) : Nat :=
    gLet (f_X3_hasLine r p0) (fun (v2 : Int32) =>
    if v2 = 0 then
      3
    else
      0)
theorem f_X5_requireLine_s (r : gR) (p0 : Int32) : f_X5_requireLine r p0 =
    (gLet (f_X3_hasLine r p0) (fun (v2 : Int32) =>
    if v2 = 0 then
      3
    else
      0)) := rfl
theorem hd_X5_requireLine : yX5_requireLine.cls = RX5 ∧ yX5_requireLine.cls ≠ "java/lang/invoke/MethodHandle" ∧ yX5_requireLine.cls ≠ "java/lang/invoke/VarHandle" ∧ (parseMethodDescriptor yX5_requireLine.desc).map (fun d => d.parameters.length) = some 1 := by decide +kernel
set_option maxHeartbeats 4000000 in
set_option maxRecDepth 100000 in
theorem c_X5_requireLine (l : Launch) (hst : l.stackTraces = false) (D : va_G) (y : Nat → ClassId) (a0 a1 a2 a3 a4 a5 a6 a7 : Nat) (zh : Nat) (r : gR) (p0 : Int32) : vx_Met l yX5_requireLine wsX5_requireLine ({ frames := 6, cells := 1, slots := 6, locals := 82 }) (xP D y [.ref a0, .int p0] zh [(a0, .inr (4, [.ref a1, .ref a2, .ref a3, .ref a4, .ref a5])), (a2, soF a6 a7 r), (a6, soV y r), (a7, soW y r)]) (va_Qv (fun u : Unit => f_X5_requireLine r p0 = (0)) (fun (u : Unit) t => va_P D vwCl [(a0, .inr (4, [.ref a1, .ref a2, .ref a3, .ref a4, .ref a5])), (a2, soF a6 a7 r), (a6, soV y r), (a7, soW y r)] t.heap ∧ va_D (va_A [(a0, .inr (4, [.ref a1, .ref a2, .ref a3, .ref a4, .ref a5])), (a2, soF a6 a7 r), (a6, soV y r), (a7, soW y r)] zh) [(a0, .inr (4, [.ref a1, .ref a2, .ref a3, .ref a4, .ref a5])), (a2, soF a6 a7 r), (a6, soV y r), (a7, soW y r)]) (va_A [(a0, .inr (4, [.ref a1, .ref a2, .ref a3, .ref a4, .ref a5])), (a2, soF a6 a7 r), (a6, soV y r), (a7, soW y r)] zh)) (vx_X (fun _ : Unit => True) (fun (E : String) (u : Unit) t => (f_X5_requireLine r p0 = (xc E) ∧ xc E ≠ 0) ∧ (va_P D vwCl [(a0, .inr (4, [.ref a1, .ref a2, .ref a3, .ref a4, .ref a5])), (a2, soF a6 a7 r), (a6, soV y r), (a7, soW y r)] t.heap ∧ va_D (va_A [(a0, .inr (4, [.ref a1, .ref a2, .ref a3, .ref a4, .ref a5])), (a2, soF a6 a7 r), (a6, soV y r), (a7, soW y r)] zh) [(a0, .inr (4, [.ref a1, .ref a2, .ref a3, .ref a4, .ref a5])), (a2, soF a6 a7 r), (a6, soV y r), (a7, soW y r)])) (va_A [(a0, .inr (4, [.ref a1, .ref a2, .ref a3, .ref a4, .ref a5])), (a2, soF a6 a7 r), (a6, soV y r), (a7, soW y r)] zh)) 1 6 (va_A [(a0, .inr (4, [.ref a1, .ref a2, .ref a3, .ref a4, .ref a5])), (a2, soF a6 a7 r), (a6, soV y r), (a7, soW y r)] zh) := by
  refine vx_ofW (cc := cX5_requireLine) (maxL := 2) (ret := none) (by decide) rfl ?_
  intro p e s m args below meth c s₁ B hml htab hv
  obtain ⟨⟨rfl, hsz, hP, hE, hD⟩, hXE, hXZ⟩ := hv
  have hx := B.exec
  have hb := B.bytes
  have hr := B.returns
  have hts := atoms_spec (ws := wsX5_requireLine) B.pre
  have hown : s.vm.findClass RX5 = some m.cls := findClass_of_methodNamed B.named
  have hlocks := B.notSynchronized
  have w_0 := hts (.fieldLink RX5 19 "GapLines" "state" "LGapLines$State;") (List.mem_cons_of_mem _ (List.mem_append_left _ (List.mem_append_left _ (List.mem_append_left _ (List.mem_of_getElem? (i := 2) rfl)))))
  have hi5 : ∀ w ∈ u_ws RX5 TX5 5, w ∈ wsX5_requireLine := fun w h => (List.mem_cons_of_mem _ (List.mem_append_left _ (List.mem_append_left _ (List.mem_append_right _ h))))
  have w_2 := hts (.classLink RX5 249 "java/lang/IndexOutOfBoundsException") (List.mem_cons_of_mem _ (List.mem_append_left _ (List.mem_append_left _ (List.mem_append_left _ (List.mem_of_getElem? (i := 0) rfl)))))
  have w_3 := hts (.initialized "java/lang/IndexOutOfBoundsException") (List.mem_cons_of_mem _ (List.mem_append_left _ (List.mem_append_left _ (List.mem_append_left _ (List.mem_of_getElem? (i := 1) rfl)))))
  subst hsz
  have hD := hD.self (sz := s.heap.size)
  generalize hAe : va_A [(a0, .inr (4, [.ref a1, .ref a2, .ref a3, .ref a4, .ref a5])), (a2, soF a6 a7 r), (a6, soV y r), (a7, soW y r)] s.heap.size = A at hD hXZ ⊢
  have hA : ∀ q : Nat, s.heap.size ≤ q → A q := fun q h => by rw [← hAe]; exact Or.inr h
  have hS : va_S A s.heap s.heap [] := va_S.rf
  have hl := lv_entry ([.ref a0, .int p0]) (n := 2) (Nat.le_of_ble_eq_true rfl)
  rw [lg_entry_eq]
  generalize (lg_sl ([.ref a0, .int p0]) ++ List.replicate (2 - (lg_sl ([.ref a0, .int p0])).length) Slot.unset).toArray = ls at hl ⊢
  have hl : lv_has ls 2 [(0, .ref a0), (1, .int p0)] := hl
  have hF := f_X5_requireLine_s r p0
  refine lv_aload_n hx hb dX5_requireLine_0 rfl (lv_at hl 0 rfl) ?_
  refine va_get (D := D) (ci := 4) (v := .ref a2) (C := RX5) (T := TX5) (N := 5) hx hb hts hi5 hown hE.1 hP 0 rfl rfl 1 (by decide) w_0 (fun _ h9 => h9) rfl dX5_requireLine_1 ?_
  refine lv_iload_n hx hb dX5_requireLine_4 rfl (lv_at hl 1 rfl) ?_
  refine xs_calli (va_runV (As := [.int p0]) (rest := []) ⟨hx, hb, hml, hown, hts⟩ (c_X3_hasLine l D y a2 a6 a7 s.heap.size r p0) (cwV 1 hts gX5_requireLine_X3_hasLine rfl rfl rfl hd_X3_hasLine ⟨Nat.le_of_ble_eq_true rfl, Nat.le_of_ble_eq_true rfl⟩) (gV (q := (RX3, TX3, 15)) hE (hP.sub [1, 2, 3] rfl) (hD.sub [1, 2, 3] (by decide) rfl) 0 rfl rfl) rfl rfl hl.1 rfl (lv_room (Nat.le_of_ble_eq_true rfl)) dX5_requireLine_5 ⟨Nat.le_of_ble_eq_true rfl, Nat.le_of_ble_eq_true rfl⟩) (fun v2 h1 => ?_)
  have hF := hF.trans (gLet_e h1)
  refine lv_if_ne (tgt := 21) hx hb dX5_requireLine_8 (by decide) (fun c_3 => ?_) (fun c_3 => ?_)
  · have hF := hF.trans (if_neg c_3)
    refine W.widen (k := 1) (n := 6) (Nat.le_of_ble_eq_true rfl) (Nat.le_of_ble_eq_true rfl) ?_
    refine vx_ret ?_
    exact W.vret hx hb hr (fun t ht hW => ⟨⟨(), rfl, hF, ⟨by rw [ht]; exact hP, hD⟩⟩, hS.F ht⟩) hS.2.2 dX5_requireLine_21
  · have hF := hF.trans (if_pos c_3)
    obtain ⟨sa4, hsa4⟩ := hXE.2 _ (List.mem_of_getElem? (i := 17) rfl)
    exact vx_throwS (names := xN) hx hb hst hown (by decide +kernel) (by decide +kernel) w_2 w_3 hsa4 (vx_hat (fun w hw => hts w (List.mem_cons_of_mem _ (List.mem_append_right _ hw))) x_bad253 (xE_bad hXE hXE.1.1.2.2)) x_good253 hXZ.1 hXZ.2 hS (hml.trans hl.1.symm).symm dX5_requireLine_11 dX5_requireLine_14 dX5_requireLine_15 dX5_requireLine_17 dX5_requireLine_20 (fun x hx => (htab x hx).elim) (Nat.le_of_ble_eq_true rfl) (Nat.le_of_ble_eq_true rfl) (Nat.le_of_ble_eq_true rfl) (Nat.le_of_ble_eq_true rfl) hlocks (fun t hvm hz hk => ⟨(), trivial, ⟨⟨by rw [xc_IO]; exact hF, by rw [xc_IO]; decide⟩, ⟨x_grow hP hk, hD⟩⟩, x_F hS hz hk⟩) hS.2.2 (Nat.le_of_ble_eq_true rfl) (Nat.le_of_ble_eq_true rfl)

def f_X5_requirePlace (r : gR) (p0 : Int32) : Nat :=
    gLet (f_X3_hasPlace r p0) (fun (v2 : Int32) =>
    if v2 = 0 then
      3
    else
      0)
theorem f_X5_requirePlace_s (r : gR) (p0 : Int32) : f_X5_requirePlace r p0 =
    (gLet (f_X3_hasPlace r p0) (fun (v2 : Int32) =>
    if v2 = 0 then
      3
    else
      0)) := rfl
theorem hd_X5_requirePlace : yX5_requirePlace.cls = RX5 ∧ yX5_requirePlace.cls ≠ "java/lang/invoke/MethodHandle" ∧ yX5_requirePlace.cls ≠ "java/lang/invoke/VarHandle" ∧ (parseMethodDescriptor yX5_requirePlace.desc).map (fun d => d.parameters.length) = some 1 := by decide +kernel
set_option maxHeartbeats 4000000 in
set_option maxRecDepth 100000 in
theorem c_X5_requirePlace (l : Launch) (hst : l.stackTraces = false) (D : va_G) (y : Nat → ClassId) (a0 a1 a2 a3 a4 a5 a6 a7 : Nat) (zh : Nat) (r : gR) (p0 : Int32) : vx_Met l yX5_requirePlace wsX5_requirePlace ({ frames := 6, cells := 1, slots := 6, locals := 82 }) (xP D y [.ref a0, .int p0] zh [(a0, .inr (4, [.ref a1, .ref a2, .ref a3, .ref a4, .ref a5])), (a2, soF a6 a7 r), (a6, soV y r), (a7, soW y r)]) (va_Qv (fun u : Unit => f_X5_requirePlace r p0 = (0)) (fun (u : Unit) t => va_P D vwCl [(a0, .inr (4, [.ref a1, .ref a2, .ref a3, .ref a4, .ref a5])), (a2, soF a6 a7 r), (a6, soV y r), (a7, soW y r)] t.heap ∧ va_D (va_A [(a0, .inr (4, [.ref a1, .ref a2, .ref a3, .ref a4, .ref a5])), (a2, soF a6 a7 r), (a6, soV y r), (a7, soW y r)] zh) [(a0, .inr (4, [.ref a1, .ref a2, .ref a3, .ref a4, .ref a5])), (a2, soF a6 a7 r), (a6, soV y r), (a7, soW y r)]) (va_A [(a0, .inr (4, [.ref a1, .ref a2, .ref a3, .ref a4, .ref a5])), (a2, soF a6 a7 r), (a6, soV y r), (a7, soW y r)] zh)) (vx_X (fun _ : Unit => True) (fun (E : String) (u : Unit) t => (f_X5_requirePlace r p0 = (xc E) ∧ xc E ≠ 0) ∧ (va_P D vwCl [(a0, .inr (4, [.ref a1, .ref a2, .ref a3, .ref a4, .ref a5])), (a2, soF a6 a7 r), (a6, soV y r), (a7, soW y r)] t.heap ∧ va_D (va_A [(a0, .inr (4, [.ref a1, .ref a2, .ref a3, .ref a4, .ref a5])), (a2, soF a6 a7 r), (a6, soV y r), (a7, soW y r)] zh) [(a0, .inr (4, [.ref a1, .ref a2, .ref a3, .ref a4, .ref a5])), (a2, soF a6 a7 r), (a6, soV y r), (a7, soW y r)])) (va_A [(a0, .inr (4, [.ref a1, .ref a2, .ref a3, .ref a4, .ref a5])), (a2, soF a6 a7 r), (a6, soV y r), (a7, soW y r)] zh)) 1 6 (va_A [(a0, .inr (4, [.ref a1, .ref a2, .ref a3, .ref a4, .ref a5])), (a2, soF a6 a7 r), (a6, soV y r), (a7, soW y r)] zh) := by
  refine vx_ofW (cc := cX5_requirePlace) (maxL := 2) (ret := none) (by decide) rfl ?_
  intro p e s m args below meth c s₁ B hml htab hv
  obtain ⟨⟨rfl, hsz, hP, hE, hD⟩, hXE, hXZ⟩ := hv
  have hx := B.exec
  have hb := B.bytes
  have hr := B.returns
  have hts := atoms_spec (ws := wsX5_requirePlace) B.pre
  have hown : s.vm.findClass RX5 = some m.cls := findClass_of_methodNamed B.named
  have hlocks := B.notSynchronized
  have w_0 := hts (.fieldLink RX5 19 "GapLines" "state" "LGapLines$State;") (List.mem_cons_of_mem _ (List.mem_append_left _ (List.mem_append_left _ (List.mem_append_left _ (List.mem_of_getElem? (i := 2) rfl)))))
  have hi5 : ∀ w ∈ u_ws RX5 TX5 5, w ∈ wsX5_requirePlace := fun w h => (List.mem_cons_of_mem _ (List.mem_append_left _ (List.mem_append_left _ (List.mem_append_right _ h))))
  have w_2 := hts (.classLink RX5 249 "java/lang/IndexOutOfBoundsException") (List.mem_cons_of_mem _ (List.mem_append_left _ (List.mem_append_left _ (List.mem_append_left _ (List.mem_of_getElem? (i := 0) rfl)))))
  have w_3 := hts (.initialized "java/lang/IndexOutOfBoundsException") (List.mem_cons_of_mem _ (List.mem_append_left _ (List.mem_append_left _ (List.mem_append_left _ (List.mem_of_getElem? (i := 1) rfl)))))
  subst hsz
  have hD := hD.self (sz := s.heap.size)
  generalize hAe : va_A [(a0, .inr (4, [.ref a1, .ref a2, .ref a3, .ref a4, .ref a5])), (a2, soF a6 a7 r), (a6, soV y r), (a7, soW y r)] s.heap.size = A at hD hXZ ⊢
  have hA : ∀ q : Nat, s.heap.size ≤ q → A q := fun q h => by rw [← hAe]; exact Or.inr h
  have hS : va_S A s.heap s.heap [] := va_S.rf
  have hl := lv_entry ([.ref a0, .int p0]) (n := 2) (Nat.le_of_ble_eq_true rfl)
  rw [lg_entry_eq]
  generalize (lg_sl ([.ref a0, .int p0]) ++ List.replicate (2 - (lg_sl ([.ref a0, .int p0])).length) Slot.unset).toArray = ls at hl ⊢
  have hl : lv_has ls 2 [(0, .ref a0), (1, .int p0)] := hl
  have hF := f_X5_requirePlace_s r p0
  refine lv_aload_n hx hb dX5_requirePlace_0 rfl (lv_at hl 0 rfl) ?_
  refine va_get (D := D) (ci := 4) (v := .ref a2) (C := RX5) (T := TX5) (N := 5) hx hb hts hi5 hown hE.1 hP 0 rfl rfl 1 (by decide) w_0 (fun _ h9 => h9) rfl dX5_requirePlace_1 ?_
  refine lv_iload_n hx hb dX5_requirePlace_4 rfl (lv_at hl 1 rfl) ?_
  refine xs_calli (va_runV (As := [.int p0]) (rest := []) ⟨hx, hb, hml, hown, hts⟩ (c_X3_hasPlace l D y a2 a6 a7 s.heap.size r p0) (cwV 1 hts gX5_requirePlace_X3_hasPlace rfl rfl rfl hd_X3_hasPlace ⟨Nat.le_of_ble_eq_true rfl, Nat.le_of_ble_eq_true rfl⟩) (gV (q := (RX3, TX3, 15)) hE (hP.sub [1, 2, 3] rfl) (hD.sub [1, 2, 3] (by decide) rfl) 0 rfl rfl) rfl rfl hl.1 rfl (lv_room (Nat.le_of_ble_eq_true rfl)) dX5_requirePlace_5 ⟨Nat.le_of_ble_eq_true rfl, Nat.le_of_ble_eq_true rfl⟩) (fun v2 h1 => ?_)
  have hF := hF.trans (gLet_e h1)
  refine lv_if_ne (tgt := 22) hx hb dX5_requirePlace_8 (by decide) (fun c_3 => ?_) (fun c_3 => ?_)
  · have hF := hF.trans (if_neg c_3)
    refine W.widen (k := 1) (n := 6) (Nat.le_of_ble_eq_true rfl) (Nat.le_of_ble_eq_true rfl) ?_
    refine vx_ret ?_
    exact W.vret hx hb hr (fun t ht hW => ⟨⟨(), rfl, hF, ⟨by rw [ht]; exact hP, hD⟩⟩, hS.F ht⟩) hS.2.2 dX5_requirePlace_22
  · have hF := hF.trans (if_pos c_3)
    obtain ⟨sa4, hsa4⟩ := hXE.2 _ (List.mem_of_getElem? (i := 18) rfl)
    exact vx_throwSW (names := xN) hx hb hst hown (by decide +kernel) (by decide +kernel) w_2 w_3 hsa4 (vx_hat (fun w hw => hts w (List.mem_cons_of_mem _ (List.mem_append_right _ hw))) x_bad253 (xE_bad hXE hXE.1.1.2.2)) x_good253 hXZ.1 hXZ.2 hS (hml.trans hl.1.symm).symm dX5_requirePlace_11 dX5_requirePlace_14 dX5_requirePlace_15 dX5_requirePlace_18 dX5_requirePlace_21 (fun x hx => (htab x hx).elim) (Nat.le_of_ble_eq_true rfl) (Nat.le_of_ble_eq_true rfl) (Nat.le_of_ble_eq_true rfl) (Nat.le_of_ble_eq_true rfl) hlocks (fun t hvm hz hk => ⟨(), trivial, ⟨⟨by rw [xc_IO]; exact hF, by rw [xc_IO]; decide⟩, ⟨x_grow hP hk, hD⟩⟩, x_F hS hz hk⟩) hS.2.2 (Nat.le_of_ble_eq_true rfl) (Nat.le_of_ble_eq_true rfl)

def f_X5_requireStore (r : gR) : Nat :=
    gLet (f_X3_exists r) (fun (v2 : Int32) =>
    if v2 = 0 then
      2
    else
      0)
theorem f_X5_requireStore_s (r : gR) : f_X5_requireStore r =
    (gLet (f_X3_exists r) (fun (v2 : Int32) =>
    if v2 = 0 then
      2
    else
      0)) := rfl
theorem hd_X5_requireStore : yX5_requireStore.cls = RX5 ∧ yX5_requireStore.cls ≠ "java/lang/invoke/MethodHandle" ∧ yX5_requireStore.cls ≠ "java/lang/invoke/VarHandle" ∧ (parseMethodDescriptor yX5_requireStore.desc).map (fun d => d.parameters.length) = some 0 := by decide +kernel
set_option maxHeartbeats 4000000 in
set_option maxRecDepth 100000 in
theorem c_X5_requireStore (l : Launch) (hst : l.stackTraces = false) (D : va_G) (y : Nat → ClassId) (a0 a1 a2 a3 a4 a5 a6 a7 : Nat) (zh : Nat) (r : gR) : vx_Met l yX5_requireStore wsX5_requireStore ({ frames := 6, cells := 1, slots := 6, locals := 82 }) (xP D y [.ref a0] zh [(a0, .inr (4, [.ref a1, .ref a2, .ref a3, .ref a4, .ref a5])), (a2, soF a6 a7 r), (a6, soV y r), (a7, soW y r)]) (va_Qv (fun u : Unit => f_X5_requireStore r = (0)) (fun (u : Unit) t => va_P D vwCl [(a0, .inr (4, [.ref a1, .ref a2, .ref a3, .ref a4, .ref a5])), (a2, soF a6 a7 r), (a6, soV y r), (a7, soW y r)] t.heap ∧ va_D (va_A [(a0, .inr (4, [.ref a1, .ref a2, .ref a3, .ref a4, .ref a5])), (a2, soF a6 a7 r), (a6, soV y r), (a7, soW y r)] zh) [(a0, .inr (4, [.ref a1, .ref a2, .ref a3, .ref a4, .ref a5])), (a2, soF a6 a7 r), (a6, soV y r), (a7, soW y r)]) (va_A [(a0, .inr (4, [.ref a1, .ref a2, .ref a3, .ref a4, .ref a5])), (a2, soF a6 a7 r), (a6, soV y r), (a7, soW y r)] zh)) (vx_X (fun _ : Unit => True) (fun (E : String) (u : Unit) t => (f_X5_requireStore r = (xc E) ∧ xc E ≠ 0) ∧ (va_P D vwCl [(a0, .inr (4, [.ref a1, .ref a2, .ref a3, .ref a4, .ref a5])), (a2, soF a6 a7 r), (a6, soV y r), (a7, soW y r)] t.heap ∧ va_D (va_A [(a0, .inr (4, [.ref a1, .ref a2, .ref a3, .ref a4, .ref a5])), (a2, soF a6 a7 r), (a6, soV y r), (a7, soW y r)] zh) [(a0, .inr (4, [.ref a1, .ref a2, .ref a3, .ref a4, .ref a5])), (a2, soF a6 a7 r), (a6, soV y r), (a7, soW y r)])) (va_A [(a0, .inr (4, [.ref a1, .ref a2, .ref a3, .ref a4, .ref a5])), (a2, soF a6 a7 r), (a6, soV y r), (a7, soW y r)] zh)) 1 6 (va_A [(a0, .inr (4, [.ref a1, .ref a2, .ref a3, .ref a4, .ref a5])), (a2, soF a6 a7 r), (a6, soV y r), (a7, soW y r)] zh) := by
  refine vx_ofW (cc := cX5_requireStore) (maxL := 1) (ret := none) (by decide) rfl ?_
  intro p e s m args below meth c s₁ B hml htab hv
  obtain ⟨⟨rfl, hsz, hP, hE, hD⟩, hXE, hXZ⟩ := hv
  have hx := B.exec
  have hb := B.bytes
  have hr := B.returns
  have hts := atoms_spec (ws := wsX5_requireStore) B.pre
  have hown : s.vm.findClass RX5 = some m.cls := findClass_of_methodNamed B.named
  have hlocks := B.notSynchronized
  have w_0 := hts (.fieldLink RX5 19 "GapLines" "state" "LGapLines$State;") (List.mem_cons_of_mem _ (List.mem_append_left _ (List.mem_append_left _ (List.mem_append_left _ (List.mem_of_getElem? (i := 2) rfl)))))
  have hi5 : ∀ w ∈ u_ws RX5 TX5 5, w ∈ wsX5_requireStore := fun w h => (List.mem_cons_of_mem _ (List.mem_append_left _ (List.mem_append_left _ (List.mem_append_right _ h))))
  have w_2 := hts (.classLink RX5 51 "java/lang/IllegalStateException") (List.mem_cons_of_mem _ (List.mem_append_left _ (List.mem_append_left _ (List.mem_append_left _ (List.mem_of_getElem? (i := 0) rfl)))))
  have w_3 := hts (.initialized "java/lang/IllegalStateException") (List.mem_cons_of_mem _ (List.mem_append_left _ (List.mem_append_left _ (List.mem_append_left _ (List.mem_of_getElem? (i := 1) rfl)))))
  subst hsz
  have hD := hD.self (sz := s.heap.size)
  generalize hAe : va_A [(a0, .inr (4, [.ref a1, .ref a2, .ref a3, .ref a4, .ref a5])), (a2, soF a6 a7 r), (a6, soV y r), (a7, soW y r)] s.heap.size = A at hD hXZ ⊢
  have hA : ∀ q : Nat, s.heap.size ≤ q → A q := fun q h => by rw [← hAe]; exact Or.inr h
  have hS : va_S A s.heap s.heap [] := va_S.rf
  have hl := lv_entry ([.ref a0]) (n := 1) (Nat.le_of_ble_eq_true rfl)
  rw [lg_entry_eq]
  generalize (lg_sl ([.ref a0]) ++ List.replicate (1 - (lg_sl ([.ref a0])).length) Slot.unset).toArray = ls at hl ⊢
  have hl : lv_has ls 1 [(0, .ref a0)] := hl
  have hF := f_X5_requireStore_s r
  refine lv_aload_n hx hb dX5_requireStore_0 rfl (lv_at hl 0 rfl) ?_
  refine va_get (D := D) (ci := 4) (v := .ref a2) (C := RX5) (T := TX5) (N := 5) hx hb hts hi5 hown hE.1 hP 0 rfl rfl 1 (by decide) w_0 (fun _ h9 => h9) rfl dX5_requireStore_1 ?_
  refine xs_calli (va_runV (As := []) (rest := []) ⟨hx, hb, hml, hown, hts⟩ (c_X3_exists l D y a2 a6 a7 s.heap.size r) (cwV 0 hts gX5_requireStore_X3_exists rfl rfl rfl hd_X3_exists ⟨Nat.le_of_ble_eq_true rfl, Nat.le_of_ble_eq_true rfl⟩) (gV (q := (RX3, TX3, 15)) hE (hP.sub [1, 2, 3] rfl) (hD.sub [1, 2, 3] (by decide) rfl) 0 rfl rfl) rfl rfl hl.1 rfl (lv_room (Nat.le_of_ble_eq_true rfl)) dX5_requireStore_4 ⟨Nat.le_of_ble_eq_true rfl, Nat.le_of_ble_eq_true rfl⟩) (fun v2 h1 => ?_)
  have hF := hF.trans (gLet_e h1)
  refine lv_if_ne (tgt := 21) hx hb dX5_requireStore_7 (by decide) (fun c_3 => ?_) (fun c_3 => ?_)
  · have hF := hF.trans (if_neg c_3)
    refine W.widen (k := 1) (n := 6) (Nat.le_of_ble_eq_true rfl) (Nat.le_of_ble_eq_true rfl) ?_
    refine vx_ret ?_
    exact W.vret hx hb hr (fun t ht hW => ⟨⟨(), rfl, hF, ⟨by rw [ht]; exact hP, hD⟩⟩, hS.F ht⟩) hS.2.2 dX5_requireStore_21
  · have hF := hF.trans (if_pos c_3)
    obtain ⟨sa4, hsa4⟩ := hXE.2 _ (List.mem_of_getElem? (i := 19) rfl)
    exact vx_throwSW (names := xN) hx hb hst hown (by decide +kernel) (by decide +kernel) w_2 w_3 hsa4 (vx_hat (fun w hw => hts w (List.mem_cons_of_mem _ (List.mem_append_right _ hw))) x_bad55 (xE_bad hXE hXE.1.1.2.1)) x_good55 hXZ.1 hXZ.2 hS (hml.trans hl.1.symm).symm dX5_requireStore_10 dX5_requireStore_13 dX5_requireStore_14 dX5_requireStore_17 dX5_requireStore_20 (fun x hx => (htab x hx).elim) (Nat.le_of_ble_eq_true rfl) (Nat.le_of_ble_eq_true rfl) (Nat.le_of_ble_eq_true rfl) (Nat.le_of_ble_eq_true rfl) hlocks (fun t hvm hz hk => ⟨(), trivial, ⟨⟨by rw [xc_IS]; exact hF, by rw [xc_IS]; decide⟩, ⟨x_grow hP hk, hD⟩⟩, x_F hS hz hk⟩) hS.2.2 (Nat.le_of_ble_eq_true rfl) (Nat.le_of_ble_eq_true rfl)

def f_X5_requireSetting (p0 : Int32) : Nat :=
    if p0 = 0 then
    0
  else
    if p0 = 1 then
      0
    else
      1
theorem f_X5_requireSetting_s (p0 : Int32) : f_X5_requireSetting p0 =
    (if p0 = 0 then
    0
  else
    if p0 = 1 then
      0
    else
      1) := rfl
theorem hd_X5_requireSetting : yX5_requireSetting.cls ≠ "java/lang/invoke/MethodHandle" ∧ yX5_requireSetting.cls ≠ "java/lang/invoke/VarHandle" ∧ (parseMethodDescriptor yX5_requireSetting.desc).map (fun d => d.parameters.length) = some 1 := by decide +kernel
set_option maxHeartbeats 4000000 in
set_option maxRecDepth 100000 in
theorem c_X5_requireSetting (l : Launch) (hst : l.stackTraces = false) (D : va_G) (y : Nat → ClassId) (zh : Nat) (p0 : Int32) : vx_Met l yX5_requireSetting wsX5_requireSetting ({ frames := 6, cells := 1, slots := 6, locals := 82 }) (xP D y [.int p0] zh []) (va_Qv (fun u : Unit => f_X5_requireSetting p0 = (0)) (fun (u : Unit) t => va_P D vwCl [] t.heap ∧ va_D (va_A [] zh) []) (va_A [] zh)) (vx_X (fun _ : Unit => True) (fun (E : String) (u : Unit) t => (f_X5_requireSetting p0 = (xc E) ∧ xc E ≠ 0) ∧ (va_P D vwCl [] t.heap ∧ va_D (va_A [] zh) [])) (va_A [] zh)) 1 6 (va_A [] zh) := by
  refine vx_ofW (cc := cX5_requireSetting) (maxL := 1) (ret := none) (by decide) rfl ?_
  intro p e s m args below meth c s₁ B hml htab hv
  obtain ⟨⟨rfl, hsz, hP, hE, hD⟩, hXE, hXZ⟩ := hv
  have hx := B.exec
  have hb := B.bytes
  have hr := B.returns
  have hts := atoms_spec (ws := wsX5_requireSetting) B.pre
  have hown : s.vm.findClass RX5 = some m.cls := findClass_of_methodNamed B.named
  have hlocks := B.notSynchronized
  have w_0 := hts (.classLink RX5 40 "java/lang/IllegalArgumentException") (List.mem_cons_of_mem _ (List.mem_append_left _ (List.mem_of_getElem? (i := 0) rfl)))
  have w_1 := hts (.initialized "java/lang/IllegalArgumentException") (List.mem_cons_of_mem _ (List.mem_append_left _ (List.mem_of_getElem? (i := 1) rfl)))
  subst hsz
  have hD := hD.self (sz := s.heap.size)
  generalize hAe : va_A [] s.heap.size = A at hD hXZ ⊢
  have hA : ∀ q : Nat, s.heap.size ≤ q → A q := fun q h => by rw [← hAe]; exact Or.inr h
  have hS : va_S A s.heap s.heap [] := va_S.rf
  have hl := lv_entry ([.int p0]) (n := 1) (Nat.le_of_ble_eq_true rfl)
  rw [lg_entry_eq]
  generalize (lg_sl ([.int p0]) ++ List.replicate (1 - (lg_sl ([.int p0])).length) Slot.unset).toArray = ls at hl ⊢
  have hl : lv_has ls 1 [(0, .int p0)] := hl
  have hF := f_X5_requireSetting_s p0
  refine lv_iload_n hx hb dX5_requireSetting_0 rfl (lv_at hl 0 rfl) ?_
  refine lv_if_eq (tgt := 20) hx hb dX5_requireSetting_1 (by decide) (fun c_1 => ?_) (fun c_1 => ?_)
  · have hF := hF.trans (if_pos c_1)
    refine W.widen (k := 1) (n := 6) (Nat.le_of_ble_eq_true rfl) (Nat.le_of_ble_eq_true rfl) ?_
    refine vx_ret ?_
    exact W.vret hx hb hr (fun t ht hW => ⟨⟨(), rfl, hF, ⟨by rw [ht]; exact hP, hD⟩⟩, hS.F ht⟩) hS.2.2 dX5_requireSetting_20
  · have hF := hF.trans (if_neg c_1)
    refine lv_iload_n hx hb dX5_requireSetting_4 rfl (lv_at hl 0 rfl) ?_
    refine lv_iconst (v := 1) hx hb dX5_requireSetting_5 (by decide) ?_
    refine lv_icmp_eq (tgt := 20) hx hb dX5_requireSetting_6 (by decide) (fun c_2 => ?_) (fun c_2 => ?_)
    · have hF := hF.trans (if_pos c_2)
      refine W.widen (k := 1) (n := 6) (Nat.le_of_ble_eq_true rfl) (Nat.le_of_ble_eq_true rfl) ?_
      refine vx_ret ?_
      exact W.vret hx hb hr (fun t ht hW => ⟨⟨(), rfl, hF, ⟨by rw [ht]; exact hP, hD⟩⟩, hS.F ht⟩) hS.2.2 dX5_requireSetting_20
    · have hF := hF.trans (if_neg c_2)
      obtain ⟨sa3, hsa3⟩ := hXE.2 _ (List.mem_of_getElem? (i := 20) rfl)
      exact vx_throwSW (names := xN) hx hb hst hown (by decide +kernel) (by decide +kernel) w_0 w_1 hsa3 (vx_hat (fun w hw => hts w (List.mem_cons_of_mem _ (List.mem_append_right _ hw))) x_bad44 (xE_bad hXE hXE.1.1.1)) x_good44 hXZ.1 hXZ.2 hS (hml.trans hl.1.symm).symm dX5_requireSetting_9 dX5_requireSetting_12 dX5_requireSetting_13 dX5_requireSetting_16 dX5_requireSetting_19 (fun x hx => (htab x hx).elim) (Nat.le_of_ble_eq_true rfl) (Nat.le_of_ble_eq_true rfl) (Nat.le_of_ble_eq_true rfl) (Nat.le_of_ble_eq_true rfl) hlocks (fun t hvm hz hk => ⟨(), trivial, ⟨⟨by rw [xc_IA]; exact hF, by rw [xc_IA]; decide⟩, ⟨x_grow hP hk, hD⟩⟩, x_F hS hz hk⟩) hS.2.2 (Nat.le_of_ble_eq_true rfl) (Nat.le_of_ble_eq_true rfl)

def f_X5_requireHammered (p0 : Int32) : Nat :=
    gLet (f_X5_isHammered p0) (fun (v2 : Int32) =>
    if v2 = 0 then
      1
    else
      0)
theorem f_X5_requireHammered_s (p0 : Int32) : f_X5_requireHammered p0 =
    (gLet (f_X5_isHammered p0) (fun (v2 : Int32) =>
    if v2 = 0 then
      1
    else
      0)) := rfl
theorem hd_X5_requireHammered : yX5_requireHammered.cls ≠ "java/lang/invoke/MethodHandle" ∧ yX5_requireHammered.cls ≠ "java/lang/invoke/VarHandle" ∧ (parseMethodDescriptor yX5_requireHammered.desc).map (fun d => d.parameters.length) = some 1 := by decide +kernel
set_option maxHeartbeats 4000000 in
set_option maxRecDepth 100000 in
theorem c_X5_requireHammered (l : Launch) (hst : l.stackTraces = false) (D : va_G) (y : Nat → ClassId) (zh : Nat) (p0 : Int32) : vx_Met l yX5_requireHammered wsX5_requireHammered ({ frames := 6, cells := 1, slots := 6, locals := 82 }) (xP D y [.int p0] zh []) (va_Qv (fun u : Unit => f_X5_requireHammered p0 = (0)) (fun (u : Unit) t => va_P D vwCl [] t.heap ∧ va_D (va_A [] zh) []) (va_A [] zh)) (vx_X (fun _ : Unit => True) (fun (E : String) (u : Unit) t => (f_X5_requireHammered p0 = (xc E) ∧ xc E ≠ 0) ∧ (va_P D vwCl [] t.heap ∧ va_D (va_A [] zh) [])) (va_A [] zh)) 1 6 (va_A [] zh) := by
  refine vx_ofW (cc := cX5_requireHammered) (maxL := 1) (ret := none) (by decide) rfl ?_
  intro p e s m args below meth c s₁ B hml htab hv
  obtain ⟨⟨rfl, hsz, hP, hE, hD⟩, hXE, hXZ⟩ := hv
  have hx := B.exec
  have hb := B.bytes
  have hr := B.returns
  have hts := atoms_spec (ws := wsX5_requireHammered) B.pre
  have hown : s.vm.findClass RX5 = some m.cls := findClass_of_methodNamed B.named
  have hlocks := B.notSynchronized
  have w_0 := hts (.classLink RX5 40 "java/lang/IllegalArgumentException") (List.mem_cons_of_mem _ (List.mem_append_left _ (List.mem_of_getElem? (i := 0) rfl)))
  have w_1 := hts (.initialized "java/lang/IllegalArgumentException") (List.mem_cons_of_mem _ (List.mem_append_left _ (List.mem_of_getElem? (i := 1) rfl)))
  subst hsz
  have hD := hD.self (sz := s.heap.size)
  generalize hAe : va_A [] s.heap.size = A at hD hXZ ⊢
  have hA : ∀ q : Nat, s.heap.size ≤ q → A q := fun q h => by rw [← hAe]; exact Or.inr h
  have hS : va_S A s.heap s.heap [] := va_S.rf
  have hl := lv_entry ([.int p0]) (n := 1) (Nat.le_of_ble_eq_true rfl)
  rw [lg_entry_eq]
  generalize (lg_sl ([.int p0]) ++ List.replicate (1 - (lg_sl ([.int p0])).length) Slot.unset).toArray = ls at hl ⊢
  have hl : lv_has ls 1 [(0, .int p0)] := hl
  have hF := f_X5_requireHammered_s p0
  refine lv_iload_n hx hb dX5_requireHammered_0 rfl (lv_at hl 0 rfl) ?_
  refine xs_calli (va_runS (As := [.int p0]) (rest := []) ⟨hx, hb, hml, hown, hts⟩ (c_X5_isHammered l D y s.heap.size p0) (va_cwS 1 hts gX5_requireHammered_X5_isHammered rfl rfl rfl hd_X5_isHammered ⟨Nat.le_of_ble_eq_true rfl, Nat.le_of_ble_eq_true rfl⟩) (gS hE hP hD) rfl rfl hl.1 rfl (lv_room (Nat.le_of_ble_eq_true rfl)) dX5_requireHammered_1 ⟨Nat.le_of_ble_eq_true rfl, Nat.le_of_ble_eq_true rfl⟩) (fun v2 h1 => ?_)
  have hF := hF.trans (gLet_e h1)
  refine lv_if_ne (tgt := 18) hx hb dX5_requireHammered_4 (by decide) (fun c_3 => ?_) (fun c_3 => ?_)
  · have hF := hF.trans (if_neg c_3)
    refine W.widen (k := 1) (n := 6) (Nat.le_of_ble_eq_true rfl) (Nat.le_of_ble_eq_true rfl) ?_
    refine vx_ret ?_
    exact W.vret hx hb hr (fun t ht hW => ⟨⟨(), rfl, hF, ⟨by rw [ht]; exact hP, hD⟩⟩, hS.F ht⟩) hS.2.2 dX5_requireHammered_18
  · have hF := hF.trans (if_pos c_3)
    obtain ⟨sa4, hsa4⟩ := hXE.2 _ (List.mem_of_getElem? (i := 21) rfl)
    exact vx_throwSW (names := xN) hx hb hst hown (by decide +kernel) (by decide +kernel) w_0 w_1 hsa4 (vx_hat (fun w hw => hts w (List.mem_cons_of_mem _ (List.mem_append_right _ hw))) x_bad44 (xE_bad hXE hXE.1.1.1)) x_good44 hXZ.1 hXZ.2 hS (hml.trans hl.1.symm).symm dX5_requireHammered_7 dX5_requireHammered_10 dX5_requireHammered_11 dX5_requireHammered_14 dX5_requireHammered_17 (fun x hx => (htab x hx).elim) (Nat.le_of_ble_eq_true rfl) (Nat.le_of_ble_eq_true rfl) (Nat.le_of_ble_eq_true rfl) (Nat.le_of_ble_eq_true rfl) hlocks (fun t hvm hz hk => ⟨(), trivial, ⟨⟨by rw [xc_IA]; exact hF, by rw [xc_IA]; decide⟩, ⟨x_grow hP hk, hD⟩⟩, x_F hS hz hk⟩) hS.2.2 (Nat.le_of_ble_eq_true rfl) (Nat.le_of_ble_eq_true rfl)

def f_X5_requireSlot (p0 : Int32) : Nat :=
    gLet (f_X2_has p0) (fun (v2 : Int32) =>
    if v2 = 0 then
      3
    else
      0)
theorem f_X5_requireSlot_s (p0 : Int32) : f_X5_requireSlot p0 =
    (gLet (f_X2_has p0) (fun (v2 : Int32) =>
    if v2 = 0 then
      3
    else
      0)) := rfl
theorem hd_X5_requireSlot : yX5_requireSlot.cls ≠ "java/lang/invoke/MethodHandle" ∧ yX5_requireSlot.cls ≠ "java/lang/invoke/VarHandle" ∧ (parseMethodDescriptor yX5_requireSlot.desc).map (fun d => d.parameters.length) = some 1 := by decide +kernel
set_option maxHeartbeats 4000000 in
set_option maxRecDepth 100000 in
theorem c_X5_requireSlot (l : Launch) (hst : l.stackTraces = false) (D : va_G) (y : Nat → ClassId) (zh : Nat) (p0 : Int32) : vx_Met l yX5_requireSlot wsX5_requireSlot ({ frames := 6, cells := 1, slots := 6, locals := 82 }) (xP D y [.int p0] zh []) (va_Qv (fun u : Unit => f_X5_requireSlot p0 = (0)) (fun (u : Unit) t => va_P D vwCl [] t.heap ∧ va_D (va_A [] zh) []) (va_A [] zh)) (vx_X (fun _ : Unit => True) (fun (E : String) (u : Unit) t => (f_X5_requireSlot p0 = (xc E) ∧ xc E ≠ 0) ∧ (va_P D vwCl [] t.heap ∧ va_D (va_A [] zh) [])) (va_A [] zh)) 1 6 (va_A [] zh) := by
  refine vx_ofW (cc := cX5_requireSlot) (maxL := 1) (ret := none) (by decide) rfl ?_
  intro p e s m args below meth c s₁ B hml htab hv
  obtain ⟨⟨rfl, hsz, hP, hE, hD⟩, hXE, hXZ⟩ := hv
  have hx := B.exec
  have hb := B.bytes
  have hr := B.returns
  have hts := atoms_spec (ws := wsX5_requireSlot) B.pre
  have hown : s.vm.findClass RX5 = some m.cls := findClass_of_methodNamed B.named
  have hlocks := B.notSynchronized
  have w_0 := hts (.classLink RX5 249 "java/lang/IndexOutOfBoundsException") (List.mem_cons_of_mem _ (List.mem_append_left _ (List.mem_of_getElem? (i := 0) rfl)))
  have w_1 := hts (.initialized "java/lang/IndexOutOfBoundsException") (List.mem_cons_of_mem _ (List.mem_append_left _ (List.mem_of_getElem? (i := 1) rfl)))
  subst hsz
  have hD := hD.self (sz := s.heap.size)
  generalize hAe : va_A [] s.heap.size = A at hD hXZ ⊢
  have hA : ∀ q : Nat, s.heap.size ≤ q → A q := fun q h => by rw [← hAe]; exact Or.inr h
  have hS : va_S A s.heap s.heap [] := va_S.rf
  have hl := lv_entry ([.int p0]) (n := 1) (Nat.le_of_ble_eq_true rfl)
  rw [lg_entry_eq]
  generalize (lg_sl ([.int p0]) ++ List.replicate (1 - (lg_sl ([.int p0])).length) Slot.unset).toArray = ls at hl ⊢
  have hl : lv_has ls 1 [(0, .int p0)] := hl
  have hF := f_X5_requireSlot_s p0
  refine lv_iload_n hx hb dX5_requireSlot_0 rfl (lv_at hl 0 rfl) ?_
  refine xs_calli (va_runS (As := [.int p0]) (rest := []) ⟨hx, hb, hml, hown, hts⟩ (c_X2_has l D y s.heap.size p0) (va_cwS 1 hts gX5_requireSlot_X2_has rfl rfl rfl hd_X2_has ⟨Nat.le_of_ble_eq_true rfl, Nat.le_of_ble_eq_true rfl⟩) (gS hE hP hD) rfl rfl hl.1 rfl (lv_room (Nat.le_of_ble_eq_true rfl)) dX5_requireSlot_1 ⟨Nat.le_of_ble_eq_true rfl, Nat.le_of_ble_eq_true rfl⟩) (fun v2 h1 => ?_)
  have hF := hF.trans (gLet_e h1)
  refine lv_if_ne (tgt := 18) hx hb dX5_requireSlot_4 (by decide) (fun c_3 => ?_) (fun c_3 => ?_)
  · have hF := hF.trans (if_neg c_3)
    refine W.widen (k := 1) (n := 6) (Nat.le_of_ble_eq_true rfl) (Nat.le_of_ble_eq_true rfl) ?_
    refine vx_ret ?_
    exact W.vret hx hb hr (fun t ht hW => ⟨⟨(), rfl, hF, ⟨by rw [ht]; exact hP, hD⟩⟩, hS.F ht⟩) hS.2.2 dX5_requireSlot_18
  · have hF := hF.trans (if_pos c_3)
    obtain ⟨sa4, hsa4⟩ := hXE.2 _ (List.mem_of_getElem? (i := 22) rfl)
    exact vx_throwSW (names := xN) hx hb hst hown (by decide +kernel) (by decide +kernel) w_0 w_1 hsa4 (vx_hat (fun w hw => hts w (List.mem_cons_of_mem _ (List.mem_append_right _ hw))) x_bad253 (xE_bad hXE hXE.1.1.2.2)) x_good253 hXZ.1 hXZ.2 hS (hml.trans hl.1.symm).symm dX5_requireSlot_7 dX5_requireSlot_10 dX5_requireSlot_11 dX5_requireSlot_14 dX5_requireSlot_17 (fun x hx => (htab x hx).elim) (Nat.le_of_ble_eq_true rfl) (Nat.le_of_ble_eq_true rfl) (Nat.le_of_ble_eq_true rfl) (Nat.le_of_ble_eq_true rfl) hlocks (fun t hvm hz hk => ⟨(), trivial, ⟨⟨by rw [xc_IO]; exact hF, by rw [xc_IO]; decide⟩, ⟨x_grow hP hk, hD⟩⟩, x_F hS hz hk⟩) hS.2.2 (Nat.le_of_ble_eq_true rfl) (Nat.le_of_ble_eq_true rfl)
