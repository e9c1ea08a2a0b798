/-! THE CLASS: WHAT WOULD BE -/
theorem so_v0 (y : Nat → ClassId) (r : gR) {j : Nat} {x : Int32} (h : j < 13) : soV y (upd r j x) = soV y r := by
  have e : (fun k => upd r j x (13 + k)) = fun k => r (13 + k) := by funext k; exact upd_ne (by omega)
  simp only [soV, e]
theorem so_w0 (y : Nat → ClassId) (r : gR) {j : Nat} {x : Int32} (h : j < 13) : soW y (upd r j x) = soW y r := by
  have e : (fun k => upd r j x (45 + k)) = fun k => r (45 + k) := by funext k; exact upd_ne (by omega)
  simp only [soW, e]
theorem ok_X3_writeByChance_L14 (p1 : Int32) : ∀ (n : Nat) (x4 : Int64) (x6 : Int32) (r_ : gR), okC r_ → okC (f_X3_writeByChance_L14 p1 n x4 x6 r_)
  | 0, _, _, _, h => h
  | n + 1, x4, x6, r_, h => by
    rw [f_X3_writeByChance_L14_s]
    refine gIf_i (P := fun z : gR => okC z) (fun c1 => ?_) (fun c1 => ?_)
    · exact h
    · refine gLet_i (P := fun z : gR => okC z) (fun v2 ev2 => ?_)
      refine gLet_i (P := fun z : gR => okC z) (fun v3 ev3 => ?_)
      refine gIf_i (P := fun z : gR => okC z) (fun c2 => ?_) (fun c2 => ?_)
      · refine gIf_i (P := fun z : gR => okC z) (fun c3 => ?_) (fun c3 => ?_)
        · refine gLet_i (P := fun z : gR => okC z) (fun v13 ev13 => ?_)
          refine gLet_i (P := fun z : gR => okC z) (fun q17 eq17 => ?_)
          exact ok_X3_writeByChance_L14 p1 n _ _ _ (by rw [← eq17]; exact ok_X3_writeLine _ _ _ h)
        · exact ok_X3_writeByChance_L14 p1 n _ _ _ h
      · refine gLet_i (P := fun z : gR => okC z) (fun v5 ev5 => ?_)
        refine gIf_i (P := fun z : gR => okC z) (fun c4 => ?_) (fun c4 => ?_)
        · refine gLet_i (P := fun z : gR => okC z) (fun v7 ev7 => ?_)
          refine gLet_i (P := fun z : gR => okC z) (fun q11 eq11 => ?_)
          exact ok_X3_writeByChance_L14 p1 n _ _ _ (by rw [← eq11]; exact ok_X3_writeLine _ _ _ h)
        · exact ok_X3_writeByChance_L14 p1 n _ _ _ h
theorem ok_X3_writeByChance (r : gR) (p0 : Int64) (p1 : Int32) (ho : okC r) : okC (f_X3_writeByChance r p0 p1) := by
  rw [f_X3_writeByChance_s]
  simp only [gLet]
  split
  · exact ho
  · exact ok_X3_writeByChance_L14 _ _ _ _ _ ho

def f_X5_life (r : gR) (rc : gR) (p0 : Int32) : Nat × Int32 × gR :=
    gLet (f_X5_requireLine r p0) (fun (n1 : Nat) =>
    if n1 = 0 then
      gLet (f_X3_hammerLine r p0 2000) (fun (q11 : Int32 × gR) =>
        (0, q11.1, q11.2))
    else
      (n1, 0, rc))
theorem f_X5_life_s (r : gR) (rc : gR) (p0 : Int32) : f_X5_life r rc p0 =
    (gLet (f_X5_requireLine r p0) (fun (n1 : Nat) =>
    if n1 = 0 then
      gLet (f_X3_hammerLine r p0 2000) (fun (q11 : Int32 × gR) =>
        (0, q11.1, q11.2))
    else
      (n1, 0, rc))) := rfl
theorem hd_X5_life : yX5_life.cls = RX5 ∧ yX5_life.cls ≠ "java/lang/invoke/MethodHandle" ∧ yX5_life.cls ≠ "java/lang/invoke/VarHandle" ∧ (parseMethodDescriptor yX5_life.desc).map (fun d => d.parameters.length) = some 1 := by decide +kernel
set_option maxHeartbeats 4000000 in
set_option maxRecDepth 100000 in
theorem c_X5_life (l : Launch) (hst : l.stackTraces = false) (D : va_G) (y : Nat → ClassId) (a0 a1 a2 a3 a4 a5 a6 a7 a8 a9 : Nat) (zh : Nat) (r : gR) (rc : gR) (p0 : Int32) (ho : okC r) : vx_Met l yX5_life wsX5_life ({ frames := 7, cells := 2, slots := 12, locals := 103 }) (xP D y [.ref a0, .int p0] zh [(a0, .inr (4, [.ref a1, .ref a2, .ref a3, .ref a4, .ref a5])), (a2, soF a6 a7 r), (a6, soV y r), (a7, soW y r), (a3, soF a8 a9 rc), (a8, soV y rc), (a9, soW y rc)]) (va_Qi (fun (v : Int32) (u : gR) => f_X5_life r rc p0 = (0, v, u)) (fun (u : gR) t => va_P D vwCl [(a0, .inr (4, [.ref a1, .ref a2, .ref a3, .ref a4, .ref a5])), (a2, soF a6 a7 r), (a6, soV y r), (a7, soW y r), (a3, soF a8 a9 u), (a8, soV y u), (a9, soW y u)] t.heap ∧ va_D (va_A [(a0, .inr (4, [.ref a1, .ref a2, .ref a3, .ref a4, .ref a5])), (a2, soF a6 a7 r), (a6, soV y r), (a7, soW y r), (a3, soF a8 a9 rc), (a8, soV y rc), (a9, soW y rc)] zh) [(a0, .inr (4, [.ref a1, .ref a2, .ref a3, .ref a4, .ref a5])), (a2, soF a6 a7 r), (a6, soV y r), (a7, soW y r), (a3, soF a8 a9 u), (a8, soV y u), (a9, soW y u)]) (va_A [(a0, .inr (4, [.ref a1, .ref a2, .ref a3, .ref a4, .ref a5])), (a2, soF a6 a7 r), (a6, soV y r), (a7, soW y r), (a3, soF a8 a9 rc), (a8, soV y rc), (a9, soW y rc)] zh)) (vx_X (fun _ : gR => True) (fun (E : String) (u : gR) t => (f_X5_life r rc p0 = (xc E, 0, u) ∧ xc E ≠ 0) ∧ (va_P D vwCl [(a0, .inr (4, [.ref a1, .ref a2, .ref a3, .ref a4, .ref a5])), (a2, soF a6 a7 r), (a6, soV y r), (a7, soW y r), (a3, soF a8 a9 u), (a8, soV y u), (a9, soW y u)] t.heap ∧ va_D (va_A [(a0, .inr (4, [.ref a1, .ref a2, .ref a3, .ref a4, .ref a5])), (a2, soF a6 a7 r), (a6, soV y r), (a7, soW y r), (a3, soF a8 a9 rc), (a8, soV y rc), (a9, soW y rc)] zh) [(a0, .inr (4, [.ref a1, .ref a2, .ref a3, .ref a4, .ref a5])), (a2, soF a6 a7 r), (a6, soV y r), (a7, soW y r), (a3, soF a8 a9 u), (a8, soV y u), (a9, soW y u)])) (va_A [(a0, .inr (4, [.ref a1, .ref a2, .ref a3, .ref a4, .ref a5])), (a2, soF a6 a7 r), (a6, soV y r), (a7, soW y r), (a3, soF a8 a9 rc), (a8, soV y rc), (a9, soW y rc)] zh)) 2 12 (va_A [(a0, .inr (4, [.ref a1, .ref a2, .ref a3, .ref a4, .ref a5])), (a2, soF a6 a7 r), (a6, soV y r), (a7, soW y r), (a3, soF a8 a9 rc), (a8, soV y rc), (a9, soW y rc)] zh) := by
  refine vx_ofW (cc := cX5_life) (maxL := 2) (ret := (some .int)) (by decide) rfl ?_
  intro p e s m args below meth c s₁ B hml htab hv
  obtain ⟨⟨rfl, hsz, hP, hE, hD⟩, hXE, hXZ⟩ := hv
  have hx := B.exec
  have hb := B.bytes
  have hr := B.returns
  have hts := atoms_spec (ws := wsX5_life) B.pre
  have hown : s.vm.findClass RX5 = some m.cls := findClass_of_methodNamed B.named
  have hlocks := B.notSynchronized
  have w_0 := hts (.fieldLink RX5 23 "GapLines" "copy" "LGapLines$State;") (List.mem_cons_of_mem _ (List.mem_append_left _ (List.mem_append_left _ (List.mem_append_left _ (List.mem_append_left _ (List.mem_of_getElem? (i := 0) rfl))))))
  have hi5 : ∀ w ∈ u_ws RX5 TX5 5, w ∈ wsX5_life := fun w h => (List.mem_cons_of_mem _ (List.mem_append_left _ (List.mem_append_left _ (List.mem_append_right _ h))))
  have w_2 := hts (.fieldLink RX5 19 "GapLines" "state" "LGapLines$State;") (List.mem_cons_of_mem _ (List.mem_append_left _ (List.mem_append_left _ (List.mem_append_left _ (List.mem_append_left _ (List.mem_of_getElem? (i := 1) rfl))))))
  subst hsz
  have hD := hD.self (sz := s.heap.size)
  generalize hAe : va_A [(a0, .inr (4, [.ref a1, .ref a2, .ref a3, .ref a4, .ref a5])), (a2, soF a6 a7 r), (a6, soV y r), (a7, soW y r), (a3, soF a8 a9 rc), (a8, soV y rc), (a9, soW y rc)] s.heap.size = A at hD hXZ ⊢
  have hA : ∀ q : Nat, s.heap.size ≤ q → A q := fun q h => by rw [← hAe]; exact Or.inr h
  have hS : va_S A s.heap s.heap [] := va_S.rf
  have hl := lv_entry ([.ref a0, .int p0]) (n := 2) (Nat.le_of_ble_eq_true rfl)
  rw [lg_entry_eq]
  generalize (lg_sl ([.ref a0, .int p0]) ++ List.replicate (2 - (lg_sl ([.ref a0, .int p0])).length) Slot.unset).toArray = ls at hl ⊢
  have hl : lv_has ls 2 [(0, .ref a0), (1, .int p0)] := hl
  have hF := f_X5_life_s r rc p0
  refine lv_aload_n hx hb dX5_life_0 rfl (lv_at hl 0 rfl) ?_
  refine lv_iload_n hx hb dX5_life_1 rfl (lv_at hl 1 rfl) ?_
  refine xq_call (vx_runV (As := [.int p0]) (rest := []) ⟨hx, hb, hml, hown, hts⟩ (c_X5_requireLine l hst D y a0 a1 a2 a3 a4 a5 a6 a7 s.heap.size r p0) (cwV 1 hts gX5_life_X5_requireLine rfl rfl rfl hd_X5_requireLine ⟨Nat.le_of_ble_eq_true rfl, Nat.le_of_ble_eq_true rfl⟩) (xV (q := (RX5, TX5, 5)) hE hXE hXZ hS hA (hP.sub [0, 1, 2, 3] rfl) (hD.sub [0, 1, 2, 3] (by decide) rfl) 0 rfl rfl) rfl rfl hl.1 rfl (lv_room (Nat.le_of_ble_eq_true rfl)) dX5_life_2 ⟨Nat.le_of_ble_eq_true rfl, Nat.le_of_ble_eq_true rfl⟩) hP hD hS hA [0, 1, 2, 3] rfl (by decide) (fun E3 ce4 q5 H locs h2 h2z hP hD hS h2a h2b h2c => ?_) (fun H locs h2 hP hD hS => ?_)
  · have hP : va_P D vwCl [(a0, .inr (4, [.ref a1, .ref a2, .ref a3, .ref a4, .ref a5])), (a2, soF a6 a7 r), (a6, soV y r), (a7, soW y r), (a3, soF a8 a9 rc), (a8, soV y rc), (a9, soW y rc)] H := hP
    have hD : va_D A [(a0, .inr (4, [.ref a1, .ref a2, .ref a3, .ref a4, .ref a5])), (a2, soF a6 a7 r), (a6, soV y r), (a7, soW y r), (a3, soF a8 a9 rc), (a8, soV y rc), (a9, soW y rc)] := hD
    have hF := hF.trans ((gLet_e h2).trans (if_neg h2z))
    refine vx_out (fun x hx => (htab x hx).elim) hlocks h2a h2b h2c (fun t ht hvm => ⟨rc, trivial, ⟨⟨hF, h2z⟩, ⟨by rw [ht]; exact hP, hD⟩⟩, hS.F ht⟩) hS.2.2 (Nat.le_of_ble_eq_true rfl) (Nat.le_of_ble_eq_true rfl)
  have hP : va_P D vwCl [(a0, .inr (4, [.ref a1, .ref a2, .ref a3, .ref a4, .ref a5])), (a2, soF a6 a7 r), (a6, soV y r), (a7, soW y r), (a3, soF a8 a9 rc), (a8, soV y rc), (a9, soW y rc)] H := hP
  have hD : va_D A [(a0, .inr (4, [.ref a1, .ref a2, .ref a3, .ref a4, .ref a5])), (a2, soF a6 a7 r), (a6, soV y r), (a7, soW y r), (a3, soF a8 a9 rc), (a8, soV y rc), (a9, soW y rc)] := hD
  have hF := hF.trans ((gLet_e h2).trans (if_pos rfl))
  refine lv_aload_n hx hb dX5_life_5 rfl (lv_at hl 0 rfl) ?_
  refine va_get (D := D) (ci := 4) (v := .ref a3) (C := RX5) (T := TX5) (N := 5) hx hb hts hi5 hown hE.1 hP 0 rfl rfl 2 (by decide) w_0 (fun _ h9 => h9) rfl dX5_life_6 ?_
  refine lv_aload_n hx hb dX5_life_9 rfl (lv_at hl 0 rfl) ?_
  refine va_get (D := D) (ci := 4) (v := .ref a2) (C := RX5) (T := TX5) (N := 5) hx hb hts hi5 hown hE.1 hP 0 rfl rfl 1 (by decide) w_2 (fun _ h9 => h9) rfl dX5_life_10 ?_
  refine xw_callv (va_runV (As := [.ref a2]) (rest := []) ⟨hx, hb, hml, hown, hts⟩ (c_X3_copyFrom l D y a3 a8 a9 a2 a6 a7 H.size rc r ho) (cwV 1 hts gX5_life_X3_copyFrom rfl rfl rfl hd_X3_copyFrom ⟨Nat.le_of_ble_eq_true rfl, Nat.le_of_ble_eq_true rfl⟩) (gV (q := (RX3, TX3, 15)) hE (hP.sub [4, 5, 6, 1, 2, 3] rfl) (hD.sub [4, 5, 6, 1, 2, 3] (by decide) rfl) 0 rfl rfl) rfl rfl hl.1 rfl (lv_room (Nat.le_of_ble_eq_true rfl)) dX5_life_13 ⟨Nat.le_of_ble_eq_true rfl, Nat.le_of_ble_eq_true rfl⟩) hP hD hS hA [4, 5, 6, 1, 2, 3] rfl (by decide) (fun _ => rfl) (fun u7 H locs h6 hP hD hS => ?_)
  obtain rfl : r = u7 := h6
  have hP : va_P D vwCl [(a0, .inr (4, [.ref a1, .ref a2, .ref a3, .ref a4, .ref a5])), (a2, soF a6 a7 r), (a6, soV y r), (a7, soW y r), (a3, soF a8 a9 r), (a8, soV y r), (a9, soW y r)] H := hP
  have hD : va_D A [(a0, .inr (4, [.ref a1, .ref a2, .ref a3, .ref a4, .ref a5])), (a2, soF a6 a7 r), (a6, soV y r), (a7, soW y r), (a3, soF a8 a9 r), (a8, soV y r), (a9, soW y r)] := hD
  refine lv_aload_n hx hb dX5_life_16 rfl (lv_at hl 0 rfl) ?_
  refine va_get (D := D) (ci := 4) (v := .ref a3) (C := RX5) (T := TX5) (N := 5) hx hb hts hi5 hown hE.1 hP 0 rfl rfl 2 (by decide) w_0 (fun _ h9 => h9) rfl dX5_life_17 ?_
  refine lv_iload_n hx hb dX5_life_20 rfl (lv_at hl 1 rfl) ?_
  refine lv_sipush (v := 2000) hx hb dX5_life_21 (by decide) ?_
  refine xw_calli (va_runV (As := [.int p0, .int 2000]) (rest := []) ⟨hx, hb, hml, hown, hts⟩ (c_X3_hammerLine l D y a3 a8 a9 H.size r p0 2000 ho) (cwV 2 hts gX5_life_X3_hammerLine rfl rfl rfl hd_X3_hammerLine ⟨Nat.le_of_ble_eq_true rfl, Nat.le_of_ble_eq_true rfl⟩) (gV (q := (RX3, TX3, 15)) hE (hP.sub [4, 5, 6] rfl) (hD.sub [4, 5, 6] (by decide) rfl) 0 rfl rfl) rfl rfl hl.1 rfl (lv_room (Nat.le_of_ble_eq_true rfl)) dX5_life_24 ⟨Nat.le_of_ble_eq_true rfl, Nat.le_of_ble_eq_true rfl⟩) hP hD hS hA [4, 5, 6] rfl (by decide) (fun _ => rfl) (fun v10 u9 H locs h8 hP hD hS => ?_)
  obtain ⟨q11, eq11⟩ : ∃ z : Int32 × gR, f_X3_hammerLine r p0 2000 = z := ⟨_, rfl⟩
  obtain ⟨rfl, rfl⟩ : q11.1 = v10 ∧ q11.2 = u9 := ⟨by rw [← eq11, h8], by rw [← eq11, h8]⟩
  have hF := hF.trans (gLet_e eq11)
  have hP : va_P D vwCl [(a0, .inr (4, [.ref a1, .ref a2, .ref a3, .ref a4, .ref a5])), (a2, soF a6 a7 r), (a6, soV y r), (a7, soW y r), (a3, soF a8 a9 q11.2), (a8, soV y q11.2), (a9, soW y q11.2)] H := hP
  have hD : va_D A [(a0, .inr (4, [.ref a1, .ref a2, .ref a3, .ref a4, .ref a5])), (a2, soF a6 a7 r), (a6, soV y r), (a7, soW y r), (a3, soF a8 a9 q11.2), (a8, soV y q11.2), (a9, soW y q11.2)] := hD
  refine W.widen (k := 2) (n := 12) (Nat.le_of_ble_eq_true rfl) (Nat.le_of_ble_eq_true rfl) ?_
  refine vx_ret ?_
  exact W.iret (v := q11.1) hx hb hr (fun t ht hW => ⟨⟨q11.1, q11.2, rfl, hF, ⟨by rw [ht]; exact hP, hD⟩⟩, hS.F ht⟩) hS.2.2 dX5_life_27

def f_X5_lifeOfAll (r : gR) (rc : gR) : Nat × Int32 × gR :=
    gLet (f_X5_requireStore r) (fun (n1 : Nat) =>
    if n1 = 0 then
      gLet (f_X3_writeInTurn r 4000) (fun (q11 : Int32 × gR) =>
        (0, q11.1, q11.2))
    else
      (n1, 0, rc))
theorem f_X5_lifeOfAll_s (r : gR) (rc : gR) : f_X5_lifeOfAll r rc =
    (gLet (f_X5_requireStore r) (fun (n1 : Nat) =>
    if n1 = 0 then
      gLet (f_X3_writeInTurn r 4000) (fun (q11 : Int32 × gR) =>
        (0, q11.1, q11.2))
    else
      (n1, 0, rc))) := rfl
theorem hd_X5_lifeOfAll : yX5_lifeOfAll.cls = RX5 ∧ yX5_lifeOfAll.cls ≠ "java/lang/invoke/MethodHandle" ∧ yX5_lifeOfAll.cls ≠ "java/lang/invoke/VarHandle" ∧ (parseMethodDescriptor yX5_lifeOfAll.desc).map (fun d => d.parameters.length) = some 0 := by decide +kernel
set_option maxHeartbeats 4000000 in
set_option maxRecDepth 100000 in
theorem c_X5_lifeOfAll (l : Launch) (hst : l.stackTraces = false) (D : va_G) (y : Nat → ClassId) (a0 a1 a2 a3 a4 a5 a6 a7 a8 a9 : Nat) (zh : Nat) (r : gR) (rc : gR) (ho : okC r) : vx_Met l yX5_lifeOfAll wsX5_lifeOfAll ({ frames := 7, cells := 2, slots := 12, locals := 102 }) (xP D y [.ref a0] zh [(a0, .inr (4, [.ref a1, .ref a2, .ref a3, .ref a4, .ref a5])), (a2, soF a6 a7 r), (a6, soV y r), (a7, soW y r), (a3, soF a8 a9 rc), (a8, soV y rc), (a9, soW y rc)]) (va_Qi (fun (v : Int32) (u : gR) => f_X5_lifeOfAll r rc = (0, v, u)) (fun (u : gR) t => va_P D vwCl [(a0, .inr (4, [.ref a1, .ref a2, .ref a3, .ref a4, .ref a5])), (a2, soF a6 a7 r), (a6, soV y r), (a7, soW y r), (a3, soF a8 a9 u), (a8, soV y u), (a9, soW y u)] t.heap ∧ va_D (va_A [(a0, .inr (4, [.ref a1, .ref a2, .ref a3, .ref a4, .ref a5])), (a2, soF a6 a7 r), (a6, soV y r), (a7, soW y r), (a3, soF a8 a9 rc), (a8, soV y rc), (a9, soW y rc)] zh) [(a0, .inr (4, [.ref a1, .ref a2, .ref a3, .ref a4, .ref a5])), (a2, soF a6 a7 r), (a6, soV y r), (a7, soW y r), (a3, soF a8 a9 u), (a8, soV y u), (a9, soW y u)]) (va_A [(a0, .inr (4, [.ref a1, .ref a2, .ref a3, .ref a4, .ref a5])), (a2, soF a6 a7 r), (a6, soV y r), (a7, soW y r), (a3, soF a8 a9 rc), (a8, soV y rc), (a9, soW y rc)] zh)) (vx_X (fun _ : gR => True) (fun (E : String) (u : gR) t => (f_X5_lifeOfAll r rc = (xc E, 0, u) ∧ xc E ≠ 0) ∧ (va_P D vwCl [(a0, .inr (4, [.ref a1, .ref a2, .ref a3, .ref a4, .ref a5])), (a2, soF a6 a7 r), (a6, soV y r), (a7, soW y r), (a3, soF a8 a9 u), (a8, soV y u), (a9, soW y u)] t.heap ∧ va_D (va_A [(a0, .inr (4, [.ref a1, .ref a2, .ref a3, .ref a4, .ref a5])), (a2, soF a6 a7 r), (a6, soV y r), (a7, soW y r), (a3, soF a8 a9 rc), (a8, soV y rc), (a9, soW y rc)] zh) [(a0, .inr (4, [.ref a1, .ref a2, .ref a3, .ref a4, .ref a5])), (a2, soF a6 a7 r), (a6, soV y r), (a7, soW y r), (a3, soF a8 a9 u), (a8, soV y u), (a9, soW y u)])) (va_A [(a0, .inr (4, [.ref a1, .ref a2, .ref a3, .ref a4, .ref a5])), (a2, soF a6 a7 r), (a6, soV y r), (a7, soW y r), (a3, soF a8 a9 rc), (a8, soV y rc), (a9, soW y rc)] zh)) 2 12 (va_A [(a0, .inr (4, [.ref a1, .ref a2, .ref a3, .ref a4, .ref a5])), (a2, soF a6 a7 r), (a6, soV y r), (a7, soW y r), (a3, soF a8 a9 rc), (a8, soV y rc), (a9, soW y rc)] zh) := by
  refine vx_ofW (cc := cX5_lifeOfAll) (maxL := 1) (ret := (some .int)) (by decide) rfl ?_
  intro p e s m args below meth c s₁ B hml htab hv
  obtain ⟨⟨rfl, hsz, hP, hE, hD⟩, hXE, hXZ⟩ := hv
  have hx := B.exec
  have hb := B.bytes
  have hr := B.returns
  have hts := atoms_spec (ws := wsX5_lifeOfAll) B.pre
  have hown : s.vm.findClass RX5 = some m.cls := findClass_of_methodNamed B.named
  have hlocks := B.notSynchronized
  have w_0 := hts (.fieldLink RX5 23 "GapLines" "copy" "LGapLines$State;") (List.mem_cons_of_mem _ (List.mem_append_left _ (List.mem_append_left _ (List.mem_append_left _ (List.mem_append_left _ (List.mem_of_getElem? (i := 0) rfl))))))
  have hi5 : ∀ w ∈ u_ws RX5 TX5 5, w ∈ wsX5_lifeOfAll := fun w h => (List.mem_cons_of_mem _ (List.mem_append_left _ (List.mem_append_left _ (List.mem_append_right _ h))))
  have w_2 := hts (.fieldLink RX5 19 "GapLines" "state" "LGapLines$State;") (List.mem_cons_of_mem _ (List.mem_append_left _ (List.mem_append_left _ (List.mem_append_left _ (List.mem_append_left _ (List.mem_of_getElem? (i := 1) rfl))))))
  subst hsz
  have hD := hD.self (sz := s.heap.size)
  generalize hAe : va_A [(a0, .inr (4, [.ref a1, .ref a2, .ref a3, .ref a4, .ref a5])), (a2, soF a6 a7 r), (a6, soV y r), (a7, soW y r), (a3, soF a8 a9 rc), (a8, soV y rc), (a9, soW y rc)] s.heap.size = A at hD hXZ ⊢
  have hA : ∀ q : Nat, s.heap.size ≤ q → A q := fun q h => by rw [← hAe]; exact Or.inr h
  have hS : va_S A s.heap s.heap [] := va_S.rf
  have hl := lv_entry ([.ref a0]) (n := 1) (Nat.le_of_ble_eq_true rfl)
  rw [lg_entry_eq]
  generalize (lg_sl ([.ref a0]) ++ List.replicate (1 - (lg_sl ([.ref a0])).length) Slot.unset).toArray = ls at hl ⊢
  have hl : lv_has ls 1 [(0, .ref a0)] := hl
  have hF := f_X5_lifeOfAll_s r rc
  refine lv_aload_n hx hb dX5_lifeOfAll_0 rfl (lv_at hl 0 rfl) ?_
  refine xq_call (vx_runV (As := []) (rest := []) ⟨hx, hb, hml, hown, hts⟩ (c_X5_requireStore l hst D y a0 a1 a2 a3 a4 a5 a6 a7 s.heap.size r) (cwV 0 hts gX5_lifeOfAll_X5_requireStore rfl rfl rfl hd_X5_requireStore ⟨Nat.le_of_ble_eq_true rfl, Nat.le_of_ble_eq_true rfl⟩) (xV (q := (RX5, TX5, 5)) hE hXE hXZ hS hA (hP.sub [0, 1, 2, 3] rfl) (hD.sub [0, 1, 2, 3] (by decide) rfl) 0 rfl rfl) rfl rfl hl.1 rfl (lv_room (Nat.le_of_ble_eq_true rfl)) dX5_lifeOfAll_1 ⟨Nat.le_of_ble_eq_true rfl, Nat.le_of_ble_eq_true rfl⟩) hP hD hS hA [0, 1, 2, 3] rfl (by decide) (fun E3 ce4 q5 H locs h2 h2z hP hD hS h2a h2b h2c => ?_) (fun H locs h2 hP hD hS => ?_)
  · have hP : va_P D vwCl [(a0, .inr (4, [.ref a1, .ref a2, .ref a3, .ref a4, .ref a5])), (a2, soF a6 a7 r), (a6, soV y r), (a7, soW y r), (a3, soF a8 a9 rc), (a8, soV y rc), (a9, soW y rc)] H := hP
    have hD : va_D A [(a0, .inr (4, [.ref a1, .ref a2, .ref a3, .ref a4, .ref a5])), (a2, soF a6 a7 r), (a6, soV y r), (a7, soW y r), (a3, soF a8 a9 rc), (a8, soV y rc), (a9, soW y rc)] := hD
    have hF := hF.trans ((gLet_e h2).trans (if_neg h2z))
    refine vx_out (fun x hx => (htab x hx).elim) hlocks h2a h2b h2c (fun t ht hvm => ⟨rc, trivial, ⟨⟨hF, h2z⟩, ⟨by rw [ht]; exact hP, hD⟩⟩, hS.F ht⟩) hS.2.2 (Nat.le_of_ble_eq_true rfl) (Nat.le_of_ble_eq_true rfl)
  have hP : va_P D vwCl [(a0, .inr (4, [.ref a1, .ref a2, .ref a3, .ref a4, .ref a5])), (a2, soF a6 a7 r), (a6, soV y r), (a7, soW y r), (a3, soF a8 a9 rc), (a8, soV y rc), (a9, soW y rc)] H := hP
  have hD : va_D A [(a0, .inr (4, [.ref a1, .ref a2, .ref a3, .ref a4, .ref a5])), (a2, soF a6 a7 r), (a6, soV y r), (a7, soW y r), (a3, soF a8 a9 rc), (a8, soV y rc), (a9, soW y rc)] := hD
  have hF := hF.trans ((gLet_e h2).trans (if_pos rfl))
  refine lv_aload_n hx hb dX5_lifeOfAll_4 rfl (lv_at hl 0 rfl) ?_
  refine va_get (D := D) (ci := 4) (v := .ref a3) (C := RX5) (T := TX5) (N := 5) hx hb hts hi5 hown hE.1 hP 0 rfl rfl 2 (by decide) w_0 (fun _ h9 => h9) rfl dX5_lifeOfAll_5 ?_
  refine lv_aload_n hx hb dX5_lifeOfAll_8 rfl (lv_at hl 0 rfl) ?_
  refine va_get (D := D) (ci := 4) (v := .ref a2) (C := RX5) (T := TX5) (N := 5) hx hb hts hi5 hown hE.1 hP 0 rfl rfl 1 (by decide) w_2 (fun _ h9 => h9) rfl dX5_lifeOfAll_9 ?_
  refine xw_callv (va_runV (As := [.ref a2]) (rest := []) ⟨hx, hb, hml, hown, hts⟩ (c_X3_copyFrom l D y a3 a8 a9 a2 a6 a7 H.size rc r ho) (cwV 1 hts gX5_lifeOfAll_X3_copyFrom rfl rfl rfl hd_X3_copyFrom ⟨Nat.le_of_ble_eq_true rfl, Nat.le_of_ble_eq_true rfl⟩) (gV (q := (RX3, TX3, 15)) hE (hP.sub [4, 5, 6, 1, 2, 3] rfl) (hD.sub [4, 5, 6, 1, 2, 3] (by decide) rfl) 0 rfl rfl) rfl rfl hl.1 rfl (lv_room (Nat.le_of_ble_eq_true rfl)) dX5_lifeOfAll_12 ⟨Nat.le_of_ble_eq_true rfl, Nat.le_of_ble_eq_true rfl⟩) hP hD hS hA [4, 5, 6, 1, 2, 3] rfl (by decide) (fun _ => rfl) (fun u7 H locs h6 hP hD hS => ?_)
  obtain rfl : r = u7 := h6
  have hP : va_P D vwCl [(a0, .inr (4, [.ref a1, .ref a2, .ref a3, .ref a4, .ref a5])), (a2, soF a6 a7 r), (a6, soV y r), (a7, soW y r), (a3, soF a8 a9 r), (a8, soV y r), (a9, soW y r)] H := hP
  have hD : va_D A [(a0, .inr (4, [.ref a1, .ref a2, .ref a3, .ref a4, .ref a5])), (a2, soF a6 a7 r), (a6, soV y r), (a7, soW y r), (a3, soF a8 a9 r), (a8, soV y r), (a9, soW y r)] := hD
  refine lv_aload_n hx hb dX5_lifeOfAll_15 rfl (lv_at hl 0 rfl) ?_
  refine va_get (D := D) (ci := 4) (v := .ref a3) (C := RX5) (T := TX5) (N := 5) hx hb hts hi5 hown hE.1 hP 0 rfl rfl 2 (by decide) w_0 (fun _ h9 => h9) rfl dX5_lifeOfAll_16 ?_
  refine lv_sipush (v := 4000) hx hb dX5_lifeOfAll_19 (by decide) ?_
  refine xw_calli (va_runV (As := [.int 4000]) (rest := []) ⟨hx, hb, hml, hown, hts⟩ (c_X3_writeInTurn l D y a3 a8 a9 H.size r 4000 ho) (cwV 1 hts gX5_lifeOfAll_X3_writeInTurn rfl rfl rfl hd_X3_writeInTurn ⟨Nat.le_of_ble_eq_true rfl, Nat.le_of_ble_eq_true rfl⟩) (gV (q := (RX3, TX3, 15)) hE (hP.sub [4, 5, 6] rfl) (hD.sub [4, 5, 6] (by decide) rfl) 0 rfl rfl) rfl rfl hl.1 rfl (lv_room (Nat.le_of_ble_eq_true rfl)) dX5_lifeOfAll_22 ⟨Nat.le_of_ble_eq_true rfl, Nat.le_of_ble_eq_true rfl⟩) hP hD hS hA [4, 5, 6] rfl (by decide) (fun _ => rfl) (fun v10 u9 H locs h8 hP hD hS => ?_)
  obtain ⟨q11, eq11⟩ : ∃ z : Int32 × gR, f_X3_writeInTurn r 4000 = z := ⟨_, rfl⟩
  obtain ⟨rfl, rfl⟩ : q11.1 = v10 ∧ q11.2 = u9 := ⟨by rw [← eq11, h8], by rw [← eq11, h8]⟩
  have hF := hF.trans (gLet_e eq11)
  have hP : va_P D vwCl [(a0, .inr (4, [.ref a1, .ref a2, .ref a3, .ref a4, .ref a5])), (a2, soF a6 a7 r), (a6, soV y r), (a7, soW y r), (a3, soF a8 a9 q11.2), (a8, soV y q11.2), (a9, soW y q11.2)] H := hP
  have hD : va_D A [(a0, .inr (4, [.ref a1, .ref a2, .ref a3, .ref a4, .ref a5])), (a2, soF a6 a7 r), (a6, soV y r), (a7, soW y r), (a3, soF a8 a9 q11.2), (a8, soV y q11.2), (a9, soW y q11.2)] := hD
  refine W.widen (k := 2) (n := 12) (Nat.le_of_ble_eq_true rfl) (Nat.le_of_ble_eq_true rfl) ?_
  refine vx_ret ?_
  exact W.iret (v := q11.1) hx hb hr (fun t ht hW => ⟨⟨q11.1, q11.2, rfl, hF, ⟨by rw [ht]; exact hP, hD⟩⟩, hS.F ht⟩) hS.2.2 dX5_lifeOfAll_25

def f_X5_wearIfEvery (r : gR) (rc : gR) (p0 : Int32) (p1 : Int32) (p2 : Int32) : Int32 × gR :=
    gLet (f_X3_hammerLine (upd r 12 p1) p0 p2) (fun (q6 : Int32 × gR) =>
    gLet (f_X3_greatestWear q6.2) (fun (v8 : Int32) =>
      (v8, q6.2)))
theorem f_X5_wearIfEvery_s (r : gR) (rc : gR) (p0 : Int32) (p1 : Int32) (p2 : Int32) : f_X5_wearIfEvery r rc p0 p1 p2 =
    (gLet (f_X3_hammerLine (upd r 12 p1) p0 p2) (fun (q6 : Int32 × gR) =>
    gLet (f_X3_greatestWear q6.2) (fun (v8 : Int32) =>
      (v8, q6.2)))) := rfl
theorem hd_X5_wearIfEvery : yX5_wearIfEvery.cls = RX5 ∧ yX5_wearIfEvery.cls ≠ "java/lang/invoke/MethodHandle" ∧ yX5_wearIfEvery.cls ≠ "java/lang/invoke/VarHandle" ∧ (parseMethodDescriptor yX5_wearIfEvery.desc).map (fun d => d.parameters.length) = some 3 := by decide +kernel
set_option maxHeartbeats 4000000 in
set_option maxRecDepth 100000 in
theorem c_X5_wearIfEvery (l : Launch) (D : va_G) (y : Nat → ClassId) (a0 a1 a2 a3 a4 a5 a6 a7 a8 a9 : Nat) (zh : Nat) (r : gR) (rc : gR) (p0 : Int32) (p1 : Int32) (p2 : Int32) (ho : okC r) : Met l yX5_wearIfEvery wsX5_wearIfEvery ({ frames := 4, cells := 0, slots := 0, locals := 90 }) (gP D y [.ref a0, .int p0, .int p1, .int p2] zh [(a0, .inr (4, [.ref a1, .ref a2, .ref a3, .ref a4, .ref a5])), (a2, soF a6 a7 r), (a6, soV y r), (a7, soW y r), (a3, soF a8 a9 rc), (a8, soV y rc), (a9, soW y rc)]) (va_Qi (fun (v : Int32) (u : gR) => f_X5_wearIfEvery r rc p0 p1 p2 = (v, u)) (fun (u : gR) t => va_P D vwCl [(a0, .inr (4, [.ref a1, .ref a2, .ref a3, .ref a4, .ref a5])), (a2, soF a6 a7 r), (a6, soV y r), (a7, soW y r), (a3, soF a8 a9 u), (a8, soV y u), (a9, soW y u)] t.heap ∧ va_D (va_A [(a0, .inr (4, [.ref a1, .ref a2, .ref a3, .ref a4, .ref a5])), (a2, soF a6 a7 r), (a6, soV y r), (a7, soW y r), (a3, soF a8 a9 rc), (a8, soV y rc), (a9, soW y rc)] zh) [(a0, .inr (4, [.ref a1, .ref a2, .ref a3, .ref a4, .ref a5])), (a2, soF a6 a7 r), (a6, soV y r), (a7, soW y r), (a3, soF a8 a9 u), (a8, soV y u), (a9, soW y u)]) (va_A [(a0, .inr (4, [.ref a1, .ref a2, .ref a3, .ref a4, .ref a5])), (a2, soF a6 a7 r), (a6, soV y r), (a7, soW y r), (a3, soF a8 a9 rc), (a8, soV y rc), (a9, soW y rc)] zh)) 0 0 (va_A [(a0, .inr (4, [.ref a1, .ref a2, .ref a3, .ref a4, .ref a5])), (a2, soF a6 a7 r), (a6, soV y r), (a7, soW y r), (a3, soF a8 a9 rc), (a8, soV y rc), (a9, soW y rc)] zh) := by
  refine Met.ofW (cc := cX5_wearIfEvery) (maxL := 4) (ret := (some .int)) (by decide) rfl ?_
  intro p e s m args below meth c s₁ B hml hv
  obtain ⟨rfl, hsz, hP, hE, hD⟩ := hv
  have hx := B.exec
  have hb := B.bytes
  have hr := B.returns
  have hts := atoms_spec (ws := wsX5_wearIfEvery) B.pre
  have hown : s.vm.findClass RX5 = some m.cls := findClass_of_methodNamed B.named
  have hlocks := B.notSynchronized
  have w_0 := hts (.fieldLink RX5 23 "GapLines" "copy" "LGapLines$State;") (List.mem_cons_of_mem _ (List.mem_append_left _ (List.mem_append_left _ (List.mem_append_left _ (List.mem_of_getElem? (i := 0) rfl)))))
  have hi5 : ∀ w ∈ u_ws RX5 TX5 5, w ∈ wsX5_wearIfEvery := fun w h => (List.mem_cons_of_mem _ (List.mem_append_left _ (List.mem_append_right _ h)))
  have w_2 := hts (.fieldLink RX5 19 "GapLines" "state" "LGapLines$State;") (List.mem_cons_of_mem _ (List.mem_append_left _ (List.mem_append_left _ (List.mem_append_left _ (List.mem_of_getElem? (i := 1) rfl)))))
  have w_3 := hts (.fieldLink RX5 276 "GapLines$State" "every" "I") (List.mem_cons_of_mem _ (List.mem_append_left _ (List.mem_append_left _ (List.mem_append_left _ (List.mem_of_getElem? (i := 2) rfl)))))
  have hi3 : ∀ w ∈ u_ws RX3 TX3 15, w ∈ wsX5_wearIfEvery := fun w h => (List.mem_cons_of_mem _ (List.mem_append_right _ h))
  subst hsz
  have hD := hD.self (sz := s.heap.size)
  generalize hAe : va_A [(a0, .inr (4, [.ref a1, .ref a2, .ref a3, .ref a4, .ref a5])), (a2, soF a6 a7 r), (a6, soV y r), (a7, soW y r), (a3, soF a8 a9 rc), (a8, soV y rc), (a9, soW y rc)] s.heap.size = A at hD ⊢
  have hA : ∀ q : Nat, s.heap.size ≤ q → A q := fun q h => by rw [← hAe]; exact Or.inr h
  have hS : va_S A s.heap s.heap [] := va_S.rf
  have hl := lv_entry ([.ref a0, .int p0, .int p1, .int p2]) (n := 4) (Nat.le_of_ble_eq_true rfl)
  rw [lg_entry_eq]
  generalize (lg_sl ([.ref a0, .int p0, .int p1, .int p2]) ++ List.replicate (4 - (lg_sl ([.ref a0, .int p0, .int p1, .int p2])).length) Slot.unset).toArray = ls at hl ⊢
  have hl : lv_has ls 4 [(0, .ref a0), (1, .int p0), (2, .int p1), (3, .int p2)] := hl
  have hF := f_X5_wearIfEvery_s r rc p0 p1 p2
  refine lv_aload_n hx hb dX5_wearIfEvery_0 rfl (lv_at hl 0 rfl) ?_
  refine va_get (D := D) (ci := 4) (v := .ref a3) (C := RX5) (T := TX5) (N := 5) hx hb hts hi5 hown hE.1 hP 0 rfl rfl 2 (by decide) w_0 (fun _ h9 => h9) rfl dX5_wearIfEvery_1 ?_
  refine lv_aload_n hx hb dX5_wearIfEvery_4 rfl (lv_at hl 0 rfl) ?_
  refine va_get (D := D) (ci := 4) (v := .ref a2) (C := RX5) (T := TX5) (N := 5) hx hb hts hi5 hown hE.1 hP 0 rfl rfl 1 (by decide) w_2 (fun _ h9 => h9) rfl dX5_wearIfEvery_5 ?_
  refine xw_callv (va_runV (As := [.ref a2]) (rest := []) ⟨hx, hb, hml, hown, hts⟩ (c_X3_copyFrom l D y a3 a8 a9 a2 a6 a7 s.heap.size rc r ho) (cwV 1 hts gX5_wearIfEvery_X3_copyFrom rfl rfl rfl hd_X3_copyFrom ⟨Nat.le_of_ble_eq_true rfl, Nat.le_of_ble_eq_true rfl⟩) (gV (q := (RX3, TX3, 15)) hE (hP.sub [4, 5, 6, 1, 2, 3] rfl) (hD.sub [4, 5, 6, 1, 2, 3] (by decide) rfl) 0 rfl rfl) rfl rfl hl.1 rfl (lv_room (Nat.le_of_ble_eq_true rfl)) dX5_wearIfEvery_8 ⟨Nat.le_of_ble_eq_true rfl, Nat.le_of_ble_eq_true rfl⟩) hP hD hS hA [4, 5, 6, 1, 2, 3] rfl (by decide) (fun _ => rfl) (fun u2 H locs h1 hP hD hS => ?_)
  obtain rfl : r = u2 := h1
  have hP : va_P D vwCl [(a0, .inr (4, [.ref a1, .ref a2, .ref a3, .ref a4, .ref a5])), (a2, soF a6 a7 r), (a6, soV y r), (a7, soW y r), (a3, soF a8 a9 r), (a8, soV y r), (a9, soW y r)] H := hP
  have hD : va_D A [(a0, .inr (4, [.ref a1, .ref a2, .ref a3, .ref a4, .ref a5])), (a2, soF a6 a7 r), (a6, soV y r), (a7, soW y r), (a3, soF a8 a9 r), (a8, soV y r), (a9, soW y r)] := hD
  refine lv_aload_n hx hb dX5_wearIfEvery_11 rfl (lv_at hl 0 rfl) ?_
  refine va_get (D := D) (ci := 4) (v := .ref a3) (C := RX5) (T := TX5) (N := 5) hx hb hts hi5 hown hE.1 hP 0 rfl rfl 2 (by decide) w_0 (fun _ h9 => h9) rfl dX5_wearIfEvery_12 ?_
  refine lv_iload_n hx hb dX5_wearIfEvery_15 rfl (lv_at hl 2 rfl) ?_
  refine va_put (D := D) (ci := 2) (v := .int p1) (ty := .int) (C := RX3) (T := TX3) (N := 15) hx hb hts hi3 tyX3 tyX3_ok nmX3 hown hE.1 hP hD hS 4 rfl rfl 12 (by decide) w_3 (fun _ h9 => h9) rfl (by decide +kernel) rfl rfl (Nat.le_of_ble_eq_true rfl) dX5_wearIfEvery_16 (fun H locs hP hD hS => ?_)
  have hP : va_P D vwCl [(a0, .inr (4, [.ref a1, .ref a2, .ref a3, .ref a4, .ref a5])), (a2, soF a6 a7 r), (a6, soV y r), (a7, soW y r), (a3, soF a8 a9 (upd r 12 p1)), (a8, soV y (upd r 12 p1)), (a9, soW y (upd r 12 p1))] H := by rw [so_v0 y r (j := 12) (by decide), so_w0 y r (j := 12) (by decide)]; exact hP
  have hD : va_D A [(a0, .inr (4, [.ref a1, .ref a2, .ref a3, .ref a4, .ref a5])), (a2, soF a6 a7 r), (a6, soV y r), (a7, soW y r), (a3, soF a8 a9 (upd r 12 p1)), (a8, soV y (upd r 12 p1)), (a9, soW y (upd r 12 p1))] := by rw [so_v0 y r (j := 12) (by decide), so_w0 y r (j := 12) (by decide)]; exact hD
  refine lv_aload_n hx hb dX5_wearIfEvery_19 rfl (lv_at hl 0 rfl) ?_
  refine va_get (D := D) (ci := 4) (v := .ref a3) (C := RX5) (T := TX5) (N := 5) hx hb hts hi5 hown hE.1 hP 0 rfl rfl 2 (by decide) w_0 (fun _ h9 => h9) rfl dX5_wearIfEvery_20 ?_
  refine lv_iload_n hx hb dX5_wearIfEvery_23 rfl (lv_at hl 1 rfl) ?_
  refine lv_iload_n hx hb dX5_wearIfEvery_24 rfl (lv_at hl 3 rfl) ?_
  refine xw_calli (va_runV (As := [.int p0, .int p2]) (rest := []) ⟨hx, hb, hml, hown, hts⟩ (c_X3_hammerLine l D y a3 a8 a9 H.size (upd r 12 p1) p0 p2 (ok_upd (by omega) ho)) (cwV 2 hts gX5_wearIfEvery_X3_hammerLine rfl rfl rfl hd_X3_hammerLine ⟨Nat.le_of_ble_eq_true rfl, Nat.le_of_ble_eq_true rfl⟩) (gV (q := (RX3, TX3, 15)) hE (hP.sub [4, 5, 6] rfl) (hD.sub [4, 5, 6] (by decide) rfl) 0 rfl rfl) rfl rfl hl.1 rfl (lv_room (Nat.le_of_ble_eq_true rfl)) dX5_wearIfEvery_25 ⟨Nat.le_of_ble_eq_true rfl, Nat.le_of_ble_eq_true rfl⟩) hP hD hS hA [4, 5, 6] rfl (by decide) (fun _ => rfl) (fun v5 u4 H locs h3 hP hD hS => ?_)
  obtain ⟨q6, eq6⟩ : ∃ z : Int32 × gR, f_X3_hammerLine (upd r 12 p1) p0 p2 = z := ⟨_, rfl⟩
  obtain ⟨rfl, rfl⟩ : q6.1 = v5 ∧ q6.2 = u4 := ⟨by rw [← eq6, h3], by rw [← eq6, h3]⟩
  have hF := hF.trans (gLet_e eq6)
  have hP : va_P D vwCl [(a0, .inr (4, [.ref a1, .ref a2, .ref a3, .ref a4, .ref a5])), (a2, soF a6 a7 r), (a6, soV y r), (a7, soW y r), (a3, soF a8 a9 q6.2), (a8, soV y q6.2), (a9, soW y q6.2)] H := hP
  have hD : va_D A [(a0, .inr (4, [.ref a1, .ref a2, .ref a3, .ref a4, .ref a5])), (a2, soF a6 a7 r), (a6, soV y r), (a7, soW y r), (a3, soF a8 a9 q6.2), (a8, soV y q6.2), (a9, soW y q6.2)] := hD
  refine lv_pop hx hb dX5_wearIfEvery_28 rfl ?_
  refine lv_aload_n hx hb dX5_wearIfEvery_29 rfl (lv_at hl 0 rfl) ?_
  refine va_get (D := D) (ci := 4) (v := .ref a3) (C := RX5) (T := TX5) (N := 5) hx hb hts hi5 hown hE.1 hP 0 rfl rfl 2 (by decide) w_0 (fun _ h9 => h9) rfl dX5_wearIfEvery_30 ?_
  refine xs_calli (va_runV (As := []) (rest := []) ⟨hx, hb, hml, hown, hts⟩ (c_X3_greatestWear l D y a3 a8 a9 H.size q6.2 (by rw [← eq6]; exact ok_X3_hammerLine _ _ _ (ok_upd (by omega) ho))) (cwV 0 hts gX5_wearIfEvery_X3_greatestWear rfl rfl rfl hd_X3_greatestWear ⟨Nat.le_of_ble_eq_true rfl, Nat.le_of_ble_eq_true rfl⟩) (gV (q := (RX3, TX3, 15)) hE (hP.sub [4, 5, 6] rfl) (hD.sub [4, 5, 6] (by decide) rfl) 0 rfl rfl) rfl rfl hl.1 rfl (lv_room (Nat.le_of_ble_eq_true rfl)) dX5_wearIfEvery_33 ⟨Nat.le_of_ble_eq_true rfl, Nat.le_of_ble_eq_true rfl⟩) (fun v8 h7 => ?_)
  have hF := hF.trans (gLet_e h7)
  exact W.iret (v := v8) hx hb hr (fun t ht hW => ⟨⟨v8, q6.2, rfl, hF, ⟨by rw [ht]; exact hP, hD⟩⟩, hS.F ht⟩) hS.2.2 dX5_wearIfEvery_36

def f_X5_ifEvery (r : gR) (rc : gR) (p0 : Int32) (p1 : Int32) (p2 : Int32) : Nat × Int32 × gR :=
    gLet (f_X5_requireLine r p0) (fun (n1 : Nat) =>
    if n1 = 0 then
      if p1 < 1 then
        (1, 0, rc)
      else
        if p1 ≤ 50 then
          gLet (f_X5_requireHammered p2) (fun (n9 : Nat) =>
            if n9 = 0 then
              gLet (f_X5_wearIfEvery r rc p0 p1 p2) (fun (q17 : Int32 × gR) =>
                (0, q17.1, q17.2))
            else
              (n9, 0, rc))
        else
          (1, 0, rc)
    else
      (n1, 0, rc))
theorem f_X5_ifEvery_s (r : gR) (rc : gR) (p0 : Int32) (p1 : Int32) (p2 : Int32) : f_X5_ifEvery r rc p0 p1 p2 =
    (gLet (f_X5_requireLine r p0) (fun (n1 : Nat) =>
    if n1 = 0 then
      if p1 < 1 then
        (1, 0, rc)
      else
        if p1 ≤ 50 then
          gLet (f_X5_requireHammered p2) (fun (n9 : Nat) =>
            if n9 = 0 then
              gLet (f_X5_wearIfEvery r rc p0 p1 p2) (fun (q17 : Int32 × gR) =>
                (0, q17.1, q17.2))
            else
              (n9, 0, rc))
        else
          (1, 0, rc)
    else
      (n1, 0, rc))) := rfl
theorem hd_X5_ifEvery : yX5_ifEvery.cls = RX5 ∧ yX5_ifEvery.cls ≠ "java/lang/invoke/MethodHandle" ∧ yX5_ifEvery.cls ≠ "java/lang/invoke/VarHandle" ∧ (parseMethodDescriptor yX5_ifEvery.desc).map (fun d => d.parameters.length) = some 3 := by decide +kernel
set_option maxHeartbeats 4000000 in
set_option maxRecDepth 100000 in
theorem c_X5_ifEvery (l : Launch) (hst : l.stackTraces = false) (D : va_G) (y : Nat → ClassId) (a0 a1 a2 a3 a4 a5 a6 a7 a8 a9 : Nat) (zh : Nat) (r : gR) (rc : gR) (p0 : Int32) (p1 : Int32) (p2 : Int32) (ho : okC r) : vx_Met l yX5_ifEvery wsX5_ifEvery ({ frames := 7, cells := 2, slots := 12, locals := 113 }) (xP D y [.ref a0, .int p0, .int p1, .int p2] zh [(a0, .inr (4, [.ref a1, .ref a2, .ref a3, .ref a4, .ref a5])), (a2, soF a6 a7 r), (a6, soV y r), (a7, soW y r), (a3, soF a8 a9 rc), (a8, soV y rc), (a9, soW y rc)]) (va_Qi (fun (v : Int32) (u : gR) => f_X5_ifEvery r rc p0 p1 p2 = (0, v, u)) (fun (u : gR) t => va_P D vwCl [(a0, .inr (4, [.ref a1, .ref a2, .ref a3, .ref a4, .ref a5])), (a2, soF a6 a7 r), (a6, soV y r), (a7, soW y r), (a3, soF a8 a9 u), (a8, soV y u), (a9, soW y u)] t.heap ∧ va_D (va_A [(a0, .inr (4, [.ref a1, .ref a2, .ref a3, .ref a4, .ref a5])), (a2, soF a6 a7 r), (a6, soV y r), (a7, soW y r), (a3, soF a8 a9 rc), (a8, soV y rc), (a9, soW y rc)] zh) [(a0, .inr (4, [.ref a1, .ref a2, .ref a3, .ref a4, .ref a5])), (a2, soF a6 a7 r), (a6, soV y r), (a7, soW y r), (a3, soF a8 a9 u), (a8, soV y u), (a9, soW y u)]) (va_A [(a0, .inr (4, [.ref a1, .ref a2, .ref a3, .ref a4, .ref a5])), (a2, soF a6 a7 r), (a6, soV y r), (a7, soW y r), (a3, soF a8 a9 rc), (a8, soV y rc), (a9, soW y rc)] zh)) (vx_X (fun _ : gR => True) (fun (E : String) (u : gR) t => (f_X5_ifEvery r rc p0 p1 p2 = (xc E, 0, u) ∧ xc E ≠ 0) ∧ (va_P D vwCl [(a0, .inr (4, [.ref a1, .ref a2, .ref a3, .ref a4, .ref a5])), (a2, soF a6 a7 r), (a6, soV y r), (a7, soW y r), (a3, soF a8 a9 u), (a8, soV y u), (a9, soW y u)] t.heap ∧ va_D (va_A [(a0, .inr (4, [.ref a1, .ref a2, .ref a3, .ref a4, .ref a5])), (a2, soF a6 a7 r), (a6, soV y r), (a7, soW y r), (a3, soF a8 a9 rc), (a8, soV y rc), (a9, soW y rc)] zh) [(a0, .inr (4, [.ref a1, .ref a2, .ref a3, .ref a4, .ref a5])), (a2, soF a6 a7 r), (a6, soV y r), (a7, soW y r), (a3, soF a8 a9 u), (a8, soV y u), (a9, soW y u)])) (va_A [(a0, .inr (4, [.ref a1, .ref a2, .ref a3, .ref a4, .ref a5])), (a2, soF a6 a7 r), (a6, soV y r), (a7, soW y r), (a3, soF a8 a9 rc), (a8, soV y rc), (a9, soW y rc)] zh)) 2 12 (va_A [(a0, .inr (4, [.ref a1, .ref a2, .ref a3, .ref a4, .ref a5])), (a2, soF a6 a7 r), (a6, soV y r), (a7, soW y r), (a3, soF a8 a9 rc), (a8, soV y rc), (a9, soW y rc)] zh) := by
  refine vx_ofW (cc := cX5_ifEvery) (maxL := 4) (ret := (some .int)) (by decide) rfl ?_
  intro p e s m args below meth c s₁ B hml htab hv
  obtain ⟨⟨rfl, hsz, hP, hE, hD⟩, hXE, hXZ⟩ := hv
  have hx := B.exec
  have hb := B.bytes
  have hr := B.returns
  have hts := atoms_spec (ws := wsX5_ifEvery) B.pre
  have hown : s.vm.findClass RX5 = some m.cls := findClass_of_methodNamed B.named
  have hlocks := B.notSynchronized
  have w_0 := hts (.classLink RX5 40 "java/lang/IllegalArgumentException") (List.mem_cons_of_mem _ (List.mem_append_left _ (List.mem_append_left _ (List.mem_append_left _ (List.mem_append_left _ (List.mem_append_left _ (List.mem_of_getElem? (i := 0) rfl)))))))
  have w_1 := hts (.initialized "java/lang/IllegalArgumentException") (List.mem_cons_of_mem _ (List.mem_append_left _ (List.mem_append_left _ (List.mem_append_left _ (List.mem_append_left _ (List.mem_append_left _ (List.mem_of_getElem? (i := 1) rfl)))))))
  subst hsz
  have hD := hD.self (sz := s.heap.size)
  generalize hAe : va_A [(a0, .inr (4, [.ref a1, .ref a2, .ref a3, .ref a4, .ref a5])), (a2, soF a6 a7 r), (a6, soV y r), (a7, soW y r), (a3, soF a8 a9 rc), (a8, soV y rc), (a9, soW y rc)] s.heap.size = A at hD hXZ ⊢
  have hA : ∀ q : Nat, s.heap.size ≤ q → A q := fun q h => by rw [← hAe]; exact Or.inr h
  have hS : va_S A s.heap s.heap [] := va_S.rf
  have hl := lv_entry ([.ref a0, .int p0, .int p1, .int p2]) (n := 4) (Nat.le_of_ble_eq_true rfl)
  rw [lg_entry_eq]
  generalize (lg_sl ([.ref a0, .int p0, .int p1, .int p2]) ++ List.replicate (4 - (lg_sl ([.ref a0, .int p0, .int p1, .int p2])).length) Slot.unset).toArray = ls at hl ⊢
  have hl : lv_has ls 4 [(0, .ref a0), (1, .int p0), (2, .int p1), (3, .int p2)] := hl
  have hF := f_X5_ifEvery_s r rc p0 p1 p2
  refine lv_aload_n hx hb dX5_ifEvery_0 rfl (lv_at hl 0 rfl) ?_
  refine lv_iload_n hx hb dX5_ifEvery_1 rfl (lv_at hl 1 rfl) ?_
  refine xq_call (vx_runV (As := [.int p0]) (rest := []) ⟨hx, hb, hml, hown, hts⟩ (c_X5_requireLine l hst D y a0 a1 a2 a3 a4 a5 a6 a7 s.heap.size r p0) (cwV 1 hts gX5_ifEvery_X5_requireLine rfl rfl rfl hd_X5_requireLine ⟨Nat.le_of_ble_eq_true rfl, Nat.le_of_ble_eq_true rfl⟩) (xV (q := (RX5, TX5, 5)) hE hXE hXZ hS hA (hP.sub [0, 1, 2, 3] rfl) (hD.sub [0, 1, 2, 3] (by decide) rfl) 0 rfl rfl) rfl rfl hl.1 rfl (lv_room (Nat.le_of_ble_eq_true rfl)) dX5_ifEvery_2 ⟨Nat.le_of_ble_eq_true rfl, Nat.le_of_ble_eq_true rfl⟩) hP hD hS hA [0, 1, 2, 3] rfl (by decide) (fun E3 ce4 q5 H locs h2 h2z hP hD hS h2a h2b h2c => ?_) (fun H locs h2 hP hD hS => ?_)
  · have hP : va_P D vwCl [(a0, .inr (4, [.ref a1, .ref a2, .ref a3, .ref a4, .ref a5])), (a2, soF a6 a7 r), (a6, soV y r), (a7, soW y r), (a3, soF a8 a9 rc), (a8, soV y rc), (a9, soW y rc)] H := hP
    have hD : va_D A [(a0, .inr (4, [.ref a1, .ref a2, .ref a3, .ref a4, .ref a5])), (a2, soF a6 a7 r), (a6, soV y r), (a7, soW y r), (a3, soF a8 a9 rc), (a8, soV y rc), (a9, soW y rc)] := hD
    have hF := hF.trans ((gLet_e h2).trans (if_neg h2z))
    refine vx_out (fun x hx => (htab x hx).elim) hlocks h2a h2b h2c (fun t ht hvm => ⟨rc, trivial, ⟨⟨hF, h2z⟩, ⟨by rw [ht]; exact hP, hD⟩⟩, hS.F ht⟩) hS.2.2 (Nat.le_of_ble_eq_true rfl) (Nat.le_of_ble_eq_true rfl)
  have hP : va_P D vwCl [(a0, .inr (4, [.ref a1, .ref a2, .ref a3, .ref a4, .ref a5])), (a2, soF a6 a7 r), (a6, soV y r), (a7, soW y r), (a3, soF a8 a9 rc), (a8, soV y rc), (a9, soW y rc)] H := hP
  have hD : va_D A [(a0, .inr (4, [.ref a1, .ref a2, .ref a3, .ref a4, .ref a5])), (a2, soF a6 a7 r), (a6, soV y r), (a7, soW y r), (a3, soF a8 a9 rc), (a8, soV y rc), (a9, soW y rc)] := hD
  have hF := hF.trans ((gLet_e h2).trans (if_pos rfl))
  refine lv_iload_n hx hb dX5_ifEvery_5 rfl (lv_at hl 2 rfl) ?_
  refine lv_iconst (v := 1) hx hb dX5_ifEvery_6 (by decide) ?_
  refine lv_icmp_lt (tgt := 16) hx hb dX5_ifEvery_7 (by decide) (fun c_6 => ?_) (fun c_6 => ?_)
  · have hF := hF.trans (if_pos c_6)
    obtain ⟨sa7, hsa7⟩ := hXE.2 _ (List.mem_of_getElem? (i := 11) rfl)
    exact vx_throwS (names := xN) hx hb hst hown (by decide +kernel) (by decide +kernel) w_0 w_1 hsa7 (vx_hat (fun w hw => hts w (List.mem_cons_of_mem _ (List.mem_append_left _ (List.mem_append_right _ hw)))) x_bad44 (xE_bad hXE hXE.1.1.1)) x_good44 hXZ.1 hXZ.2 hS (hml.trans hl.1.symm).symm dX5_ifEvery_16 dX5_ifEvery_19 dX5_ifEvery_20 dX5_ifEvery_22 dX5_ifEvery_25 (fun x hx => (htab x hx).elim) (Nat.le_of_ble_eq_true rfl) (Nat.le_of_ble_eq_true rfl) (Nat.le_of_ble_eq_true rfl) (Nat.le_of_ble_eq_true rfl) hlocks (fun t hvm hz hk => ⟨rc, trivial, ⟨⟨by rw [xc_IA]; exact hF, by rw [xc_IA]; decide⟩, ⟨x_grow hP hk, hD⟩⟩, x_F hS hz hk⟩) hS.2.2 (Nat.le_of_ble_eq_true rfl) (Nat.le_of_ble_eq_true rfl)
  · have hF := hF.trans (if_neg c_6)
    refine lv_iload_n hx hb dX5_ifEvery_10 rfl (lv_at hl 2 rfl) ?_
    refine lv_bipush (v := 50) hx hb dX5_ifEvery_11 (by decide) ?_
    refine lv_icmp_le (tgt := 26) hx hb dX5_ifEvery_13 (by decide) (fun c_8 => ?_) (fun c_8 => ?_)
    · have hF := hF.trans (if_pos c_8)
      refine lv_iload_n hx hb dX5_ifEvery_26 rfl (lv_at hl 3 rfl) ?_
      refine xq_call (vx_runS (As := [.int p2]) (rest := []) ⟨hx, hb, hml, hown, hts⟩ (c_X5_requireHammered l hst D y H.size p2) (va_cwS 1 hts gX5_ifEvery_X5_requireHammered rfl rfl rfl hd_X5_requireHammered ⟨Nat.le_of_ble_eq_true rfl, Nat.le_of_ble_eq_true rfl⟩) (xS hE hXE hXZ hS hA (hP.sub [] rfl) (hD.sub [] (by decide) rfl)) rfl rfl hl.1 rfl (lv_room (Nat.le_of_ble_eq_true rfl)) dX5_ifEvery_27 ⟨Nat.le_of_ble_eq_true rfl, Nat.le_of_ble_eq_true rfl⟩) hP hD hS hA [] rfl (by decide) (fun E11 ce12 q13 H locs h10 h10z hP hD hS h10a h10b h10c => ?_) (fun H locs h10 hP hD hS => ?_)
      · have hP : va_P D vwCl [(a0, .inr (4, [.ref a1, .ref a2, .ref a3, .ref a4, .ref a5])), (a2, soF a6 a7 r), (a6, soV y r), (a7, soW y r), (a3, soF a8 a9 rc), (a8, soV y rc), (a9, soW y rc)] H := hP
        have hD : va_D A [(a0, .inr (4, [.ref a1, .ref a2, .ref a3, .ref a4, .ref a5])), (a2, soF a6 a7 r), (a6, soV y r), (a7, soW y r), (a3, soF a8 a9 rc), (a8, soV y rc), (a9, soW y rc)] := hD
        have hF := hF.trans ((gLet_e h10).trans (if_neg h10z))
        refine vx_out (fun x hx => (htab x hx).elim) hlocks h10a h10b h10c (fun t ht hvm => ⟨rc, trivial, ⟨⟨hF, h10z⟩, ⟨by rw [ht]; exact hP, hD⟩⟩, hS.F ht⟩) hS.2.2 (Nat.le_of_ble_eq_true rfl) (Nat.le_of_ble_eq_true rfl)
      have hP : va_P D vwCl [(a0, .inr (4, [.ref a1, .ref a2, .ref a3, .ref a4, .ref a5])), (a2, soF a6 a7 r), (a6, soV y r), (a7, soW y r), (a3, soF a8 a9 rc), (a8, soV y rc), (a9, soW y rc)] H := hP
      have hD : va_D A [(a0, .inr (4, [.ref a1, .ref a2, .ref a3, .ref a4, .ref a5])), (a2, soF a6 a7 r), (a6, soV y r), (a7, soW y r), (a3, soF a8 a9 rc), (a8, soV y rc), (a9, soW y rc)] := hD
      have hF := hF.trans ((gLet_e h10).trans (if_pos rfl))
      refine lv_aload_n hx hb dX5_ifEvery_30 rfl (lv_at hl 0 rfl) ?_
      refine lv_iload_n hx hb dX5_ifEvery_31 rfl (lv_at hl 1 rfl) ?_
      refine lv_iload_n hx hb dX5_ifEvery_32 rfl (lv_at hl 2 rfl) ?_
      refine lv_iload_n hx hb dX5_ifEvery_33 rfl (lv_at hl 3 rfl) ?_
      refine xw_calli (va_runV (As := [.int p0, .int p1, .int p2]) (rest := []) ⟨hx, hb, hml, hown, hts⟩ (c_X5_wearIfEvery l D y a0 a1 a2 a3 a4 a5 a6 a7 a8 a9 H.size r rc p0 p1 p2 ho) (cwV 3 hts gX5_ifEvery_X5_wearIfEvery rfl rfl rfl hd_X5_wearIfEvery ⟨Nat.le_of_ble_eq_true rfl, Nat.le_of_ble_eq_true rfl⟩) (gV (q := (RX5, TX5, 5)) hE hP hD 0 rfl rfl) rfl rfl hl.1 rfl (lv_room (Nat.le_of_ble_eq_true rfl)) dX5_ifEvery_34 ⟨Nat.le_of_ble_eq_true rfl, Nat.le_of_ble_eq_true rfl⟩) hP hD hS hA [0, 1, 2, 3, 4, 5, 6] rfl (by decide) (fun _ => rfl) (fun v16 u15 H locs h14 hP hD hS => ?_)
      obtain ⟨q17, eq17⟩ : ∃ z : Int32 × gR, f_X5_wearIfEvery r rc p0 p1 p2 = z := ⟨_, rfl⟩
      obtain ⟨rfl, rfl⟩ : q17.1 = v16 ∧ q17.2 = u15 := ⟨by rw [← eq17, h14], by rw [← eq17, h14]⟩
      have hF := hF.trans (gLet_e eq17)
      have hP : va_P D vwCl [(a0, .inr (4, [.ref a1, .ref a2, .ref a3, .ref a4, .ref a5])), (a2, soF a6 a7 r), (a6, soV y r), (a7, soW y r), (a3, soF a8 a9 q17.2), (a8, soV y q17.2), (a9, soW y q17.2)] H := hP
      have hD : va_D A [(a0, .inr (4, [.ref a1, .ref a2, .ref a3, .ref a4, .ref a5])), (a2, soF a6 a7 r), (a6, soV y r), (a7, soW y r), (a3, soF a8 a9 q17.2), (a8, soV y q17.2), (a9, soW y q17.2)] := hD
      refine W.widen (k := 2) (n := 12) (Nat.le_of_ble_eq_true rfl) (Nat.le_of_ble_eq_true rfl) ?_
      refine vx_ret ?_
      exact W.iret (v := q17.1) hx hb hr (fun t ht hW => ⟨⟨q17.1, q17.2, rfl, hF, ⟨by rw [ht]; exact hP, hD⟩⟩, hS.F ht⟩) hS.2.2 dX5_ifEvery_37
    · have hF := hF.trans (if_neg c_8)
      obtain ⟨sa18, hsa18⟩ := hXE.2 _ (List.mem_of_getElem? (i := 11) rfl)
      exact vx_throwS (names := xN) hx hb hst hown (by decide +kernel) (by decide +kernel) w_0 w_1 hsa18 (vx_hat (fun w hw => hts w (List.mem_cons_of_mem _ (List.mem_append_left _ (List.mem_append_right _ hw)))) x_bad44 (xE_bad hXE hXE.1.1.1)) x_good44 hXZ.1 hXZ.2 hS (hml.trans hl.1.symm).symm dX5_ifEvery_16 dX5_ifEvery_19 dX5_ifEvery_20 dX5_ifEvery_22 dX5_ifEvery_25 (fun x hx => (htab x hx).elim) (Nat.le_of_ble_eq_true rfl) (Nat.le_of_ble_eq_true rfl) (Nat.le_of_ble_eq_true rfl) (Nat.le_of_ble_eq_true rfl) hlocks (fun t hvm hz hk => ⟨rc, trivial, ⟨⟨by rw [xc_IA]; exact hF, by rw [xc_IA]; decide⟩, ⟨x_grow hP hk, hD⟩⟩, x_F hS hz hk⟩) hS.2.2 (Nat.le_of_ble_eq_true rfl) (Nat.le_of_ble_eq_true rfl)

def f_X5_simulate (r : gR) (rc : gR) (p0 : Int64) (p1 : Int32) : Nat × Int32 × gR :=
    if p1 < 1 then
    (1, 0, rc)
  else
    if p1 ≤ 300 then
      gLet (f_X3_exists r) (fun (v5 : Int32) =>
        if v5 = 0 then
          (0, 0, rc)
        else
          gLet (f_X3_writeByChance r p0 p1) (fun (u10 : gR) =>
            gLet (f_X3_greatestWear u10) (fun (v12 : Int32) =>
              (0, ((1000 * ((u10 6) - (r 6))) + v12), u10))))
    else
      (1, 0, rc)
theorem f_X5_simulate_s (r : gR) (rc : gR) (p0 : Int64) (p1 : Int32) : f_X5_simulate r rc p0 p1 =
    (if p1 < 1 then
    (1, 0, rc)
  else
    if p1 ≤ 300 then
      gLet (f_X3_exists r) (fun (v5 : Int32) =>
        if v5 = 0 then
          (0, 0, rc)
        else
          gLet (f_X3_writeByChance r p0 p1) (fun (u10 : gR) =>
            gLet (f_X3_greatestWear u10) (fun (v12 : Int32) =>
              (0, ((1000 * ((u10 6) - (r 6))) + v12), u10))))
    else
      (1, 0, rc)) := rfl
theorem hd_X5_simulate : yX5_simulate.cls = RX5 ∧ yX5_simulate.cls ≠ "java/lang/invoke/MethodHandle" ∧ yX5_simulate.cls ≠ "java/lang/invoke/VarHandle" ∧ (parseMethodDescriptor yX5_simulate.desc).map (fun d => d.parameters.length) = some 2 := by decide +kernel
set_option maxHeartbeats 4000000 in
set_option maxRecDepth 100000 in
theorem c_X5_simulate (l : Launch) (hst : l.stackTraces = false) (D : va_G) (y : Nat → ClassId) (a0 a1 a2 a3 a4 a5 a6 a7 a8 a9 : Nat) (zh : Nat) (r : gR) (rc : gR) (p0 : Int64) (p1 : Int32) (ho : okC r) : vx_Met l yX5_simulate wsX5_simulate ({ frames := 6, cells := 2, slots := 12, locals := 95 }) (xP D y [.ref a0, .long p0, .int p1] zh [(a0, .inr (4, [.ref a1, .ref a2, .ref a3, .ref a4, .ref a5])), (a2, soF a6 a7 r), (a6, soV y r), (a7, soW y r), (a3, soF a8 a9 rc), (a8, soV y rc), (a9, soW y rc)]) (va_Qi (fun (v : Int32) (u : gR) => f_X5_simulate r rc p0 p1 = (0, v, u)) (fun (u : gR) t => va_P D vwCl [(a0, .inr (4, [.ref a1, .ref a2, .ref a3, .ref a4, .ref a5])), (a2, soF a6 a7 r), (a6, soV y r), (a7, soW y r), (a3, soF a8 a9 u), (a8, soV y u), (a9, soW y u)] t.heap ∧ va_D (va_A [(a0, .inr (4, [.ref a1, .ref a2, .ref a3, .ref a4, .ref a5])), (a2, soF a6 a7 r), (a6, soV y r), (a7, soW y r), (a3, soF a8 a9 rc), (a8, soV y rc), (a9, soW y rc)] zh) [(a0, .inr (4, [.ref a1, .ref a2, .ref a3, .ref a4, .ref a5])), (a2, soF a6 a7 r), (a6, soV y r), (a7, soW y r), (a3, soF a8 a9 u), (a8, soV y u), (a9, soW y u)]) (va_A [(a0, .inr (4, [.ref a1, .ref a2, .ref a3, .ref a4, .ref a5])), (a2, soF a6 a7 r), (a6, soV y r), (a7, soW y r), (a3, soF a8 a9 rc), (a8, soV y rc), (a9, soW y rc)] zh)) (vx_X (fun _ : gR => True) (fun (E : String) (u : gR) t => (f_X5_simulate r rc p0 p1 = (xc E, 0, u) ∧ xc E ≠ 0) ∧ (va_P D vwCl [(a0, .inr (4, [.ref a1, .ref a2, .ref a3, .ref a4, .ref a5])), (a2, soF a6 a7 r), (a6, soV y r), (a7, soW y r), (a3, soF a8 a9 u), (a8, soV y u), (a9, soW y u)] t.heap ∧ va_D (va_A [(a0, .inr (4, [.ref a1, .ref a2, .ref a3, .ref a4, .ref a5])), (a2, soF a6 a7 r), (a6, soV y r), (a7, soW y r), (a3, soF a8 a9 rc), (a8, soV y rc), (a9, soW y rc)] zh) [(a0, .inr (4, [.ref a1, .ref a2, .ref a3, .ref a4, .ref a5])), (a2, soF a6 a7 r), (a6, soV y r), (a7, soW y r), (a3, soF a8 a9 u), (a8, soV y u), (a9, soW y u)])) (va_A [(a0, .inr (4, [.ref a1, .ref a2, .ref a3, .ref a4, .ref a5])), (a2, soF a6 a7 r), (a6, soV y r), (a7, soW y r), (a3, soF a8 a9 rc), (a8, soV y rc), (a9, soW y rc)] zh)) 2 12 (va_A [(a0, .inr (4, [.ref a1, .ref a2, .ref a3, .ref a4, .ref a5])), (a2, soF a6 a7 r), (a6, soV y r), (a7, soW y r), (a3, soF a8 a9 rc), (a8, soV y rc), (a9, soW y rc)] zh) := by
  refine vx_ofW (cc := cX5_simulate) (maxL := 4) (ret := (some .int)) (by decide) rfl ?_
  intro p e s m args below meth c s₁ B hml htab hv
  obtain ⟨⟨rfl, hsz, hP, hE, hD⟩, hXE, hXZ⟩ := hv
  have hx := B.exec
  have hb := B.bytes
  have hr := B.returns
  have hts := atoms_spec (ws := wsX5_simulate) B.pre
  have hown : s.vm.findClass RX5 = some m.cls := findClass_of_methodNamed B.named
  have hlocks := B.notSynchronized
  have w_0 := hts (.classLink RX5 40 "java/lang/IllegalArgumentException") (List.mem_cons_of_mem _ (List.mem_append_left _ (List.mem_append_left _ (List.mem_append_left _ (List.mem_append_left _ (List.mem_of_getElem? (i := 0) rfl))))))
  have w_1 := hts (.initialized "java/lang/IllegalArgumentException") (List.mem_cons_of_mem _ (List.mem_append_left _ (List.mem_append_left _ (List.mem_append_left _ (List.mem_append_left _ (List.mem_of_getElem? (i := 1) rfl))))))
  have w_2 := hts (.fieldLink RX5 19 "GapLines" "state" "LGapLines$State;") (List.mem_cons_of_mem _ (List.mem_append_left _ (List.mem_append_left _ (List.mem_append_left _ (List.mem_append_left _ (List.mem_of_getElem? (i := 2) rfl))))))
  have hi5 : ∀ w ∈ u_ws RX5 TX5 5, w ∈ wsX5_simulate := fun w h => (List.mem_cons_of_mem _ (List.mem_append_left _ (List.mem_append_left _ (List.mem_append_right _ h))))
  have w_4 := hts (.fieldLink RX5 23 "GapLines" "copy" "LGapLines$State;") (List.mem_cons_of_mem _ (List.mem_append_left _ (List.mem_append_left _ (List.mem_append_left _ (List.mem_append_left _ (List.mem_of_getElem? (i := 3) rfl))))))
  have w_5 := hts (.fieldLink RX5 224 "GapLines$State" "moves" "I") (List.mem_cons_of_mem _ (List.mem_append_left _ (List.mem_append_left _ (List.mem_append_left _ (List.mem_append_left _ (List.mem_of_getElem? (i := 4) rfl))))))
  have hi3 : ∀ w ∈ u_ws RX3 TX3 15, w ∈ wsX5_simulate := fun w h => (List.mem_cons_of_mem _ (List.mem_append_left _ (List.mem_append_right _ h)))
  subst hsz
  have hD := hD.self (sz := s.heap.size)
  generalize hAe : va_A [(a0, .inr (4, [.ref a1, .ref a2, .ref a3, .ref a4, .ref a5])), (a2, soF a6 a7 r), (a6, soV y r), (a7, soW y r), (a3, soF a8 a9 rc), (a8, soV y rc), (a9, soW y rc)] s.heap.size = A at hD hXZ ⊢
  have hA : ∀ q : Nat, s.heap.size ≤ q → A q := fun q h => by rw [← hAe]; exact Or.inr h
  have hS : va_S A s.heap s.heap [] := va_S.rf
  have hl := lv_entry ([.ref a0, .long p0, .int p1]) (n := 4) (Nat.le_of_ble_eq_true rfl)
  rw [lg_entry_eq]
  generalize (lg_sl ([.ref a0, .long p0, .int p1]) ++ List.replicate (4 - (lg_sl ([.ref a0, .long p0, .int p1])).length) Slot.unset).toArray = ls at hl ⊢
  have hl : lv_has ls 4 [(0, .ref a0), (1, .long p0), (3, .int p1)] := hl
  have hF := f_X5_simulate_s r rc p0 p1
  refine lv_iload_n hx hb dX5_simulate_0 rfl (lv_at hl 2 rfl) ?_
  refine lv_iconst (v := 1) hx hb dX5_simulate_1 (by decide) ?_
  refine lv_icmp_lt (tgt := 12) hx hb dX5_simulate_2 (by decide) (fun c_1 => ?_) (fun c_1 => ?_)
  · have hF := hF.trans (if_pos c_1)
    obtain ⟨sa2, hsa2⟩ := hXE.2 _ (List.mem_of_getElem? (i := 15) rfl)
    exact vx_throwS (names := xN) hx hb hst hown (by decide +kernel) (by decide +kernel) w_0 w_1 hsa2 (vx_hat (fun w hw => hts w (List.mem_cons_of_mem _ (List.mem_append_right _ hw))) x_bad44 (xE_bad hXE hXE.1.1.1)) x_good44 hXZ.1 hXZ.2 hS (hml.trans hl.1.symm).symm dX5_simulate_12 dX5_simulate_15 dX5_simulate_16 dX5_simulate_18 dX5_simulate_21 (fun x hx => (htab x hx).elim) (Nat.le_of_ble_eq_true rfl) (Nat.le_of_ble_eq_true rfl) (Nat.le_of_ble_eq_true rfl) (Nat.le_of_ble_eq_true rfl) hlocks (fun t hvm hz hk => ⟨rc, trivial, ⟨⟨by rw [xc_IA]; exact hF, by rw [xc_IA]; decide⟩, ⟨x_grow hP hk, hD⟩⟩, x_F hS hz hk⟩) hS.2.2 (Nat.le_of_ble_eq_true rfl) (Nat.le_of_ble_eq_true rfl)
  · have hF := hF.trans (if_neg c_1)
    refine lv_iload_n hx hb dX5_simulate_5 rfl (lv_at hl 2 rfl) ?_
    refine lv_sipush (v := 300) hx hb dX5_simulate_6 (by decide) ?_
    refine lv_icmp_le (tgt := 22) hx hb dX5_simulate_9 (by decide) (fun c_3 => ?_) (fun c_3 => ?_)
    · have hF := hF.trans (if_pos c_3)
      refine lv_aload_n hx hb dX5_simulate_22 rfl (lv_at hl 0 rfl) ?_
      refine va_get (D := D) (ci := 4) (v := .ref a2) (C := RX5) (T := TX5) (N := 5) hx hb hts hi5 hown hE.1 hP 0 rfl rfl 1 (by decide) w_2 (fun _ h9 => h9) rfl dX5_simulate_23 ?_
      refine xs_calli (va_runV (As := []) (rest := []) ⟨hx, hb, hml, hown, hts⟩ (c_X3_exists l D y a2 a6 a7 s.heap.size r) (cwV 0 hts gX5_simulate_X3_exists rfl rfl rfl hd_X3_exists ⟨Nat.le_of_ble_eq_true rfl, Nat.le_of_ble_eq_true rfl⟩) (gV (q := (RX3, TX3, 15)) hE (hP.sub [1, 2, 3] rfl) (hD.sub [1, 2, 3] (by decide) rfl) 0 rfl rfl) rfl rfl hl.1 rfl (lv_room (Nat.le_of_ble_eq_true rfl)) dX5_simulate_26 ⟨Nat.le_of_ble_eq_true rfl, Nat.le_of_ble_eq_true rfl⟩) (fun v5 h4 => ?_)
      have hF := hF.trans (gLet_e h4)
      refine lv_if_ne (tgt := 34) hx hb dX5_simulate_29 (by decide) (fun c_6 => ?_) (fun c_6 => ?_)
      · have hF := hF.trans (if_neg c_6)
        refine lv_aload_n hx hb dX5_simulate_34 rfl (lv_at hl 0 rfl) ?_
        refine va_get (D := D) (ci := 4) (v := .ref a3) (C := RX5) (T := TX5) (N := 5) hx hb hts hi5 hown hE.1 hP 0 rfl rfl 2 (by decide) w_4 (fun _ h9 => h9) rfl dX5_simulate_35 ?_
        refine lv_aload_n hx hb dX5_simulate_38 rfl (lv_at hl 0 rfl) ?_
        refine va_get (D := D) (ci := 4) (v := .ref a2) (C := RX5) (T := TX5) (N := 5) hx hb hts hi5 hown hE.1 hP 0 rfl rfl 1 (by decide) w_2 (fun _ h9 => h9) rfl dX5_simulate_39 ?_
        refine xw_callv (va_runV (As := [.ref a2]) (rest := []) ⟨hx, hb, hml, hown, hts⟩ (c_X3_copyFrom l D y a3 a8 a9 a2 a6 a7 s.heap.size rc r ho) (cwV 1 hts gX5_simulate_X3_copyFrom rfl rfl rfl hd_X3_copyFrom ⟨Nat.le_of_ble_eq_true rfl, Nat.le_of_ble_eq_true rfl⟩) (gV (q := (RX3, TX3, 15)) hE (hP.sub [4, 5, 6, 1, 2, 3] rfl) (hD.sub [4, 5, 6, 1, 2, 3] (by decide) rfl) 0 rfl rfl) rfl rfl hl.1 rfl (lv_room (Nat.le_of_ble_eq_true rfl)) dX5_simulate_42 ⟨Nat.le_of_ble_eq_true rfl, Nat.le_of_ble_eq_true rfl⟩) hP hD hS hA [4, 5, 6, 1, 2, 3] rfl (by decide) (fun _ => rfl) (fun u8 H locs h7 hP hD hS => ?_)
        obtain rfl : r = u8 := h7
        have hP : va_P D vwCl [(a0, .inr (4, [.ref a1, .ref a2, .ref a3, .ref a4, .ref a5])), (a2, soF a6 a7 r), (a6, soV y r), (a7, soW y r), (a3, soF a8 a9 r), (a8, soV y r), (a9, soW y r)] H := hP
        have hD : va_D A [(a0, .inr (4, [.ref a1, .ref a2, .ref a3, .ref a4, .ref a5])), (a2, soF a6 a7 r), (a6, soV y r), (a7, soW y r), (a3, soF a8 a9 r), (a8, soV y r), (a9, soW y r)] := hD
        refine lv_aload_n hx hb dX5_simulate_45 rfl (lv_at hl 0 rfl) ?_
        refine va_get (D := D) (ci := 4) (v := .ref a3) (C := RX5) (T := TX5) (N := 5) hx hb hts hi5 hown hE.1 hP 0 rfl rfl 2 (by decide) w_4 (fun _ h9 => h9) rfl dX5_simulate_46 ?_
        refine lv_lload_n hx hb dX5_simulate_49 rfl (lv_at hl 1 rfl) ?_
        refine lv_iload_n hx hb dX5_simulate_50 rfl (lv_at hl 2 rfl) ?_
        refine xw_callv (va_runV (As := [.long p0, .int p1]) (rest := []) ⟨hx, hb, hml, hown, hts⟩ (c_X3_writeByChance l D y a3 a8 a9 H.size r p0 p1 ho) (cwV 2 hts gX5_simulate_X3_writeByChance rfl rfl rfl hd_X3_writeByChance ⟨Nat.le_of_ble_eq_true rfl, Nat.le_of_ble_eq_true rfl⟩) (gV (q := (RX3, TX3, 15)) hE (hP.sub [4, 5, 6] rfl) (hD.sub [4, 5, 6] (by decide) rfl) 0 rfl rfl) rfl rfl hl.1 rfl (lv_room (Nat.le_of_ble_eq_true rfl)) dX5_simulate_51 ⟨Nat.le_of_ble_eq_true rfl, Nat.le_of_ble_eq_true rfl⟩) hP hD hS hA [4, 5, 6] rfl (by decide) (fun _ => rfl) (fun u10 H locs h9 hP hD hS => ?_)
        have hF := hF.trans (gLet_e h9)
        have hP : va_P D vwCl [(a0, .inr (4, [.ref a1, .ref a2, .ref a3, .ref a4, .ref a5])), (a2, soF a6 a7 r), (a6, soV y r), (a7, soW y r), (a3, soF a8 a9 u10), (a8, soV y u10), (a9, soW y u10)] H := hP
        have hD : va_D A [(a0, .inr (4, [.ref a1, .ref a2, .ref a3, .ref a4, .ref a5])), (a2, soF a6 a7 r), (a6, soV y r), (a7, soW y r), (a3, soF a8 a9 u10), (a8, soV y u10), (a9, soW y u10)] := hD
        refine lv_sipush (v := 1000) hx hb dX5_simulate_54 (by decide) ?_
        refine lv_aload_n hx hb dX5_simulate_57 rfl (lv_at hl 0 rfl) ?_
        refine va_get (D := D) (ci := 4) (v := .ref a3) (C := RX5) (T := TX5) (N := 5) hx hb hts hi5 hown hE.1 hP 0 rfl rfl 2 (by decide) w_4 (fun _ h9 => h9) rfl dX5_simulate_58 ?_
        refine va_get (D := D) (ci := 2) (v := .int (u10 6)) (C := RX3) (T := TX3) (N := 15) hx hb hts hi3 hown hE.1 hP 4 rfl rfl 6 (by decide) w_5 (fun _ h9 => h9) rfl dX5_simulate_61 ?_
        refine lv_aload_n hx hb dX5_simulate_64 rfl (lv_at hl 0 rfl) ?_
        refine va_get (D := D) (ci := 4) (v := .ref a2) (C := RX5) (T := TX5) (N := 5) hx hb hts hi5 hown hE.1 hP 0 rfl rfl 1 (by decide) w_2 (fun _ h9 => h9) rfl dX5_simulate_65 ?_
        refine va_get (D := D) (ci := 2) (v := .int (r 6)) (C := RX3) (T := TX3) (N := 15) hx hb hts hi3 hown hE.1 hP 1 rfl rfl 6 (by decide) w_5 (fun _ h9 => h9) rfl dX5_simulate_68 ?_
        refine lv_isub hx hb dX5_simulate_71 ?_
        refine lv_imul hx hb dX5_simulate_72 ?_
        refine lv_aload_n hx hb dX5_simulate_73 rfl (lv_at hl 0 rfl) ?_
        refine va_get (D := D) (ci := 4) (v := .ref a3) (C := RX5) (T := TX5) (N := 5) hx hb hts hi5 hown hE.1 hP 0 rfl rfl 2 (by decide) w_4 (fun _ h9 => h9) rfl dX5_simulate_74 ?_
        refine xs_calli (va_runV (As := []) (rest := [.int (1000 * ((u10 6) - (r 6)))]) ⟨hx, hb, hml, hown, hts⟩ (c_X3_greatestWear l D y a3 a8 a9 H.size u10 (by rw [← h9]; exact ok_X3_writeByChance _ _ _ ho)) (cwV 0 hts gX5_simulate_X3_greatestWear rfl rfl rfl hd_X3_greatestWear ⟨Nat.le_of_ble_eq_true rfl, Nat.le_of_ble_eq_true rfl⟩) (gV (q := (RX3, TX3, 15)) hE (hP.sub [4, 5, 6] rfl) (hD.sub [4, 5, 6] (by decide) rfl) 0 rfl rfl) rfl rfl hl.1 rfl (lv_room (Nat.le_of_ble_eq_true rfl)) dX5_simulate_77 ⟨Nat.le_of_ble_eq_true rfl, Nat.le_of_ble_eq_true rfl⟩) (fun v12 h11 => ?_)
        have hF := hF.trans (gLet_e h11)
        refine lv_iadd hx hb dX5_simulate_80 ?_
        refine W.widen (k := 2) (n := 12) (Nat.le_of_ble_eq_true rfl) (Nat.le_of_ble_eq_true rfl) ?_
        refine vx_ret ?_
        exact W.iret (v := ((1000 * ((u10 6) - (r 6))) + v12)) hx hb hr (fun t ht hW => ⟨⟨((1000 * ((u10 6) - (r 6))) + v12), u10, rfl, hF, ⟨by rw [ht]; exact hP, hD⟩⟩, hS.F ht⟩) hS.2.2 dX5_simulate_81
      · have hF := hF.trans (if_pos c_6)
        refine lv_iconst (v := 0) hx hb dX5_simulate_32 (by decide) ?_
        refine W.widen (k := 2) (n := 12) (Nat.le_of_ble_eq_true rfl) (Nat.le_of_ble_eq_true rfl) ?_
        refine vx_ret ?_
        exact W.iret (v := 0) hx hb hr (fun t ht hW => ⟨⟨0, rc, rfl, hF, ⟨by rw [ht]; exact hP, hD⟩⟩, hS.F ht⟩) hS.2.2 dX5_simulate_33
    · have hF := hF.trans (if_neg c_3)
      obtain ⟨sa13, hsa13⟩ := hXE.2 _ (List.mem_of_getElem? (i := 15) rfl)
      exact vx_throwS (names := xN) hx hb hst hown (by decide +kernel) (by decide +kernel) w_0 w_1 hsa13 (vx_hat (fun w hw => hts w (List.mem_cons_of_mem _ (List.mem_append_right _ hw))) x_bad44 (xE_bad hXE hXE.1.1.1)) x_good44 hXZ.1 hXZ.2 hS (hml.trans hl.1.symm).symm dX5_simulate_12 dX5_simulate_15 dX5_simulate_16 dX5_simulate_18 dX5_simulate_21 (fun x hx => (htab x hx).elim) (Nat.le_of_ble_eq_true rfl) (Nat.le_of_ble_eq_true rfl) (Nat.le_of_ble_eq_true rfl) (Nat.le_of_ble_eq_true rfl) hlocks (fun t hvm hz hk => ⟨rc, trivial, ⟨⟨by rw [xc_IA]; exact hF, by rw [xc_IA]; decide⟩, ⟨x_grow hP hk, hD⟩⟩, x_F hS hz hk⟩) hS.2.2 (Nat.le_of_ble_eq_true rfl) (Nat.le_of_ble_eq_true rfl)
