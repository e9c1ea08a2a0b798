/-! THE CLASS: WHAT THERE IS -/
theorem chr_cut {x : Int32} : chr ((x.toUInt32 % 65536).toInt32) := by
  have e : (x.toUInt32 % 65536) % 65536 = x.toUInt32 % 65536 := UInt32.toNat_inj.mp (by simp [UInt32.toNat_mod, Nat.mod_mod])
  constructor <;> simp [narrow, vp_nar, e]

def f_X5_about (r : gR) (p0 : Int32) : Nat × Int32 :=
    if p0 < 0 then
    (1, 0)
  else
    if p0 ≤ 11 then
      gLet (f_X3_number r p0) (fun (v5 : Int32) =>
        (0, v5))
    else
      (1, 0)
theorem f_X5_about_s (r : gR) (p0 : Int32) : f_X5_about r p0 =
    (if p0 < 0 then
    (1, 0)
  else
    if p0 ≤ 11 then
      gLet (f_X3_number r p0) (fun (v5 : Int32) =>
        (0, v5))
    else
      (1, 0)) := rfl
theorem hd_X5_about : yX5_about.cls = RX5 ∧ yX5_about.cls ≠ "java/lang/invoke/MethodHandle" ∧ yX5_about.cls ≠ "java/lang/invoke/VarHandle" ∧ (parseMethodDescriptor yX5_about.desc).map (fun d => d.parameters.length) = some 1 := by decide +kernel
set_option maxHeartbeats 4000000 in
set_option maxRecDepth 100000 in
theorem c_X5_about (l : Launch) (hst : l.stackTraces = false) (D : va_G) (y : Nat → ClassId) (a0 a1 a2 a3 a4 a5 a6 a7 : Nat) (zh : Nat) (r : gR) (p0 : Int32) (ho : okC r) : vx_Met l yX5_about wsX5_about ({ frames := 6, cells := 2, slots := 12, locals := 82 }) (xP D y [.ref a0, .int p0] zh [(a0, .inr (4, [.ref a1, .ref a2, .ref a3, .ref a4, .ref a5])), (a2, soF a6 a7 r), (a6, soV y r), (a7, soW y r)]) (va_Qi (fun (v : Int32) (u : Unit) => f_X5_about r p0 = (0, v)) (fun (u : Unit) t => va_P D vwCl [(a0, .inr (4, [.ref a1, .ref a2, .ref a3, .ref a4, .ref a5])), (a2, soF a6 a7 r), (a6, soV y r), (a7, soW y r)] t.heap ∧ va_D (va_A [(a0, .inr (4, [.ref a1, .ref a2, .ref a3, .ref a4, .ref a5])), (a2, soF a6 a7 r), (a6, soV y r), (a7, soW y r)] zh) [(a0, .inr (4, [.ref a1, .ref a2, .ref a3, .ref a4, .ref a5])), (a2, soF a6 a7 r), (a6, soV y r), (a7, soW y r)]) (va_A [(a0, .inr (4, [.ref a1, .ref a2, .ref a3, .ref a4, .ref a5])), (a2, soF a6 a7 r), (a6, soV y r), (a7, soW y r)] zh)) (vx_X (fun _ : Unit => True) (fun (E : String) (u : Unit) t => (f_X5_about r p0 = (xc E, 0) ∧ xc E ≠ 0) ∧ (va_P D vwCl [(a0, .inr (4, [.ref a1, .ref a2, .ref a3, .ref a4, .ref a5])), (a2, soF a6 a7 r), (a6, soV y r), (a7, soW y r)] t.heap ∧ va_D (va_A [(a0, .inr (4, [.ref a1, .ref a2, .ref a3, .ref a4, .ref a5])), (a2, soF a6 a7 r), (a6, soV y r), (a7, soW y r)] zh) [(a0, .inr (4, [.ref a1, .ref a2, .ref a3, .ref a4, .ref a5])), (a2, soF a6 a7 r), (a6, soV y r), (a7, soW y r)])) (va_A [(a0, .inr (4, [.ref a1, .ref a2, .ref a3, .ref a4, .ref a5])), (a2, soF a6 a7 r), (a6, soV y r), (a7, soW y r)] zh)) 2 12 (va_A [(a0, .inr (4, [.ref a1, .ref a2, .ref a3, .ref a4, .ref a5])), (a2, soF a6 a7 r), (a6, soV y r), (a7, soW y r)] zh) := by
  refine vx_ofW (cc := cX5_about) (maxL := 2) (ret := (some .int)) (by decide) rfl ?_
  intro p e s m args below meth c s₁ B hml htab hv
  obtain ⟨⟨rfl, hsz, hP, hE, hD⟩, hXE, hXZ⟩ := hv
  have hx := B.exec
  have hb := B.bytes
  have hr := B.returns
  have hts := atoms_spec (ws := wsX5_about) B.pre
  have hown : s.vm.findClass RX5 = some m.cls := findClass_of_methodNamed B.named
  have hlocks := B.notSynchronized
  have w_0 := hts (.classLink RX5 40 "java/lang/IllegalArgumentException") (List.mem_cons_of_mem _ (List.mem_append_left _ (List.mem_append_left _ (List.mem_append_left _ (List.mem_append_left _ (List.mem_of_getElem? (i := 0) rfl))))))
  have w_1 := hts (.initialized "java/lang/IllegalArgumentException") (List.mem_cons_of_mem _ (List.mem_append_left _ (List.mem_append_left _ (List.mem_append_left _ (List.mem_append_left _ (List.mem_of_getElem? (i := 1) rfl))))))
  have w_2 := hts (.fieldLink RX5 19 "GapLines" "state" "LGapLines$State;") (List.mem_cons_of_mem _ (List.mem_append_left _ (List.mem_append_left _ (List.mem_append_left _ (List.mem_append_left _ (List.mem_of_getElem? (i := 2) rfl))))))
  have hi5 : ∀ w ∈ u_ws RX5 TX5 5, w ∈ wsX5_about := fun w h => (List.mem_cons_of_mem _ (List.mem_append_left _ (List.mem_append_left _ (List.mem_append_right _ h))))
  subst hsz
  have hD := hD.self (sz := s.heap.size)
  generalize hAe : va_A [(a0, .inr (4, [.ref a1, .ref a2, .ref a3, .ref a4, .ref a5])), (a2, soF a6 a7 r), (a6, soV y r), (a7, soW y r)] s.heap.size = A at hD hXZ ⊢
  have hA : ∀ q : Nat, s.heap.size ≤ q → A q := fun q h => by rw [← hAe]; exact Or.inr h
  have hS : va_S A s.heap s.heap [] := va_S.rf
  have hl := lv_entry ([.ref a0, .int p0]) (n := 2) (Nat.le_of_ble_eq_true rfl)
  rw [lg_entry_eq]
  generalize (lg_sl ([.ref a0, .int p0]) ++ List.replicate (2 - (lg_sl ([.ref a0, .int p0])).length) Slot.unset).toArray = ls at hl ⊢
  have hl : lv_has ls 2 [(0, .ref a0), (1, .int p0)] := hl
  have hF := f_X5_about_s r p0
  refine lv_iload_n hx hb dX5_about_0 rfl (lv_at hl 1 rfl) ?_
  refine lv_if_lt (tgt := 10) hx hb dX5_about_1 (by decide) (fun c_1 => ?_) (fun c_1 => ?_)
  · have hF := hF.trans (if_pos c_1)
    obtain ⟨sa2, hsa2⟩ := hXE.2 _ (List.mem_of_getElem? (i := 3) rfl)
    exact vx_throwS (names := xN) hx hb hst hown (by decide +kernel) (by decide +kernel) w_0 w_1 hsa2 (vx_hat (fun w hw => hts w (List.mem_cons_of_mem _ (List.mem_append_right _ hw))) x_bad44 (xE_bad hXE hXE.1.1.1)) x_good44 hXZ.1 hXZ.2 hS (hml.trans hl.1.symm).symm dX5_about_10 dX5_about_13 dX5_about_14 dX5_about_16 dX5_about_19 (fun x hx => (htab x hx).elim) (Nat.le_of_ble_eq_true rfl) (Nat.le_of_ble_eq_true rfl) (Nat.le_of_ble_eq_true rfl) (Nat.le_of_ble_eq_true rfl) hlocks (fun t hvm hz hk => ⟨(), trivial, ⟨⟨by rw [xc_IA]; exact hF, by rw [xc_IA]; decide⟩, ⟨x_grow hP hk, hD⟩⟩, x_F hS hz hk⟩) hS.2.2 (Nat.le_of_ble_eq_true rfl) (Nat.le_of_ble_eq_true rfl)
  · have hF := hF.trans (if_neg c_1)
    refine lv_iload_n hx hb dX5_about_4 rfl (lv_at hl 1 rfl) ?_
    refine lv_bipush (v := 11) hx hb dX5_about_5 (by decide) ?_
    refine lv_icmp_le (tgt := 20) hx hb dX5_about_7 (by decide) (fun c_3 => ?_) (fun c_3 => ?_)
    · have hF := hF.trans (if_pos c_3)
      refine lv_aload_n hx hb dX5_about_20 rfl (lv_at hl 0 rfl) ?_
      refine va_get (D := D) (ci := 4) (v := .ref a2) (C := RX5) (T := TX5) (N := 5) hx hb hts hi5 hown hE.1 hP 0 rfl rfl 1 (by decide) w_2 (fun _ h9 => h9) rfl dX5_about_21 ?_
      refine lv_iload_n hx hb dX5_about_24 rfl (lv_at hl 1 rfl) ?_
      refine xs_calli (va_runV (As := [.int p0]) (rest := []) ⟨hx, hb, hml, hown, hts⟩ (c_X3_number l D y a2 a6 a7 s.heap.size r p0 ho) (cwV 1 hts gX5_about_X3_number rfl rfl rfl hd_X3_number ⟨Nat.le_of_ble_eq_true rfl, Nat.le_of_ble_eq_true rfl⟩) (gV (q := (RX3, TX3, 15)) hE (hP.sub [1, 2, 3] rfl) (hD.sub [1, 2, 3] (by decide) rfl) 0 rfl rfl) rfl rfl hl.1 rfl (lv_room (Nat.le_of_ble_eq_true rfl)) dX5_about_25 ⟨Nat.le_of_ble_eq_true rfl, Nat.le_of_ble_eq_true rfl⟩) (fun v5 h4 => ?_)
      have hF := hF.trans (gLet_e h4)
      refine W.widen (k := 2) (n := 12) (Nat.le_of_ble_eq_true rfl) (Nat.le_of_ble_eq_true rfl) ?_
      refine vx_ret ?_
      exact W.iret (v := v5) hx hb hr (fun t ht hW => ⟨⟨v5, (), rfl, hF, ⟨by rw [ht]; exact hP, hD⟩⟩, hS.F ht⟩) hS.2.2 dX5_about_28
    · have hF := hF.trans (if_neg c_3)
      obtain ⟨sa6, hsa6⟩ := hXE.2 _ (List.mem_of_getElem? (i := 3) rfl)
      exact vx_throwS (names := xN) hx hb hst hown (by decide +kernel) (by decide +kernel) w_0 w_1 hsa6 (vx_hat (fun w hw => hts w (List.mem_cons_of_mem _ (List.mem_append_right _ hw))) x_bad44 (xE_bad hXE hXE.1.1.1)) x_good44 hXZ.1 hXZ.2 hS (hml.trans hl.1.symm).symm dX5_about_10 dX5_about_13 dX5_about_14 dX5_about_16 dX5_about_19 (fun x hx => (htab x hx).elim) (Nat.le_of_ble_eq_true rfl) (Nat.le_of_ble_eq_true rfl) (Nat.le_of_ble_eq_true rfl) (Nat.le_of_ble_eq_true rfl) hlocks (fun t hvm hz hk => ⟨(), trivial, ⟨⟨by rw [xc_IA]; exact hF, by rw [xc_IA]; decide⟩, ⟨x_grow hP hk, hD⟩⟩, x_F hS hz hk⟩) hS.2.2 (Nat.le_of_ble_eq_true rfl) (Nat.le_of_ble_eq_true rfl)

def f_X5_read (r : gR) (p0 : Int32) : Nat × Int32 :=
    gLet (f_X5_requireLine r p0) (fun (n1 : Nat) =>
    if n1 = 0 then
      gLet (f_X3_valueOf r p0) (fun (v7 : Int32) =>
        (0, v7))
    else
      (n1, 0))
theorem f_X5_read_s (r : gR) (p0 : Int32) : f_X5_read r p0 =
    (gLet (f_X5_requireLine r p0) (fun (n1 : Nat) =>
    if n1 = 0 then
      gLet (f_X3_valueOf r p0) (fun (v7 : Int32) =>
        (0, v7))
    else
      (n1, 0))) := rfl
theorem hd_X5_read : yX5_read.cls = RX5 ∧ yX5_read.cls ≠ "java/lang/invoke/MethodHandle" ∧ yX5_read.cls ≠ "java/lang/invoke/VarHandle" ∧ (parseMethodDescriptor yX5_read.desc).map (fun d => d.parameters.length) = some 1 := by decide +kernel
set_option maxHeartbeats 4000000 in
set_option maxRecDepth 100000 in
theorem c_X5_read (l : Launch) (hst : l.stackTraces = false) (D : va_G) (y : Nat → ClassId) (a0 a1 a2 a3 a4 a5 a6 a7 : Nat) (zh : Nat) (r : gR) (p0 : Int32) (ho : okC r) : vx_Met l yX5_read wsX5_read ({ frames := 7, cells := 2, slots := 12, locals := 103 }) (xP D y [.ref a0, .int p0] zh [(a0, .inr (4, [.ref a1, .ref a2, .ref a3, .ref a4, .ref a5])), (a2, soF a6 a7 r), (a6, soV y r), (a7, soW y r)]) (va_Qi (fun (v : Int32) (u : Unit) => f_X5_read r p0 = (0, v)) (fun (u : Unit) t => va_P D vwCl [(a0, .inr (4, [.ref a1, .ref a2, .ref a3, .ref a4, .ref a5])), (a2, soF a6 a7 r), (a6, soV y r), (a7, soW y r)] t.heap ∧ va_D (va_A [(a0, .inr (4, [.ref a1, .ref a2, .ref a3, .ref a4, .ref a5])), (a2, soF a6 a7 r), (a6, soV y r), (a7, soW y r)] zh) [(a0, .inr (4, [.ref a1, .ref a2, .ref a3, .ref a4, .ref a5])), (a2, soF a6 a7 r), (a6, soV y r), (a7, soW y r)]) (va_A [(a0, .inr (4, [.ref a1, .ref a2, .ref a3, .ref a4, .ref a5])), (a2, soF a6 a7 r), (a6, soV y r), (a7, soW y r)] zh)) (vx_X (fun _ : Unit => True) (fun (E : String) (u : Unit) t => (f_X5_read r p0 = (xc E, 0) ∧ xc E ≠ 0) ∧ (va_P D vwCl [(a0, .inr (4, [.ref a1, .ref a2, .ref a3, .ref a4, .ref a5])), (a2, soF a6 a7 r), (a6, soV y r), (a7, soW y r)] t.heap ∧ va_D (va_A [(a0, .inr (4, [.ref a1, .ref a2, .ref a3, .ref a4, .ref a5])), (a2, soF a6 a7 r), (a6, soV y r), (a7, soW y r)] zh) [(a0, .inr (4, [.ref a1, .ref a2, .ref a3, .ref a4, .ref a5])), (a2, soF a6 a7 r), (a6, soV y r), (a7, soW y r)])) (va_A [(a0, .inr (4, [.ref a1, .ref a2, .ref a3, .ref a4, .ref a5])), (a2, soF a6 a7 r), (a6, soV y r), (a7, soW y r)] zh)) 2 12 (va_A [(a0, .inr (4, [.ref a1, .ref a2, .ref a3, .ref a4, .ref a5])), (a2, soF a6 a7 r), (a6, soV y r), (a7, soW y r)] zh) := by
  refine vx_ofW (cc := cX5_read) (maxL := 2) (ret := (some .int)) (by decide) rfl ?_
  intro p e s m args below meth c s₁ B hml htab hv
  obtain ⟨⟨rfl, hsz, hP, hE, hD⟩, hXE, hXZ⟩ := hv
  have hx := B.exec
  have hb := B.bytes
  have hr := B.returns
  have hts := atoms_spec (ws := wsX5_read) B.pre
  have hown : s.vm.findClass RX5 = some m.cls := findClass_of_methodNamed B.named
  have hlocks := B.notSynchronized
  have w_0 := hts (.fieldLink RX5 19 "GapLines" "state" "LGapLines$State;") (List.mem_cons_of_mem _ (List.mem_append_left _ (List.mem_append_left _ (List.mem_append_left _ (List.mem_of_getElem? (i := 0) rfl)))))
  have hi5 : ∀ w ∈ u_ws RX5 TX5 5, w ∈ wsX5_read := fun w h => (List.mem_cons_of_mem _ (List.mem_append_left _ (List.mem_append_left _ (List.mem_append_right _ h))))
  subst hsz
  have hD := hD.self (sz := s.heap.size)
  generalize hAe : va_A [(a0, .inr (4, [.ref a1, .ref a2, .ref a3, .ref a4, .ref a5])), (a2, soF a6 a7 r), (a6, soV y r), (a7, soW y r)] s.heap.size = A at hD hXZ ⊢
  have hA : ∀ q : Nat, s.heap.size ≤ q → A q := fun q h => by rw [← hAe]; exact Or.inr h
  have hS : va_S A s.heap s.heap [] := va_S.rf
  have hl := lv_entry ([.ref a0, .int p0]) (n := 2) (Nat.le_of_ble_eq_true rfl)
  rw [lg_entry_eq]
  generalize (lg_sl ([.ref a0, .int p0]) ++ List.replicate (2 - (lg_sl ([.ref a0, .int p0])).length) Slot.unset).toArray = ls at hl ⊢
  have hl : lv_has ls 2 [(0, .ref a0), (1, .int p0)] := hl
  have hF := f_X5_read_s r p0
  refine lv_aload_n hx hb dX5_read_0 rfl (lv_at hl 0 rfl) ?_
  refine lv_iload_n hx hb dX5_read_1 rfl (lv_at hl 1 rfl) ?_
  refine xq_call (vx_runV (As := [.int p0]) (rest := []) ⟨hx, hb, hml, hown, hts⟩ (c_X5_requireLine l hst D y a0 a1 a2 a3 a4 a5 a6 a7 s.heap.size r p0) (cwV 1 hts gX5_read_X5_requireLine rfl rfl rfl hd_X5_requireLine ⟨Nat.le_of_ble_eq_true rfl, Nat.le_of_ble_eq_true rfl⟩) (xV (q := (RX5, TX5, 5)) hE hXE hXZ hS hA hP hD 0 rfl rfl) rfl rfl hl.1 rfl (lv_room (Nat.le_of_ble_eq_true rfl)) dX5_read_2 ⟨Nat.le_of_ble_eq_true rfl, Nat.le_of_ble_eq_true rfl⟩) hP hD hS hA [0, 1, 2, 3] rfl (by decide) (fun E3 ce4 q5 H locs h2 h2z hP hD hS h2a h2b h2c => ?_) (fun H locs h2 hP hD hS => ?_)
  · have hP : va_P D vwCl [(a0, .inr (4, [.ref a1, .ref a2, .ref a3, .ref a4, .ref a5])), (a2, soF a6 a7 r), (a6, soV y r), (a7, soW y r)] H := hP
    have hD : va_D A [(a0, .inr (4, [.ref a1, .ref a2, .ref a3, .ref a4, .ref a5])), (a2, soF a6 a7 r), (a6, soV y r), (a7, soW y r)] := hD
    have hF := hF.trans ((gLet_e h2).trans (if_neg h2z))
    refine vx_out (fun x hx => (htab x hx).elim) hlocks h2a h2b h2c (fun t ht hvm => ⟨(), trivial, ⟨⟨hF, h2z⟩, ⟨by rw [ht]; exact hP, hD⟩⟩, hS.F ht⟩) hS.2.2 (Nat.le_of_ble_eq_true rfl) (Nat.le_of_ble_eq_true rfl)
  have hP : va_P D vwCl [(a0, .inr (4, [.ref a1, .ref a2, .ref a3, .ref a4, .ref a5])), (a2, soF a6 a7 r), (a6, soV y r), (a7, soW y r)] H := hP
  have hD : va_D A [(a0, .inr (4, [.ref a1, .ref a2, .ref a3, .ref a4, .ref a5])), (a2, soF a6 a7 r), (a6, soV y r), (a7, soW y r)] := hD
  have hF := hF.trans ((gLet_e h2).trans (if_pos rfl))
  refine lv_aload_n hx hb dX5_read_5 rfl (lv_at hl 0 rfl) ?_
  refine va_get (D := D) (ci := 4) (v := .ref a2) (C := RX5) (T := TX5) (N := 5) hx hb hts hi5 hown hE.1 hP 0 rfl rfl 1 (by decide) w_0 (fun _ h9 => h9) rfl dX5_read_6 ?_
  refine lv_iload_n hx hb dX5_read_9 rfl (lv_at hl 1 rfl) ?_
  refine xs_calli (va_runV (As := [.int p0]) (rest := []) ⟨hx, hb, hml, hown, hts⟩ (c_X3_valueOf l D y a2 a6 a7 H.size r p0 ho) (cwV 1 hts gX5_read_X3_valueOf rfl rfl rfl hd_X3_valueOf ⟨Nat.le_of_ble_eq_true rfl, Nat.le_of_ble_eq_true rfl⟩) (gV (q := (RX3, TX3, 15)) hE (hP.sub [1, 2, 3] rfl) (hD.sub [1, 2, 3] (by decide) rfl) 0 rfl rfl) rfl rfl hl.1 rfl (lv_room (Nat.le_of_ble_eq_true rfl)) dX5_read_10 ⟨Nat.le_of_ble_eq_true rfl, Nat.le_of_ble_eq_true rfl⟩) (fun v7 h6 => ?_)
  have hF := hF.trans (gLet_e h6)
  refine W.widen (k := 2) (n := 12) (Nat.le_of_ble_eq_true rfl) (Nat.le_of_ble_eq_true rfl) ?_
  refine vx_ret ?_
  exact W.iret (v := v7) hx hb hr (fun t ht hW => ⟨⟨v7, (), rfl, hF, ⟨by rw [ht]; exact hP, hD⟩⟩, hS.F ht⟩) hS.2.2 dX5_read_13

def f_X5_place (r : gR) (p0 : Int32) : Nat × Int32 :=
    gLet (f_X5_requireLine r p0) (fun (n1 : Nat) =>
    if n1 = 0 then
      gLet (f_X3_placeOf r p0) (fun (v7 : Int32) =>
        (0, v7))
    else
      (n1, 0))
theorem f_X5_place_s (r : gR) (p0 : Int32) : f_X5_place r p0 =
    (gLet (f_X5_requireLine r p0) (fun (n1 : Nat) =>
    if n1 = 0 then
      gLet (f_X3_placeOf r p0) (fun (v7 : Int32) =>
        (0, v7))
    else
      (n1, 0))) := rfl
theorem hd_X5_place : yX5_place.cls = RX5 ∧ yX5_place.cls ≠ "java/lang/invoke/MethodHandle" ∧ yX5_place.cls ≠ "java/lang/invoke/VarHandle" ∧ (parseMethodDescriptor yX5_place.desc).map (fun d => d.parameters.length) = some 1 := by decide +kernel
set_option maxHeartbeats 4000000 in
set_option maxRecDepth 100000 in
theorem c_X5_place (l : Launch) (hst : l.stackTraces = false) (D : va_G) (y : Nat → ClassId) (a0 a1 a2 a3 a4 a5 a6 a7 : Nat) (zh : Nat) (r : gR) (p0 : Int32) (ho : okC r) : vx_Met l yX5_place wsX5_place ({ frames := 7, cells := 2, slots := 12, locals := 103 }) (xP D y [.ref a0, .int p0] zh [(a0, .inr (4, [.ref a1, .ref a2, .ref a3, .ref a4, .ref a5])), (a2, soF a6 a7 r), (a6, soV y r), (a7, soW y r)]) (va_Qi (fun (v : Int32) (u : Unit) => f_X5_place r p0 = (0, v)) (fun (u : Unit) t => va_P D vwCl [(a0, .inr (4, [.ref a1, .ref a2, .ref a3, .ref a4, .ref a5])), (a2, soF a6 a7 r), (a6, soV y r), (a7, soW y r)] t.heap ∧ va_D (va_A [(a0, .inr (4, [.ref a1, .ref a2, .ref a3, .ref a4, .ref a5])), (a2, soF a6 a7 r), (a6, soV y r), (a7, soW y r)] zh) [(a0, .inr (4, [.ref a1, .ref a2, .ref a3, .ref a4, .ref a5])), (a2, soF a6 a7 r), (a6, soV y r), (a7, soW y r)]) (va_A [(a0, .inr (4, [.ref a1, .ref a2, .ref a3, .ref a4, .ref a5])), (a2, soF a6 a7 r), (a6, soV y r), (a7, soW y r)] zh)) (vx_X (fun _ : Unit => True) (fun (E : String) (u : Unit) t => (f_X5_place r p0 = (xc E, 0) ∧ xc E ≠ 0) ∧ (va_P D vwCl [(a0, .inr (4, [.ref a1, .ref a2, .ref a3, .ref a4, .ref a5])), (a2, soF a6 a7 r), (a6, soV y r), (a7, soW y r)] t.heap ∧ va_D (va_A [(a0, .inr (4, [.ref a1, .ref a2, .ref a3, .ref a4, .ref a5])), (a2, soF a6 a7 r), (a6, soV y r), (a7, soW y r)] zh) [(a0, .inr (4, [.ref a1, .ref a2, .ref a3, .ref a4, .ref a5])), (a2, soF a6 a7 r), (a6, soV y r), (a7, soW y r)])) (va_A [(a0, .inr (4, [.ref a1, .ref a2, .ref a3, .ref a4, .ref a5])), (a2, soF a6 a7 r), (a6, soV y r), (a7, soW y r)] zh)) 2 12 (va_A [(a0, .inr (4, [.ref a1, .ref a2, .ref a3, .ref a4, .ref a5])), (a2, soF a6 a7 r), (a6, soV y r), (a7, soW y r)] zh) := by
  refine vx_ofW (cc := cX5_place) (maxL := 2) (ret := (some .int)) (by decide) rfl ?_
  intro p e s m args below meth c s₁ B hml htab hv
  obtain ⟨⟨rfl, hsz, hP, hE, hD⟩, hXE, hXZ⟩ := hv
  have hx := B.exec
  have hb := B.bytes
  have hr := B.returns
  have hts := atoms_spec (ws := wsX5_place) B.pre
  have hown : s.vm.findClass RX5 = some m.cls := findClass_of_methodNamed B.named
  have hlocks := B.notSynchronized
  have w_0 := hts (.fieldLink RX5 19 "GapLines" "state" "LGapLines$State;") (List.mem_cons_of_mem _ (List.mem_append_left _ (List.mem_append_left _ (List.mem_append_left _ (List.mem_append_left _ (List.mem_of_getElem? (i := 0) rfl))))))
  have hi5 : ∀ w ∈ u_ws RX5 TX5 5, w ∈ wsX5_place := fun w h => (List.mem_cons_of_mem _ (List.mem_append_left _ (List.mem_append_left _ (List.mem_append_right _ h))))
  subst hsz
  have hD := hD.self (sz := s.heap.size)
  generalize hAe : va_A [(a0, .inr (4, [.ref a1, .ref a2, .ref a3, .ref a4, .ref a5])), (a2, soF a6 a7 r), (a6, soV y r), (a7, soW y r)] s.heap.size = A at hD hXZ ⊢
  have hA : ∀ q : Nat, s.heap.size ≤ q → A q := fun q h => by rw [← hAe]; exact Or.inr h
  have hS : va_S A s.heap s.heap [] := va_S.rf
  have hl := lv_entry ([.ref a0, .int p0]) (n := 2) (Nat.le_of_ble_eq_true rfl)
  rw [lg_entry_eq]
  generalize (lg_sl ([.ref a0, .int p0]) ++ List.replicate (2 - (lg_sl ([.ref a0, .int p0])).length) Slot.unset).toArray = ls at hl ⊢
  have hl : lv_has ls 2 [(0, .ref a0), (1, .int p0)] := hl
  have hF := f_X5_place_s r p0
  refine lv_aload_n hx hb dX5_place_0 rfl (lv_at hl 0 rfl) ?_
  refine lv_iload_n hx hb dX5_place_1 rfl (lv_at hl 1 rfl) ?_
  refine xq_call (vx_runV (As := [.int p0]) (rest := []) ⟨hx, hb, hml, hown, hts⟩ (c_X5_requireLine l hst D y a0 a1 a2 a3 a4 a5 a6 a7 s.heap.size r p0) (cwV 1 hts gX5_place_X5_requireLine rfl rfl rfl hd_X5_requireLine ⟨Nat.le_of_ble_eq_true rfl, Nat.le_of_ble_eq_true rfl⟩) (xV (q := (RX5, TX5, 5)) hE hXE hXZ hS hA hP hD 0 rfl rfl) rfl rfl hl.1 rfl (lv_room (Nat.le_of_ble_eq_true rfl)) dX5_place_2 ⟨Nat.le_of_ble_eq_true rfl, Nat.le_of_ble_eq_true rfl⟩) hP hD hS hA [0, 1, 2, 3] rfl (by decide) (fun E3 ce4 q5 H locs h2 h2z hP hD hS h2a h2b h2c => ?_) (fun H locs h2 hP hD hS => ?_)
  · have hP : va_P D vwCl [(a0, .inr (4, [.ref a1, .ref a2, .ref a3, .ref a4, .ref a5])), (a2, soF a6 a7 r), (a6, soV y r), (a7, soW y r)] H := hP
    have hD : va_D A [(a0, .inr (4, [.ref a1, .ref a2, .ref a3, .ref a4, .ref a5])), (a2, soF a6 a7 r), (a6, soV y r), (a7, soW y r)] := hD
    have hF := hF.trans ((gLet_e h2).trans (if_neg h2z))
    refine vx_out (fun x hx => (htab x hx).elim) hlocks h2a h2b h2c (fun t ht hvm => ⟨(), trivial, ⟨⟨hF, h2z⟩, ⟨by rw [ht]; exact hP, hD⟩⟩, hS.F ht⟩) hS.2.2 (Nat.le_of_ble_eq_true rfl) (Nat.le_of_ble_eq_true rfl)
  have hP : va_P D vwCl [(a0, .inr (4, [.ref a1, .ref a2, .ref a3, .ref a4, .ref a5])), (a2, soF a6 a7 r), (a6, soV y r), (a7, soW y r)] H := hP
  have hD : va_D A [(a0, .inr (4, [.ref a1, .ref a2, .ref a3, .ref a4, .ref a5])), (a2, soF a6 a7 r), (a6, soV y r), (a7, soW y r)] := hD
  have hF := hF.trans ((gLet_e h2).trans (if_pos rfl))
  refine lv_aload_n hx hb dX5_place_5 rfl (lv_at hl 0 rfl) ?_
  refine va_get (D := D) (ci := 4) (v := .ref a2) (C := RX5) (T := TX5) (N := 5) hx hb hts hi5 hown hE.1 hP 0 rfl rfl 1 (by decide) w_0 (fun _ h9 => h9) rfl dX5_place_6 ?_
  refine lv_iload_n hx hb dX5_place_9 rfl (lv_at hl 1 rfl) ?_
  refine xs_calli (va_runV (As := [.int p0]) (rest := []) ⟨hx, hb, hml, hown, hts⟩ (c_X3_placeOf l D y a2 a6 a7 H.size r p0) (cwV 1 hts gX5_place_X3_placeOf rfl rfl rfl hd_X3_placeOf ⟨Nat.le_of_ble_eq_true rfl, Nat.le_of_ble_eq_true rfl⟩) (gV (q := (RX3, TX3, 15)) hE (hP.sub [1, 2, 3] rfl) (hD.sub [1, 2, 3] (by decide) rfl) 0 rfl rfl) rfl rfl hl.1 rfl (lv_room (Nat.le_of_ble_eq_true rfl)) dX5_place_10 ⟨Nat.le_of_ble_eq_true rfl, Nat.le_of_ble_eq_true rfl⟩) (fun v7 h6 => ?_)
  have hF := hF.trans (gLet_e h6)
  refine W.widen (k := 2) (n := 12) (Nat.le_of_ble_eq_true rfl) (Nat.le_of_ble_eq_true rfl) ?_
  refine vx_ret ?_
  exact W.iret (v := v7) hx hb hr (fun t ht hW => ⟨⟨v7, (), rfl, hF, ⟨by rw [ht]; exact hP, hD⟩⟩, hS.F ht⟩) hS.2.2 dX5_place_13

def f_X5_line (r : gR) (p0 : Int32) : Nat × Int32 :=
    gLet (f_X5_requirePlace r p0) (fun (n1 : Nat) =>
    if n1 = 0 then
      gLet (f_X3_lineAt r p0) (fun (v7 : Int32) =>
        (0, v7))
    else
      (n1, 0))
theorem f_X5_line_s (r : gR) (p0 : Int32) : f_X5_line r p0 =
    (gLet (f_X5_requirePlace r p0) (fun (n1 : Nat) =>
    if n1 = 0 then
      gLet (f_X3_lineAt r p0) (fun (v7 : Int32) =>
        (0, v7))
    else
      (n1, 0))) := rfl
theorem hd_X5_line : yX5_line.cls = RX5 ∧ yX5_line.cls ≠ "java/lang/invoke/MethodHandle" ∧ yX5_line.cls ≠ "java/lang/invoke/VarHandle" ∧ (parseMethodDescriptor yX5_line.desc).map (fun d => d.parameters.length) = some 1 := by decide +kernel
set_option maxHeartbeats 4000000 in
set_option maxRecDepth 100000 in
theorem c_X5_line (l : Launch) (hst : l.stackTraces = false) (D : va_G) (y : Nat → ClassId) (a0 a1 a2 a3 a4 a5 a6 a7 : Nat) (zh : Nat) (r : gR) (p0 : Int32) (ho : okC r) : vx_Met l yX5_line wsX5_line ({ frames := 7, cells := 2, slots := 12, locals := 103 }) (xP D y [.ref a0, .int p0] zh [(a0, .inr (4, [.ref a1, .ref a2, .ref a3, .ref a4, .ref a5])), (a2, soF a6 a7 r), (a6, soV y r), (a7, soW y r)]) (va_Qi (fun (v : Int32) (u : Unit) => f_X5_line r p0 = (0, v)) (fun (u : Unit) t => va_P D vwCl [(a0, .inr (4, [.ref a1, .ref a2, .ref a3, .ref a4, .ref a5])), (a2, soF a6 a7 r), (a6, soV y r), (a7, soW y r)] t.heap ∧ va_D (va_A [(a0, .inr (4, [.ref a1, .ref a2, .ref a3, .ref a4, .ref a5])), (a2, soF a6 a7 r), (a6, soV y r), (a7, soW y r)] zh) [(a0, .inr (4, [.ref a1, .ref a2, .ref a3, .ref a4, .ref a5])), (a2, soF a6 a7 r), (a6, soV y r), (a7, soW y r)]) (va_A [(a0, .inr (4, [.ref a1, .ref a2, .ref a3, .ref a4, .ref a5])), (a2, soF a6 a7 r), (a6, soV y r), (a7, soW y r)] zh)) (vx_X (fun _ : Unit => True) (fun (E : String) (u : Unit) t => (f_X5_line r p0 = (xc E, 0) ∧ xc E ≠ 0) ∧ (va_P D vwCl [(a0, .inr (4, [.ref a1, .ref a2, .ref a3, .ref a4, .ref a5])), (a2, soF a6 a7 r), (a6, soV y r), (a7, soW y r)] t.heap ∧ va_D (va_A [(a0, .inr (4, [.ref a1, .ref a2, .ref a3, .ref a4, .ref a5])), (a2, soF a6 a7 r), (a6, soV y r), (a7, soW y r)] zh) [(a0, .inr (4, [.ref a1, .ref a2, .ref a3, .ref a4, .ref a5])), (a2, soF a6 a7 r), (a6, soV y r), (a7, soW y r)])) (va_A [(a0, .inr (4, [.ref a1, .ref a2, .ref a3, .ref a4, .ref a5])), (a2, soF a6 a7 r), (a6, soV y r), (a7, soW y r)] zh)) 2 12 (va_A [(a0, .inr (4, [.ref a1, .ref a2, .ref a3, .ref a4, .ref a5])), (a2, soF a6 a7 r), (a6, soV y r), (a7, soW y r)] zh) := by
  refine vx_ofW (cc := cX5_line) (maxL := 2) (ret := (some .int)) (by decide) rfl ?_
  intro p e s m args below meth c s₁ B hml htab hv
  obtain ⟨⟨rfl, hsz, hP, hE, hD⟩, hXE, hXZ⟩ := hv
  have hx := B.exec
  have hb := B.bytes
  have hr := B.returns
  have hts := atoms_spec (ws := wsX5_line) B.pre
  have hown : s.vm.findClass RX5 = some m.cls := findClass_of_methodNamed B.named
  have hlocks := B.notSynchronized
  have w_0 := hts (.fieldLink RX5 19 "GapLines" "state" "LGapLines$State;") (List.mem_cons_of_mem _ (List.mem_append_left _ (List.mem_append_left _ (List.mem_append_left _ (List.mem_append_left _ (List.mem_of_getElem? (i := 0) rfl))))))
  have hi5 : ∀ w ∈ u_ws RX5 TX5 5, w ∈ wsX5_line := fun w h => (List.mem_cons_of_mem _ (List.mem_append_left _ (List.mem_append_left _ (List.mem_append_right _ h))))
  subst hsz
  have hD := hD.self (sz := s.heap.size)
  generalize hAe : va_A [(a0, .inr (4, [.ref a1, .ref a2, .ref a3, .ref a4, .ref a5])), (a2, soF a6 a7 r), (a6, soV y r), (a7, soW y r)] s.heap.size = A at hD hXZ ⊢
  have hA : ∀ q : Nat, s.heap.size ≤ q → A q := fun q h => by rw [← hAe]; exact Or.inr h
  have hS : va_S A s.heap s.heap [] := va_S.rf
  have hl := lv_entry ([.ref a0, .int p0]) (n := 2) (Nat.le_of_ble_eq_true rfl)
  rw [lg_entry_eq]
  generalize (lg_sl ([.ref a0, .int p0]) ++ List.replicate (2 - (lg_sl ([.ref a0, .int p0])).length) Slot.unset).toArray = ls at hl ⊢
  have hl : lv_has ls 2 [(0, .ref a0), (1, .int p0)] := hl
  have hF := f_X5_line_s r p0
  refine lv_aload_n hx hb dX5_line_0 rfl (lv_at hl 0 rfl) ?_
  refine lv_iload_n hx hb dX5_line_1 rfl (lv_at hl 1 rfl) ?_
  refine xq_call (vx_runV (As := [.int p0]) (rest := []) ⟨hx, hb, hml, hown, hts⟩ (c_X5_requirePlace l hst D y a0 a1 a2 a3 a4 a5 a6 a7 s.heap.size r p0) (cwV 1 hts gX5_line_X5_requirePlace rfl rfl rfl hd_X5_requirePlace ⟨Nat.le_of_ble_eq_true rfl, Nat.le_of_ble_eq_true rfl⟩) (xV (q := (RX5, TX5, 5)) hE hXE hXZ hS hA hP hD 0 rfl rfl) rfl rfl hl.1 rfl (lv_room (Nat.le_of_ble_eq_true rfl)) dX5_line_2 ⟨Nat.le_of_ble_eq_true rfl, Nat.le_of_ble_eq_true rfl⟩) hP hD hS hA [0, 1, 2, 3] rfl (by decide) (fun E3 ce4 q5 H locs h2 h2z hP hD hS h2a h2b h2c => ?_) (fun H locs h2 hP hD hS => ?_)
  · have hP : va_P D vwCl [(a0, .inr (4, [.ref a1, .ref a2, .ref a3, .ref a4, .ref a5])), (a2, soF a6 a7 r), (a6, soV y r), (a7, soW y r)] H := hP
    have hD : va_D A [(a0, .inr (4, [.ref a1, .ref a2, .ref a3, .ref a4, .ref a5])), (a2, soF a6 a7 r), (a6, soV y r), (a7, soW y r)] := hD
    have hF := hF.trans ((gLet_e h2).trans (if_neg h2z))
    refine vx_out (fun x hx => (htab x hx).elim) hlocks h2a h2b h2c (fun t ht hvm => ⟨(), trivial, ⟨⟨hF, h2z⟩, ⟨by rw [ht]; exact hP, hD⟩⟩, hS.F ht⟩) hS.2.2 (Nat.le_of_ble_eq_true rfl) (Nat.le_of_ble_eq_true rfl)
  have hP : va_P D vwCl [(a0, .inr (4, [.ref a1, .ref a2, .ref a3, .ref a4, .ref a5])), (a2, soF a6 a7 r), (a6, soV y r), (a7, soW y r)] H := hP
  have hD : va_D A [(a0, .inr (4, [.ref a1, .ref a2, .ref a3, .ref a4, .ref a5])), (a2, soF a6 a7 r), (a6, soV y r), (a7, soW y r)] := hD
  have hF := hF.trans ((gLet_e h2).trans (if_pos rfl))
  refine lv_aload_n hx hb dX5_line_5 rfl (lv_at hl 0 rfl) ?_
  refine va_get (D := D) (ci := 4) (v := .ref a2) (C := RX5) (T := TX5) (N := 5) hx hb hts hi5 hown hE.1 hP 0 rfl rfl 1 (by decide) w_0 (fun _ h9 => h9) rfl dX5_line_6 ?_
  refine lv_iload_n hx hb dX5_line_9 rfl (lv_at hl 1 rfl) ?_
  refine xs_calli (va_runV (As := [.int p0]) (rest := []) ⟨hx, hb, hml, hown, hts⟩ (c_X3_lineAt l D y a2 a6 a7 H.size r p0) (cwV 1 hts gX5_line_X3_lineAt rfl rfl rfl hd_X3_lineAt ⟨Nat.le_of_ble_eq_true rfl, Nat.le_of_ble_eq_true rfl⟩) (gV (q := (RX3, TX3, 15)) hE (hP.sub [1, 2, 3] rfl) (hD.sub [1, 2, 3] (by decide) rfl) 0 rfl rfl) rfl rfl hl.1 rfl (lv_room (Nat.le_of_ble_eq_true rfl)) dX5_line_10 ⟨Nat.le_of_ble_eq_true rfl, Nat.le_of_ble_eq_true rfl⟩) (fun v7 h6 => ?_)
  have hF := hF.trans (gLet_e h6)
  refine W.widen (k := 2) (n := 12) (Nat.le_of_ble_eq_true rfl) (Nat.le_of_ble_eq_true rfl) ?_
  refine vx_ret ?_
  exact W.iret (v := v7) hx hb hr (fun t ht hW => ⟨⟨v7, (), rfl, hF, ⟨by rw [ht]; exact hP, hD⟩⟩, hS.F ht⟩) hS.2.2 dX5_line_13

def f_X5_wear (r : gR) (p0 : Int32) : Nat × Int32 :=
    gLet (f_X5_requirePlace r p0) (fun (n1 : Nat) =>
    if n1 = 0 then
      gLet (f_X3_wearOf r p0) (fun (v7 : Int32) =>
        (0, v7))
    else
      (n1, 0))
theorem f_X5_wear_s (r : gR) (p0 : Int32) : f_X5_wear r p0 =
    (gLet (f_X5_requirePlace r p0) (fun (n1 : Nat) =>
    if n1 = 0 then
      gLet (f_X3_wearOf r p0) (fun (v7 : Int32) =>
        (0, v7))
    else
      (n1, 0))) := rfl
theorem hd_X5_wear : yX5_wear.cls = RX5 ∧ yX5_wear.cls ≠ "java/lang/invoke/MethodHandle" ∧ yX5_wear.cls ≠ "java/lang/invoke/VarHandle" ∧ (parseMethodDescriptor yX5_wear.desc).map (fun d => d.parameters.length) = some 1 := by decide +kernel
set_option maxHeartbeats 4000000 in
set_option maxRecDepth 100000 in
theorem c_X5_wear (l : Launch) (hst : l.stackTraces = false) (D : va_G) (y : Nat → ClassId) (a0 a1 a2 a3 a4 a5 a6 a7 : Nat) (zh : Nat) (r : gR) (p0 : Int32) (ho : okC r) : vx_Met l yX5_wear wsX5_wear ({ frames := 7, cells := 2, slots := 12, locals := 103 }) (xP D y [.ref a0, .int p0] zh [(a0, .inr (4, [.ref a1, .ref a2, .ref a3, .ref a4, .ref a5])), (a2, soF a6 a7 r), (a6, soV y r), (a7, soW y r)]) (va_Qi (fun (v : Int32) (u : Unit) => f_X5_wear r p0 = (0, v)) (fun (u : Unit) t => va_P D vwCl [(a0, .inr (4, [.ref a1, .ref a2, .ref a3, .ref a4, .ref a5])), (a2, soF a6 a7 r), (a6, soV y r), (a7, soW y r)] t.heap ∧ va_D (va_A [(a0, .inr (4, [.ref a1, .ref a2, .ref a3, .ref a4, .ref a5])), (a2, soF a6 a7 r), (a6, soV y r), (a7, soW y r)] zh) [(a0, .inr (4, [.ref a1, .ref a2, .ref a3, .ref a4, .ref a5])), (a2, soF a6 a7 r), (a6, soV y r), (a7, soW y r)]) (va_A [(a0, .inr (4, [.ref a1, .ref a2, .ref a3, .ref a4, .ref a5])), (a2, soF a6 a7 r), (a6, soV y r), (a7, soW y r)] zh)) (vx_X (fun _ : Unit => True) (fun (E : String) (u : Unit) t => (f_X5_wear r p0 = (xc E, 0) ∧ xc E ≠ 0) ∧ (va_P D vwCl [(a0, .inr (4, [.ref a1, .ref a2, .ref a3, .ref a4, .ref a5])), (a2, soF a6 a7 r), (a6, soV y r), (a7, soW y r)] t.heap ∧ va_D (va_A [(a0, .inr (4, [.ref a1, .ref a2, .ref a3, .ref a4, .ref a5])), (a2, soF a6 a7 r), (a6, soV y r), (a7, soW y r)] zh) [(a0, .inr (4, [.ref a1, .ref a2, .ref a3, .ref a4, .ref a5])), (a2, soF a6 a7 r), (a6, soV y r), (a7, soW y r)])) (va_A [(a0, .inr (4, [.ref a1, .ref a2, .ref a3, .ref a4, .ref a5])), (a2, soF a6 a7 r), (a6, soV y r), (a7, soW y r)] zh)) 2 12 (va_A [(a0, .inr (4, [.ref a1, .ref a2, .ref a3, .ref a4, .ref a5])), (a2, soF a6 a7 r), (a6, soV y r), (a7, soW y r)] zh) := by
  refine vx_ofW (cc := cX5_wear) (maxL := 2) (ret := (some .int)) (by decide) rfl ?_
  intro p e s m args below meth c s₁ B hml htab hv
  obtain ⟨⟨rfl, hsz, hP, hE, hD⟩, hXE, hXZ⟩ := hv
  have hx := B.exec
  have hb := B.bytes
  have hr := B.returns
  have hts := atoms_spec (ws := wsX5_wear) B.pre
  have hown : s.vm.findClass RX5 = some m.cls := findClass_of_methodNamed B.named
  have hlocks := B.notSynchronized
  have w_0 := hts (.fieldLink RX5 19 "GapLines" "state" "LGapLines$State;") (List.mem_cons_of_mem _ (List.mem_append_left _ (List.mem_append_left _ (List.mem_append_left _ (List.mem_of_getElem? (i := 0) rfl)))))
  have hi5 : ∀ w ∈ u_ws RX5 TX5 5, w ∈ wsX5_wear := fun w h => (List.mem_cons_of_mem _ (List.mem_append_left _ (List.mem_append_left _ (List.mem_append_right _ h))))
  subst hsz
  have hD := hD.self (sz := s.heap.size)
  generalize hAe : va_A [(a0, .inr (4, [.ref a1, .ref a2, .ref a3, .ref a4, .ref a5])), (a2, soF a6 a7 r), (a6, soV y r), (a7, soW y r)] s.heap.size = A at hD hXZ ⊢
  have hA : ∀ q : Nat, s.heap.size ≤ q → A q := fun q h => by rw [← hAe]; exact Or.inr h
  have hS : va_S A s.heap s.heap [] := va_S.rf
  have hl := lv_entry ([.ref a0, .int p0]) (n := 2) (Nat.le_of_ble_eq_true rfl)
  rw [lg_entry_eq]
  generalize (lg_sl ([.ref a0, .int p0]) ++ List.replicate (2 - (lg_sl ([.ref a0, .int p0])).length) Slot.unset).toArray = ls at hl ⊢
  have hl : lv_has ls 2 [(0, .ref a0), (1, .int p0)] := hl
  have hF := f_X5_wear_s r p0
  refine lv_aload_n hx hb dX5_wear_0 rfl (lv_at hl 0 rfl) ?_
  refine lv_iload_n hx hb dX5_wear_1 rfl (lv_at hl 1 rfl) ?_
  refine xq_call (vx_runV (As := [.int p0]) (rest := []) ⟨hx, hb, hml, hown, hts⟩ (c_X5_requirePlace l hst D y a0 a1 a2 a3 a4 a5 a6 a7 s.heap.size r p0) (cwV 1 hts gX5_wear_X5_requirePlace rfl rfl rfl hd_X5_requirePlace ⟨Nat.le_of_ble_eq_true rfl, Nat.le_of_ble_eq_true rfl⟩) (xV (q := (RX5, TX5, 5)) hE hXE hXZ hS hA hP hD 0 rfl rfl) rfl rfl hl.1 rfl (lv_room (Nat.le_of_ble_eq_true rfl)) dX5_wear_2 ⟨Nat.le_of_ble_eq_true rfl, Nat.le_of_ble_eq_true rfl⟩) hP hD hS hA [0, 1, 2, 3] rfl (by decide) (fun E3 ce4 q5 H locs h2 h2z hP hD hS h2a h2b h2c => ?_) (fun H locs h2 hP hD hS => ?_)
  · have hP : va_P D vwCl [(a0, .inr (4, [.ref a1, .ref a2, .ref a3, .ref a4, .ref a5])), (a2, soF a6 a7 r), (a6, soV y r), (a7, soW y r)] H := hP
    have hD : va_D A [(a0, .inr (4, [.ref a1, .ref a2, .ref a3, .ref a4, .ref a5])), (a2, soF a6 a7 r), (a6, soV y r), (a7, soW y r)] := hD
    have hF := hF.trans ((gLet_e h2).trans (if_neg h2z))
    refine vx_out (fun x hx => (htab x hx).elim) hlocks h2a h2b h2c (fun t ht hvm => ⟨(), trivial, ⟨⟨hF, h2z⟩, ⟨by rw [ht]; exact hP, hD⟩⟩, hS.F ht⟩) hS.2.2 (Nat.le_of_ble_eq_true rfl) (Nat.le_of_ble_eq_true rfl)
  have hP : va_P D vwCl [(a0, .inr (4, [.ref a1, .ref a2, .ref a3, .ref a4, .ref a5])), (a2, soF a6 a7 r), (a6, soV y r), (a7, soW y r)] H := hP
  have hD : va_D A [(a0, .inr (4, [.ref a1, .ref a2, .ref a3, .ref a4, .ref a5])), (a2, soF a6 a7 r), (a6, soV y r), (a7, soW y r)] := hD
  have hF := hF.trans ((gLet_e h2).trans (if_pos rfl))
  refine lv_aload_n hx hb dX5_wear_5 rfl (lv_at hl 0 rfl) ?_
  refine va_get (D := D) (ci := 4) (v := .ref a2) (C := RX5) (T := TX5) (N := 5) hx hb hts hi5 hown hE.1 hP 0 rfl rfl 1 (by decide) w_0 (fun _ h9 => h9) rfl dX5_wear_6 ?_
  refine lv_iload_n hx hb dX5_wear_9 rfl (lv_at hl 1 rfl) ?_
  refine xs_calli (va_runV (As := [.int p0]) (rest := []) ⟨hx, hb, hml, hown, hts⟩ (c_X3_wearOf l D y a2 a6 a7 H.size r p0 ho) (cwV 1 hts gX5_wear_X3_wearOf rfl rfl rfl hd_X3_wearOf ⟨Nat.le_of_ble_eq_true rfl, Nat.le_of_ble_eq_true rfl⟩) (gV (q := (RX3, TX3, 15)) hE (hP.sub [1, 2, 3] rfl) (hD.sub [1, 2, 3] (by decide) rfl) 0 rfl rfl) rfl rfl hl.1 rfl (lv_room (Nat.le_of_ble_eq_true rfl)) dX5_wear_10 ⟨Nat.le_of_ble_eq_true rfl, Nat.le_of_ble_eq_true rfl⟩) (fun v7 h6 => ?_)
  have hF := hF.trans (gLet_e h6)
  refine W.widen (k := 2) (n := 12) (Nat.le_of_ble_eq_true rfl) (Nat.le_of_ble_eq_true rfl) ?_
  refine vx_ret ?_
  exact W.iret (v := v7) hx hb hr (fun t ht hW => ⟨⟨v7, (), rfl, hF, ⟨by rw [ht]; exact hP, hD⟩⟩, hS.F ht⟩) hS.2.2 dX5_wear_13

def f_X5_setting (r : gR) (p0 : Int32) : Nat × Int32 :=
    gLet (f_X5_requireSetting p0) (fun (n1 : Nat) =>
    if n1 = 0 then
      gLet (f_X3_settingOf r p0) (fun (v7 : Int32) =>
        (0, v7))
    else
      (n1, 0))
theorem f_X5_setting_s (r : gR) (p0 : Int32) : f_X5_setting r p0 =
    (gLet (f_X5_requireSetting p0) (fun (n1 : Nat) =>
    if n1 = 0 then
      gLet (f_X3_settingOf r p0) (fun (v7 : Int32) =>
        (0, v7))
    else
      (n1, 0))) := rfl
theorem hd_X5_setting : yX5_setting.cls = RX5 ∧ yX5_setting.cls ≠ "java/lang/invoke/MethodHandle" ∧ yX5_setting.cls ≠ "java/lang/invoke/VarHandle" ∧ (parseMethodDescriptor yX5_setting.desc).map (fun d => d.parameters.length) = some 1 := by decide +kernel
set_option maxHeartbeats 4000000 in
set_option maxRecDepth 100000 in
theorem c_X5_setting (l : Launch) (hst : l.stackTraces = false) (D : va_G) (y : Nat → ClassId) (a0 a1 a2 a3 a4 a5 a6 a7 : Nat) (zh : Nat) (r : gR) (p0 : Int32) (ho : okC r) : vx_Met l yX5_setting wsX5_setting ({ frames := 7, cells := 2, slots := 12, locals := 102 }) (xP D y [.ref a0, .int p0] zh [(a0, .inr (4, [.ref a1, .ref a2, .ref a3, .ref a4, .ref a5])), (a2, soF a6 a7 r), (a6, soV y r), (a7, soW y r)]) (va_Qi (fun (v : Int32) (u : Unit) => f_X5_setting r p0 = (0, v)) (fun (u : Unit) t => va_P D vwCl [(a0, .inr (4, [.ref a1, .ref a2, .ref a3, .ref a4, .ref a5])), (a2, soF a6 a7 r), (a6, soV y r), (a7, soW y r)] t.heap ∧ va_D (va_A [(a0, .inr (4, [.ref a1, .ref a2, .ref a3, .ref a4, .ref a5])), (a2, soF a6 a7 r), (a6, soV y r), (a7, soW y r)] zh) [(a0, .inr (4, [.ref a1, .ref a2, .ref a3, .ref a4, .ref a5])), (a2, soF a6 a7 r), (a6, soV y r), (a7, soW y r)]) (va_A [(a0, .inr (4, [.ref a1, .ref a2, .ref a3, .ref a4, .ref a5])), (a2, soF a6 a7 r), (a6, soV y r), (a7, soW y r)] zh)) (vx_X (fun _ : Unit => True) (fun (E : String) (u : Unit) t => (f_X5_setting r p0 = (xc E, 0) ∧ xc E ≠ 0) ∧ (va_P D vwCl [(a0, .inr (4, [.ref a1, .ref a2, .ref a3, .ref a4, .ref a5])), (a2, soF a6 a7 r), (a6, soV y r), (a7, soW y r)] t.heap ∧ va_D (va_A [(a0, .inr (4, [.ref a1, .ref a2, .ref a3, .ref a4, .ref a5])), (a2, soF a6 a7 r), (a6, soV y r), (a7, soW y r)] zh) [(a0, .inr (4, [.ref a1, .ref a2, .ref a3, .ref a4, .ref a5])), (a2, soF a6 a7 r), (a6, soV y r), (a7, soW y r)])) (va_A [(a0, .inr (4, [.ref a1, .ref a2, .ref a3, .ref a4, .ref a5])), (a2, soF a6 a7 r), (a6, soV y r), (a7, soW y r)] zh)) 2 12 (va_A [(a0, .inr (4, [.ref a1, .ref a2, .ref a3, .ref a4, .ref a5])), (a2, soF a6 a7 r), (a6, soV y r), (a7, soW y r)] zh) := by
  refine vx_ofW (cc := cX5_setting) (maxL := 2) (ret := (some .int)) (by decide) rfl ?_
  intro p e s m args below meth c s₁ B hml htab hv
  obtain ⟨⟨rfl, hsz, hP, hE, hD⟩, hXE, hXZ⟩ := hv
  have hx := B.exec
  have hb := B.bytes
  have hr := B.returns
  have hts := atoms_spec (ws := wsX5_setting) B.pre
  have hown : s.vm.findClass RX5 = some m.cls := findClass_of_methodNamed B.named
  have hlocks := B.notSynchronized
  have w_0 := hts (.fieldLink RX5 19 "GapLines" "state" "LGapLines$State;") (List.mem_cons_of_mem _ (List.mem_append_left _ (List.mem_append_left _ (List.mem_append_left _ (List.mem_of_getElem? (i := 0) rfl)))))
  have hi5 : ∀ w ∈ u_ws RX5 TX5 5, w ∈ wsX5_setting := fun w h => (List.mem_cons_of_mem _ (List.mem_append_left _ (List.mem_append_left _ (List.mem_append_right _ h))))
  subst hsz
  have hD := hD.self (sz := s.heap.size)
  generalize hAe : va_A [(a0, .inr (4, [.ref a1, .ref a2, .ref a3, .ref a4, .ref a5])), (a2, soF a6 a7 r), (a6, soV y r), (a7, soW y r)] s.heap.size = A at hD hXZ ⊢
  have hA : ∀ q : Nat, s.heap.size ≤ q → A q := fun q h => by rw [← hAe]; exact Or.inr h
  have hS : va_S A s.heap s.heap [] := va_S.rf
  have hl := lv_entry ([.ref a0, .int p0]) (n := 2) (Nat.le_of_ble_eq_true rfl)
  rw [lg_entry_eq]
  generalize (lg_sl ([.ref a0, .int p0]) ++ List.replicate (2 - (lg_sl ([.ref a0, .int p0])).length) Slot.unset).toArray = ls at hl ⊢
  have hl : lv_has ls 2 [(0, .ref a0), (1, .int p0)] := hl
  have hF := f_X5_setting_s r p0
  refine lv_iload_n hx hb dX5_setting_0 rfl (lv_at hl 1 rfl) ?_
  refine xq_call (vx_runS (As := [.int p0]) (rest := []) ⟨hx, hb, hml, hown, hts⟩ (c_X5_requireSetting l hst D y s.heap.size p0) (va_cwS 1 hts gX5_setting_X5_requireSetting rfl rfl rfl hd_X5_requireSetting ⟨Nat.le_of_ble_eq_true rfl, Nat.le_of_ble_eq_true rfl⟩) (xS hE hXE hXZ hS hA (hP.sub [] rfl) (hD.sub [] (by decide) rfl)) rfl rfl hl.1 rfl (lv_room (Nat.le_of_ble_eq_true rfl)) dX5_setting_1 ⟨Nat.le_of_ble_eq_true rfl, Nat.le_of_ble_eq_true rfl⟩) hP hD hS hA [] rfl (by decide) (fun E3 ce4 q5 H locs h2 h2z hP hD hS h2a h2b h2c => ?_) (fun H locs h2 hP hD hS => ?_)
  · have hP : va_P D vwCl [(a0, .inr (4, [.ref a1, .ref a2, .ref a3, .ref a4, .ref a5])), (a2, soF a6 a7 r), (a6, soV y r), (a7, soW y r)] H := hP
    have hD : va_D A [(a0, .inr (4, [.ref a1, .ref a2, .ref a3, .ref a4, .ref a5])), (a2, soF a6 a7 r), (a6, soV y r), (a7, soW y r)] := hD
    have hF := hF.trans ((gLet_e h2).trans (if_neg h2z))
    refine vx_out (fun x hx => (htab x hx).elim) hlocks h2a h2b h2c (fun t ht hvm => ⟨(), trivial, ⟨⟨hF, h2z⟩, ⟨by rw [ht]; exact hP, hD⟩⟩, hS.F ht⟩) hS.2.2 (Nat.le_of_ble_eq_true rfl) (Nat.le_of_ble_eq_true rfl)
  have hP : va_P D vwCl [(a0, .inr (4, [.ref a1, .ref a2, .ref a3, .ref a4, .ref a5])), (a2, soF a6 a7 r), (a6, soV y r), (a7, soW y r)] H := hP
  have hD : va_D A [(a0, .inr (4, [.ref a1, .ref a2, .ref a3, .ref a4, .ref a5])), (a2, soF a6 a7 r), (a6, soV y r), (a7, soW y r)] := hD
  have hF := hF.trans ((gLet_e h2).trans (if_pos rfl))
  refine lv_aload_n hx hb dX5_setting_4 rfl (lv_at hl 0 rfl) ?_
  refine va_get (D := D) (ci := 4) (v := .ref a2) (C := RX5) (T := TX5) (N := 5) hx hb hts hi5 hown hE.1 hP 0 rfl rfl 1 (by decide) w_0 (fun _ h9 => h9) rfl dX5_setting_5 ?_
  refine lv_iload_n hx hb dX5_setting_8 rfl (lv_at hl 1 rfl) ?_
  refine xs_calli (va_runV (As := [.int p0]) (rest := []) ⟨hx, hb, hml, hown, hts⟩ (c_X3_settingOf l D y a2 a6 a7 H.size r p0) (cwV 1 hts gX5_setting_X3_settingOf rfl rfl rfl hd_X3_settingOf ⟨Nat.le_of_ble_eq_true rfl, Nat.le_of_ble_eq_true rfl⟩) (gV (q := (RX3, TX3, 15)) hE (hP.sub [1, 2, 3] rfl) (hD.sub [1, 2, 3] (by decide) rfl) 0 rfl rfl) rfl rfl hl.1 rfl (lv_room (Nat.le_of_ble_eq_true rfl)) dX5_setting_9 ⟨Nat.le_of_ble_eq_true rfl, Nat.le_of_ble_eq_true rfl⟩) (fun v7 h6 => ?_)
  have hF := hF.trans (gLet_e h6)
  refine W.widen (k := 2) (n := 12) (Nat.le_of_ble_eq_true rfl) (Nat.le_of_ble_eq_true rfl) ?_
  refine vx_ret ?_
  exact W.iret (v := v7) hx hb hr (fun t ht hW => ⟨⟨v7, (), rfl, hF, ⟨by rw [ht]; exact hP, hD⟩⟩, hS.F ht⟩) hS.2.2 dX5_setting_12

def f_X5_movesTo (r : gR) (p0 : Int32) : Nat × Int32 :=
    gLet (f_X5_requireLine r p0) (fun (n1 : Nat) =>
    if n1 = 0 then
      gLet (f_X3_movesUntilMoved r p0) (fun (v7 : Int32) =>
        (0, v7))
    else
      (n1, 0))
theorem f_X5_movesTo_s (r : gR) (p0 : Int32) : f_X5_movesTo r p0 =
    (gLet (f_X5_requireLine r p0) (fun (n1 : Nat) =>
    if n1 = 0 then
      gLet (f_X3_movesUntilMoved r p0) (fun (v7 : Int32) =>
        (0, v7))
    else
      (n1, 0))) := rfl
theorem hd_X5_movesTo : yX5_movesTo.cls = RX5 ∧ yX5_movesTo.cls ≠ "java/lang/invoke/MethodHandle" ∧ yX5_movesTo.cls ≠ "java/lang/invoke/VarHandle" ∧ (parseMethodDescriptor yX5_movesTo.desc).map (fun d => d.parameters.length) = some 1 := by decide +kernel
set_option maxHeartbeats 4000000 in
set_option maxRecDepth 100000 in
theorem c_X5_movesTo (l : Launch) (hst : l.stackTraces = false) (D : va_G) (y : Nat → ClassId) (a0 a1 a2 a3 a4 a5 a6 a7 : Nat) (zh : Nat) (r : gR) (p0 : Int32) (ho : okC r) : vx_Met l yX5_movesTo wsX5_movesTo ({ frames := 7, cells := 2, slots := 12, locals := 103 }) (xP D y [.ref a0, .int p0] zh [(a0, .inr (4, [.ref a1, .ref a2, .ref a3, .ref a4, .ref a5])), (a2, soF a6 a7 r), (a6, soV y r), (a7, soW y r)]) (va_Qi (fun (v : Int32) (u : Unit) => f_X5_movesTo r p0 = (0, v)) (fun (u : Unit) t => va_P D vwCl [(a0, .inr (4, [.ref a1, .ref a2, .ref a3, .ref a4, .ref a5])), (a2, soF a6 a7 r), (a6, soV y r), (a7, soW y r)] t.heap ∧ va_D (va_A [(a0, .inr (4, [.ref a1, .ref a2, .ref a3, .ref a4, .ref a5])), (a2, soF a6 a7 r), (a6, soV y r), (a7, soW y r)] zh) [(a0, .inr (4, [.ref a1, .ref a2, .ref a3, .ref a4, .ref a5])), (a2, soF a6 a7 r), (a6, soV y r), (a7, soW y r)]) (va_A [(a0, .inr (4, [.ref a1, .ref a2, .ref a3, .ref a4, .ref a5])), (a2, soF a6 a7 r), (a6, soV y r), (a7, soW y r)] zh)) (vx_X (fun _ : Unit => True) (fun (E : String) (u : Unit) t => (f_X5_movesTo r p0 = (xc E, 0) ∧ xc E ≠ 0) ∧ (va_P D vwCl [(a0, .inr (4, [.ref a1, .ref a2, .ref a3, .ref a4, .ref a5])), (a2, soF a6 a7 r), (a6, soV y r), (a7, soW y r)] t.heap ∧ va_D (va_A [(a0, .inr (4, [.ref a1, .ref a2, .ref a3, .ref a4, .ref a5])), (a2, soF a6 a7 r), (a6, soV y r), (a7, soW y r)] zh) [(a0, .inr (4, [.ref a1, .ref a2, .ref a3, .ref a4, .ref a5])), (a2, soF a6 a7 r), (a6, soV y r), (a7, soW y r)])) (va_A [(a0, .inr (4, [.ref a1, .ref a2, .ref a3, .ref a4, .ref a5])), (a2, soF a6 a7 r), (a6, soV y r), (a7, soW y r)] zh)) 2 12 (va_A [(a0, .inr (4, [.ref a1, .ref a2, .ref a3, .ref a4, .ref a5])), (a2, soF a6 a7 r), (a6, soV y r), (a7, soW y r)] zh) := by
  refine vx_ofW (cc := cX5_movesTo) (maxL := 2) (ret := (some .int)) (by decide) rfl ?_
  intro p e s m args below meth c s₁ B hml htab hv
  obtain ⟨⟨rfl, hsz, hP, hE, hD⟩, hXE, hXZ⟩ := hv
  have hx := B.exec
  have hb := B.bytes
  have hr := B.returns
  have hts := atoms_spec (ws := wsX5_movesTo) B.pre
  have hown : s.vm.findClass RX5 = some m.cls := findClass_of_methodNamed B.named
  have hlocks := B.notSynchronized
  have w_0 := hts (.fieldLink RX5 19 "GapLines" "state" "LGapLines$State;") (List.mem_cons_of_mem _ (List.mem_append_left _ (List.mem_append_left _ (List.mem_append_left _ (List.mem_append_left _ (List.mem_of_getElem? (i := 0) rfl))))))
  have hi5 : ∀ w ∈ u_ws RX5 TX5 5, w ∈ wsX5_movesTo := fun w h => (List.mem_cons_of_mem _ (List.mem_append_left _ (List.mem_append_left _ (List.mem_append_right _ h))))
  subst hsz
  have hD := hD.self (sz := s.heap.size)
  generalize hAe : va_A [(a0, .inr (4, [.ref a1, .ref a2, .ref a3, .ref a4, .ref a5])), (a2, soF a6 a7 r), (a6, soV y r), (a7, soW y r)] s.heap.size = A at hD hXZ ⊢
  have hA : ∀ q : Nat, s.heap.size ≤ q → A q := fun q h => by rw [← hAe]; exact Or.inr h
  have hS : va_S A s.heap s.heap [] := va_S.rf
  have hl := lv_entry ([.ref a0, .int p0]) (n := 2) (Nat.le_of_ble_eq_true rfl)
  rw [lg_entry_eq]
  generalize (lg_sl ([.ref a0, .int p0]) ++ List.replicate (2 - (lg_sl ([.ref a0, .int p0])).length) Slot.unset).toArray = ls at hl ⊢
  have hl : lv_has ls 2 [(0, .ref a0), (1, .int p0)] := hl
  have hF := f_X5_movesTo_s r p0
  refine lv_aload_n hx hb dX5_movesTo_0 rfl (lv_at hl 0 rfl) ?_
  refine lv_iload_n hx hb dX5_movesTo_1 rfl (lv_at hl 1 rfl) ?_
  refine xq_call (vx_runV (As := [.int p0]) (rest := []) ⟨hx, hb, hml, hown, hts⟩ (c_X5_requireLine l hst D y a0 a1 a2 a3 a4 a5 a6 a7 s.heap.size r p0) (cwV 1 hts gX5_movesTo_X5_requireLine rfl rfl rfl hd_X5_requireLine ⟨Nat.le_of_ble_eq_true rfl, Nat.le_of_ble_eq_true rfl⟩) (xV (q := (RX5, TX5, 5)) hE hXE hXZ hS hA hP hD 0 rfl rfl) rfl rfl hl.1 rfl (lv_room (Nat.le_of_ble_eq_true rfl)) dX5_movesTo_2 ⟨Nat.le_of_ble_eq_true rfl, Nat.le_of_ble_eq_true rfl⟩) hP hD hS hA [0, 1, 2, 3] rfl (by decide) (fun E3 ce4 q5 H locs h2 h2z hP hD hS h2a h2b h2c => ?_) (fun H locs h2 hP hD hS => ?_)
  · have hP : va_P D vwCl [(a0, .inr (4, [.ref a1, .ref a2, .ref a3, .ref a4, .ref a5])), (a2, soF a6 a7 r), (a6, soV y r), (a7, soW y r)] H := hP
    have hD : va_D A [(a0, .inr (4, [.ref a1, .ref a2, .ref a3, .ref a4, .ref a5])), (a2, soF a6 a7 r), (a6, soV y r), (a7, soW y r)] := hD
    have hF := hF.trans ((gLet_e h2).trans (if_neg h2z))
    refine vx_out (fun x hx => (htab x hx).elim) hlocks h2a h2b h2c (fun t ht hvm => ⟨(), trivial, ⟨⟨hF, h2z⟩, ⟨by rw [ht]; exact hP, hD⟩⟩, hS.F ht⟩) hS.2.2 (Nat.le_of_ble_eq_true rfl) (Nat.le_of_ble_eq_true rfl)
  have hP : va_P D vwCl [(a0, .inr (4, [.ref a1, .ref a2, .ref a3, .ref a4, .ref a5])), (a2, soF a6 a7 r), (a6, soV y r), (a7, soW y r)] H := hP
  have hD : va_D A [(a0, .inr (4, [.ref a1, .ref a2, .ref a3, .ref a4, .ref a5])), (a2, soF a6 a7 r), (a6, soV y r), (a7, soW y r)] := hD
  have hF := hF.trans ((gLet_e h2).trans (if_pos rfl))
  refine lv_aload_n hx hb dX5_movesTo_5 rfl (lv_at hl 0 rfl) ?_
  refine va_get (D := D) (ci := 4) (v := .ref a2) (C := RX5) (T := TX5) (N := 5) hx hb hts hi5 hown hE.1 hP 0 rfl rfl 1 (by decide) w_0 (fun _ h9 => h9) rfl dX5_movesTo_6 ?_
  refine lv_iload_n hx hb dX5_movesTo_9 rfl (lv_at hl 1 rfl) ?_
  refine xs_calli (va_runV (As := [.int p0]) (rest := []) ⟨hx, hb, hml, hown, hts⟩ (c_X3_movesUntilMoved l D y a2 a6 a7 H.size r p0) (cwV 1 hts gX5_movesTo_X3_movesUntilMoved rfl rfl rfl hd_X3_movesUntilMoved ⟨Nat.le_of_ble_eq_true rfl, Nat.le_of_ble_eq_true rfl⟩) (gV (q := (RX3, TX3, 15)) hE (hP.sub [1, 2, 3] rfl) (hD.sub [1, 2, 3] (by decide) rfl) 0 rfl rfl) rfl rfl hl.1 rfl (lv_room (Nat.le_of_ble_eq_true rfl)) dX5_movesTo_10 ⟨Nat.le_of_ble_eq_true rfl, Nat.le_of_ble_eq_true rfl⟩) (fun v7 h6 => ?_)
  have hF := hF.trans (gLet_e h6)
  refine W.widen (k := 2) (n := 12) (Nat.le_of_ble_eq_true rfl) (Nat.le_of_ble_eq_true rfl) ?_
  refine vx_ret ?_
  exact W.iret (v := v7) hx hb hr (fun t ht hW => ⟨⟨v7, (), rfl, hF, ⟨by rw [ht]; exact hP, hD⟩⟩, hS.F ht⟩) hS.2.2 dX5_movesTo_13

def f_X5_placeBehind (r : gR) (p0 : Int32) (p1 : Int32) : Nat × Int32 :=
    gLet (f_X5_requireLine r p0) (fun (n1 : Nat) =>
    if n1 = 0 then
      if p1 < 0 then
        (1, 0)
      else
        if p1 ≤ 9999 then
          gLet (f_X3_placeAfterMoves r p0 p1) (fun (v10 : Int32) =>
            (0, v10))
        else
          (1, 0)
    else
      (n1, 0))
theorem f_X5_placeBehind_s (r : gR) (p0 : Int32) (p1 : Int32) : f_X5_placeBehind r p0 p1 =
    (gLet (f_X5_requireLine r p0) (fun (n1 : Nat) =>
    if n1 = 0 then
      if p1 < 0 then
        (1, 0)
      else
        if p1 ≤ 9999 then
          gLet (f_X3_placeAfterMoves r p0 p1) (fun (v10 : Int32) =>
            (0, v10))
        else
          (1, 0)
    else
      (n1, 0))) := rfl
theorem hd_X5_placeBehind : yX5_placeBehind.cls = RX5 ∧ yX5_placeBehind.cls ≠ "java/lang/invoke/MethodHandle" ∧ yX5_placeBehind.cls ≠ "java/lang/invoke/VarHandle" ∧ (parseMethodDescriptor yX5_placeBehind.desc).map (fun d => d.parameters.length) = some 2 := by decide +kernel
set_option maxHeartbeats 4000000 in
set_option maxRecDepth 100000 in
theorem c_X5_placeBehind (l : Launch) (hst : l.stackTraces = false) (D : va_G) (y : Nat → ClassId) (a0 a1 a2 a3 a4 a5 a6 a7 : Nat) (zh : Nat) (r : gR) (p0 : Int32) (p1 : Int32) (ho : okC r) : vx_Met l yX5_placeBehind wsX5_placeBehind ({ frames := 7, cells := 2, slots := 12, locals := 103 }) (xP D y [.ref a0, .int p0, .int p1] zh [(a0, .inr (4, [.ref a1, .ref a2, .ref a3, .ref a4, .ref a5])), (a2, soF a6 a7 r), (a6, soV y r), (a7, soW y r)]) (va_Qi (fun (v : Int32) (u : Unit) => f_X5_placeBehind r p0 p1 = (0, v)) (fun (u : Unit) t => va_P D vwCl [(a0, .inr (4, [.ref a1, .ref a2, .ref a3, .ref a4, .ref a5])), (a2, soF a6 a7 r), (a6, soV y r), (a7, soW y r)] t.heap ∧ va_D (va_A [(a0, .inr (4, [.ref a1, .ref a2, .ref a3, .ref a4, .ref a5])), (a2, soF a6 a7 r), (a6, soV y r), (a7, soW y r)] zh) [(a0, .inr (4, [.ref a1, .ref a2, .ref a3, .ref a4, .ref a5])), (a2, soF a6 a7 r), (a6, soV y r), (a7, soW y r)]) (va_A [(a0, .inr (4, [.ref a1, .ref a2, .ref a3, .ref a4, .ref a5])), (a2, soF a6 a7 r), (a6, soV y r), (a7, soW y r)] zh)) (vx_X (fun _ : Unit => True) (fun (E : String) (u : Unit) t => (f_X5_placeBehind r p0 p1 = (xc E, 0) ∧ xc E ≠ 0) ∧ (va_P D vwCl [(a0, .inr (4, [.ref a1, .ref a2, .ref a3, .ref a4, .ref a5])), (a2, soF a6 a7 r), (a6, soV y r), (a7, soW y r)] t.heap ∧ va_D (va_A [(a0, .inr (4, [.ref a1, .ref a2, .ref a3, .ref a4, .ref a5])), (a2, soF a6 a7 r), (a6, soV y r), (a7, soW y r)] zh) [(a0, .inr (4, [.ref a1, .ref a2, .ref a3, .ref a4, .ref a5])), (a2, soF a6 a7 r), (a6, soV y r), (a7, soW y r)])) (va_A [(a0, .inr (4, [.ref a1, .ref a2, .ref a3, .ref a4, .ref a5])), (a2, soF a6 a7 r), (a6, soV y r), (a7, soW y r)] zh)) 2 12 (va_A [(a0, .inr (4, [.ref a1, .ref a2, .ref a3, .ref a4, .ref a5])), (a2, soF a6 a7 r), (a6, soV y r), (a7, soW y r)] zh) := by
  refine vx_ofW (cc := cX5_placeBehind) (maxL := 3) (ret := (some .int)) (by decide) rfl ?_
  intro p e s m args below meth c s₁ B hml htab hv
  obtain ⟨⟨rfl, hsz, hP, hE, hD⟩, hXE, hXZ⟩ := hv
  have hx := B.exec
  have hb := B.bytes
  have hr := B.returns
  have hts := atoms_spec (ws := wsX5_placeBehind) B.pre
  have hown : s.vm.findClass RX5 = some m.cls := findClass_of_methodNamed B.named
  have hlocks := B.notSynchronized
  have w_0 := hts (.classLink RX5 40 "java/lang/IllegalArgumentException") (List.mem_cons_of_mem _ (List.mem_append_left _ (List.mem_append_left _ (List.mem_append_left _ (List.mem_append_left _ (List.mem_append_left _ (List.mem_of_getElem? (i := 0) rfl)))))))
  have w_1 := hts (.initialized "java/lang/IllegalArgumentException") (List.mem_cons_of_mem _ (List.mem_append_left _ (List.mem_append_left _ (List.mem_append_left _ (List.mem_append_left _ (List.mem_append_left _ (List.mem_of_getElem? (i := 1) rfl)))))))
  have w_2 := hts (.fieldLink RX5 19 "GapLines" "state" "LGapLines$State;") (List.mem_cons_of_mem _ (List.mem_append_left _ (List.mem_append_left _ (List.mem_append_left _ (List.mem_append_left _ (List.mem_append_left _ (List.mem_of_getElem? (i := 2) rfl)))))))
  have hi5 : ∀ w ∈ u_ws RX5 TX5 5, w ∈ wsX5_placeBehind := fun w h => (List.mem_cons_of_mem _ (List.mem_append_left _ (List.mem_append_left _ (List.mem_append_left _ (List.mem_append_right _ h)))))
  subst hsz
  have hD := hD.self (sz := s.heap.size)
  generalize hAe : va_A [(a0, .inr (4, [.ref a1, .ref a2, .ref a3, .ref a4, .ref a5])), (a2, soF a6 a7 r), (a6, soV y r), (a7, soW y r)] s.heap.size = A at hD hXZ ⊢
  have hA : ∀ q : Nat, s.heap.size ≤ q → A q := fun q h => by rw [← hAe]; exact Or.inr h
  have hS : va_S A s.heap s.heap [] := va_S.rf
  have hl := lv_entry ([.ref a0, .int p0, .int p1]) (n := 3) (Nat.le_of_ble_eq_true rfl)
  rw [lg_entry_eq]
  generalize (lg_sl ([.ref a0, .int p0, .int p1]) ++ List.replicate (3 - (lg_sl ([.ref a0, .int p0, .int p1])).length) Slot.unset).toArray = ls at hl ⊢
  have hl : lv_has ls 3 [(0, .ref a0), (1, .int p0), (2, .int p1)] := hl
  have hF := f_X5_placeBehind_s r p0 p1
  refine lv_aload_n hx hb dX5_placeBehind_0 rfl (lv_at hl 0 rfl) ?_
  refine lv_iload_n hx hb dX5_placeBehind_1 rfl (lv_at hl 1 rfl) ?_
  refine xq_call (vx_runV (As := [.int p0]) (rest := []) ⟨hx, hb, hml, hown, hts⟩ (c_X5_requireLine l hst D y a0 a1 a2 a3 a4 a5 a6 a7 s.heap.size r p0) (cwV 1 hts gX5_placeBehind_X5_requireLine rfl rfl rfl hd_X5_requireLine ⟨Nat.le_of_ble_eq_true rfl, Nat.le_of_ble_eq_true rfl⟩) (xV (q := (RX5, TX5, 5)) hE hXE hXZ hS hA hP hD 0 rfl rfl) rfl rfl hl.1 rfl (lv_room (Nat.le_of_ble_eq_true rfl)) dX5_placeBehind_2 ⟨Nat.le_of_ble_eq_true rfl, Nat.le_of_ble_eq_true rfl⟩) hP hD hS hA [0, 1, 2, 3] rfl (by decide) (fun E3 ce4 q5 H locs h2 h2z hP hD hS h2a h2b h2c => ?_) (fun H locs h2 hP hD hS => ?_)
  · have hP : va_P D vwCl [(a0, .inr (4, [.ref a1, .ref a2, .ref a3, .ref a4, .ref a5])), (a2, soF a6 a7 r), (a6, soV y r), (a7, soW y r)] H := hP
    have hD : va_D A [(a0, .inr (4, [.ref a1, .ref a2, .ref a3, .ref a4, .ref a5])), (a2, soF a6 a7 r), (a6, soV y r), (a7, soW y r)] := hD
    have hF := hF.trans ((gLet_e h2).trans (if_neg h2z))
    refine vx_out (fun x hx => (htab x hx).elim) hlocks h2a h2b h2c (fun t ht hvm => ⟨(), trivial, ⟨⟨hF, h2z⟩, ⟨by rw [ht]; exact hP, hD⟩⟩, hS.F ht⟩) hS.2.2 (Nat.le_of_ble_eq_true rfl) (Nat.le_of_ble_eq_true rfl)
  have hP : va_P D vwCl [(a0, .inr (4, [.ref a1, .ref a2, .ref a3, .ref a4, .ref a5])), (a2, soF a6 a7 r), (a6, soV y r), (a7, soW y r)] H := hP
  have hD : va_D A [(a0, .inr (4, [.ref a1, .ref a2, .ref a3, .ref a4, .ref a5])), (a2, soF a6 a7 r), (a6, soV y r), (a7, soW y r)] := hD
  have hF := hF.trans ((gLet_e h2).trans (if_pos rfl))
  refine lv_iload_n hx hb dX5_placeBehind_5 rfl (lv_at hl 2 rfl) ?_
  refine lv_if_lt (tgt := 16) hx hb dX5_placeBehind_6 (by decide) (fun c_6 => ?_) (fun c_6 => ?_)
  · have hF := hF.trans (if_pos c_6)
    obtain ⟨sa7, hsa7⟩ := hXE.2 _ (List.mem_of_getElem? (i := 12) rfl)
    exact vx_throwS (names := xN) hx hb hst hown (by decide +kernel) (by decide +kernel) w_0 w_1 hsa7 (vx_hat (fun w hw => hts w (List.mem_cons_of_mem _ (List.mem_append_left _ (List.mem_append_right _ hw)))) x_bad44 (xE_bad hXE hXE.1.1.1)) x_good44 hXZ.1 hXZ.2 hS (hml.trans hl.1.symm).symm dX5_placeBehind_16 dX5_placeBehind_19 dX5_placeBehind_20 dX5_placeBehind_22 dX5_placeBehind_25 (fun x hx => (htab x hx).elim) (Nat.le_of_ble_eq_true rfl) (Nat.le_of_ble_eq_true rfl) (Nat.le_of_ble_eq_true rfl) (Nat.le_of_ble_eq_true rfl) hlocks (fun t hvm hz hk => ⟨(), trivial, ⟨⟨by rw [xc_IA]; exact hF, by rw [xc_IA]; decide⟩, ⟨x_grow hP hk, hD⟩⟩, x_F hS hz hk⟩) hS.2.2 (Nat.le_of_ble_eq_true rfl) (Nat.le_of_ble_eq_true rfl)
  · have hF := hF.trans (if_neg c_6)
    refine lv_iload_n hx hb dX5_placeBehind_9 rfl (lv_at hl 2 rfl) ?_
    refine lv_sipush (v := 9999) hx hb dX5_placeBehind_10 (by decide) ?_
    refine lv_icmp_le (tgt := 26) hx hb dX5_placeBehind_13 (by decide) (fun c_8 => ?_) (fun c_8 => ?_)
    · have hF := hF.trans (if_pos c_8)
      refine lv_aload_n hx hb dX5_placeBehind_26 rfl (lv_at hl 0 rfl) ?_
      refine va_get (D := D) (ci := 4) (v := .ref a2) (C := RX5) (T := TX5) (N := 5) hx hb hts hi5 hown hE.1 hP 0 rfl rfl 1 (by decide) w_2 (fun _ h9 => h9) rfl dX5_placeBehind_27 ?_
      refine lv_iload_n hx hb dX5_placeBehind_30 rfl (lv_at hl 1 rfl) ?_
      refine lv_iload_n hx hb dX5_placeBehind_31 rfl (lv_at hl 2 rfl) ?_
      refine xs_calli (va_runV (As := [.int p0, .int p1]) (rest := []) ⟨hx, hb, hml, hown, hts⟩ (c_X3_placeAfterMoves l D y a2 a6 a7 H.size r p0 p1 ho) (cwV 2 hts gX5_placeBehind_X3_placeAfterMoves rfl rfl rfl hd_X3_placeAfterMoves ⟨Nat.le_of_ble_eq_true rfl, Nat.le_of_ble_eq_true rfl⟩) (gV (q := (RX3, TX3, 15)) hE (hP.sub [1, 2, 3] rfl) (hD.sub [1, 2, 3] (by decide) rfl) 0 rfl rfl) rfl rfl hl.1 rfl (lv_room (Nat.le_of_ble_eq_true rfl)) dX5_placeBehind_32 ⟨Nat.le_of_ble_eq_true rfl, Nat.le_of_ble_eq_true rfl⟩) (fun v10 h9 => ?_)
      have hF := hF.trans (gLet_e h9)
      refine W.widen (k := 2) (n := 12) (Nat.le_of_ble_eq_true rfl) (Nat.le_of_ble_eq_true rfl) ?_
      refine vx_ret ?_
      exact W.iret (v := v10) hx hb hr (fun t ht hW => ⟨⟨v10, (), rfl, hF, ⟨by rw [ht]; exact hP, hD⟩⟩, hS.F ht⟩) hS.2.2 dX5_placeBehind_35
    · have hF := hF.trans (if_neg c_8)
      obtain ⟨sa11, hsa11⟩ := hXE.2 _ (List.mem_of_getElem? (i := 12) rfl)
      exact vx_throwS (names := xN) hx hb hst hown (by decide +kernel) (by decide +kernel) w_0 w_1 hsa11 (vx_hat (fun w hw => hts w (List.mem_cons_of_mem _ (List.mem_append_left _ (List.mem_append_right _ hw)))) x_bad44 (xE_bad hXE hXE.1.1.1)) x_good44 hXZ.1 hXZ.2 hS (hml.trans hl.1.symm).symm dX5_placeBehind_16 dX5_placeBehind_19 dX5_placeBehind_20 dX5_placeBehind_22 dX5_placeBehind_25 (fun x hx => (htab x hx).elim) (Nat.le_of_ble_eq_true rfl) (Nat.le_of_ble_eq_true rfl) (Nat.le_of_ble_eq_true rfl) (Nat.le_of_ble_eq_true rfl) hlocks (fun t hvm hz hk => ⟨(), trivial, ⟨⟨by rw [xc_IA]; exact hF, by rw [xc_IA]; decide⟩, ⟨x_grow hP hk, hD⟩⟩, x_F hS hz hk⟩) hS.2.2 (Nat.le_of_ble_eq_true rfl) (Nat.le_of_ble_eq_true rfl)

def f_X5_append (tn : Int32) (tf : Nat → Int32) (p0 : Int32) : Nat × Int32 × Int32 × (Nat → Int32) :=
    if p0 < 0 then
    (1, 0, tn, tf)
  else
    if p0 ≤ 255 then
      gLet (f_X4_isFull tn tf) (fun (v5 : Int32) =>
        if v5 = 0 then
          gLet (f_X4_add tn tf ((p0.toUInt32 % 65536).toInt32)) (fun (q10 : Int32 × Int32 × (Nat → Int32)) =>
            (0, q10.1, q10.2.1, q10.2.2))
        else
          (2, 0, tn, tf))
    else
      (1, 0, tn, tf)
theorem f_X5_append_s (tn : Int32) (tf : Nat → Int32) (p0 : Int32) : f_X5_append tn tf p0 =
    (if p0 < 0 then
    (1, 0, tn, tf)
  else
    if p0 ≤ 255 then
      gLet (f_X4_isFull tn tf) (fun (v5 : Int32) =>
        if v5 = 0 then
          gLet (f_X4_add tn tf ((p0.toUInt32 % 65536).toInt32)) (fun (q10 : Int32 × Int32 × (Nat → Int32)) =>
            (0, q10.1, q10.2.1, q10.2.2))
        else
          (2, 0, tn, tf))
    else
      (1, 0, tn, tf)) := rfl
theorem hd_X5_append : yX5_append.cls = RX5 ∧ yX5_append.cls ≠ "java/lang/invoke/MethodHandle" ∧ yX5_append.cls ≠ "java/lang/invoke/VarHandle" ∧ (parseMethodDescriptor yX5_append.desc).map (fun d => d.parameters.length) = some 1 := by decide +kernel
set_option maxHeartbeats 4000000 in
set_option maxRecDepth 100000 in
theorem c_X5_append (l : Launch) (hst : l.stackTraces = false) (D : va_G) (y : Nat → ClassId) (a0 a1 a2 a3 a4 a5 a6 : Nat) (zh : Nat) (tn : Int32) (tf : Nat → Int32) (p0 : Int32) (ht : okT tn tf) : vx_Met l yX5_append wsX5_append ({ frames := 6, cells := 2, slots := 12, locals := 82 }) (xP D y [.ref a0, .int p0] zh [(a0, .inr (4, [.ref a1, .ref a2, .ref a3, .ref a4, .ref a5])), (a1, .inr (3, [.ref a6, .int tn])), (a6, .inl (y 1, 120, .inl tf))]) (va_Qi (fun (v : Int32) (u : Int32 × (Nat → Int32)) => f_X5_append tn tf p0 = (0, v, u)) (fun (u : Int32 × (Nat → Int32)) t => va_P D vwCl [(a0, .inr (4, [.ref a1, .ref a2, .ref a3, .ref a4, .ref a5])), (a1, .inr (3, [.ref a6, .int u.1])), (a6, .inl (y 1, 120, .inl u.2))] t.heap ∧ va_D (va_A [(a0, .inr (4, [.ref a1, .ref a2, .ref a3, .ref a4, .ref a5])), (a1, .inr (3, [.ref a6, .int tn])), (a6, .inl (y 1, 120, .inl tf))] zh) [(a0, .inr (4, [.ref a1, .ref a2, .ref a3, .ref a4, .ref a5])), (a1, .inr (3, [.ref a6, .int u.1])), (a6, .inl (y 1, 120, .inl u.2))]) (va_A [(a0, .inr (4, [.ref a1, .ref a2, .ref a3, .ref a4, .ref a5])), (a1, .inr (3, [.ref a6, .int tn])), (a6, .inl (y 1, 120, .inl tf))] zh)) (vx_X (fun _ : Int32 × (Nat → Int32) => True) (fun (E : String) (u : Int32 × (Nat → Int32)) t => (f_X5_append tn tf p0 = (xc E, 0, u) ∧ xc E ≠ 0) ∧ (va_P D vwCl [(a0, .inr (4, [.ref a1, .ref a2, .ref a3, .ref a4, .ref a5])), (a1, .inr (3, [.ref a6, .int u.1])), (a6, .inl (y 1, 120, .inl u.2))] t.heap ∧ va_D (va_A [(a0, .inr (4, [.ref a1, .ref a2, .ref a3, .ref a4, .ref a5])), (a1, .inr (3, [.ref a6, .int tn])), (a6, .inl (y 1, 120, .inl tf))] zh) [(a0, .inr (4, [.ref a1, .ref a2, .ref a3, .ref a4, .ref a5])), (a1, .inr (3, [.ref a6, .int u.1])), (a6, .inl (y 1, 120, .inl u.2))])) (va_A [(a0, .inr (4, [.ref a1, .ref a2, .ref a3, .ref a4, .ref a5])), (a1, .inr (3, [.ref a6, .int tn])), (a6, .inl (y 1, 120, .inl tf))] zh)) 2 12 (va_A [(a0, .inr (4, [.ref a1, .ref a2, .ref a3, .ref a4, .ref a5])), (a1, .inr (3, [.ref a6, .int tn])), (a6, .inl (y 1, 120, .inl tf))] zh) := by
  refine vx_ofW (cc := cX5_append) (maxL := 2) (ret := (some .int)) (by decide) rfl ?_
  intro p e s m args below meth c s₁ B hml htab hv
  obtain ⟨⟨rfl, hsz, hP, hE, hD⟩, hXE, hXZ⟩ := hv
  have hx := B.exec
  have hb := B.bytes
  have hr := B.returns
  have hts := atoms_spec (ws := wsX5_append) B.pre
  have hown : s.vm.findClass RX5 = some m.cls := findClass_of_methodNamed B.named
  have hlocks := B.notSynchronized
  have w_0 := hts (.classLink RX5 40 "java/lang/IllegalArgumentException") (List.mem_cons_of_mem _ (List.mem_append_left _ (List.mem_append_left _ (List.mem_append_left _ (List.mem_append_left _ (List.mem_of_getElem? (i := 0) rfl))))))
  have w_1 := hts (.initialized "java/lang/IllegalArgumentException") (List.mem_cons_of_mem _ (List.mem_append_left _ (List.mem_append_left _ (List.mem_append_left _ (List.mem_append_left _ (List.mem_of_getElem? (i := 1) rfl))))))
  have w_2 := hts (.fieldLink RX5 10 "GapLines" "text" "LGapLines$Text;") (List.mem_cons_of_mem _ (List.mem_append_left _ (List.mem_append_left _ (List.mem_append_left _ (List.mem_append_left _ (List.mem_of_getElem? (i := 4) rfl))))))
  have hi5 : ∀ w ∈ u_ws RX5 TX5 5, w ∈ wsX5_append := fun w h => (List.mem_cons_of_mem _ (List.mem_append_left _ (List.mem_append_left _ (List.mem_append_left _ (List.mem_append_right _ h)))))
  have w_4 := hts (.classLink RX5 51 "java/lang/IllegalStateException") (List.mem_cons_of_mem _ (List.mem_append_left _ (List.mem_append_left _ (List.mem_append_left _ (List.mem_append_left _ (List.mem_of_getElem? (i := 2) rfl))))))
  have w_5 := hts (.initialized "java/lang/IllegalStateException") (List.mem_cons_of_mem _ (List.mem_append_left _ (List.mem_append_left _ (List.mem_append_left _ (List.mem_append_left _ (List.mem_of_getElem? (i := 3) rfl))))))
  subst hsz
  have hD := hD.self (sz := s.heap.size)
  generalize hAe : va_A [(a0, .inr (4, [.ref a1, .ref a2, .ref a3, .ref a4, .ref a5])), (a1, .inr (3, [.ref a6, .int tn])), (a6, .inl (y 1, 120, .inl tf))] s.heap.size = A at hD hXZ ⊢
  have hA : ∀ q : Nat, s.heap.size ≤ q → A q := fun q h => by rw [← hAe]; exact Or.inr h
  have hS : va_S A s.heap s.heap [] := va_S.rf
  have hl := lv_entry ([.ref a0, .int p0]) (n := 2) (Nat.le_of_ble_eq_true rfl)
  rw [lg_entry_eq]
  generalize (lg_sl ([.ref a0, .int p0]) ++ List.replicate (2 - (lg_sl ([.ref a0, .int p0])).length) Slot.unset).toArray = ls at hl ⊢
  have hl : lv_has ls 2 [(0, .ref a0), (1, .int p0)] := hl
  have hF := f_X5_append_s tn tf p0
  refine lv_iload_n hx hb dX5_append_0 rfl (lv_at hl 1 rfl) ?_
  refine lv_if_lt (tgt := 11) hx hb dX5_append_1 (by decide) (fun c_1 => ?_) (fun c_1 => ?_)
  · have hF := hF.trans (if_pos c_1)
    obtain ⟨sa2, hsa2⟩ := hXE.2 _ (List.mem_of_getElem? (i := 0) rfl)
    exact vx_throwS (names := xN) hx hb hst hown (by decide +kernel) (by decide +kernel) w_0 w_1 hsa2 (vx_hat (fun w hw => hts w (List.mem_cons_of_mem _ (List.mem_append_left _ (List.mem_append_right _ hw)))) x_bad44 (xE_bad hXE hXE.1.1.1)) x_good44 hXZ.1 hXZ.2 hS (hml.trans hl.1.symm).symm dX5_append_11 dX5_append_14 dX5_append_15 dX5_append_17 dX5_append_20 (fun x hx => (htab x hx).elim) (Nat.le_of_ble_eq_true rfl) (Nat.le_of_ble_eq_true rfl) (Nat.le_of_ble_eq_true rfl) (Nat.le_of_ble_eq_true rfl) hlocks (fun t hvm hz hk => ⟨⟨tn, tf⟩, trivial, ⟨⟨by rw [xc_IA]; exact hF, by rw [xc_IA]; decide⟩, ⟨x_grow hP hk, hD⟩⟩, x_F hS hz hk⟩) hS.2.2 (Nat.le_of_ble_eq_true rfl) (Nat.le_of_ble_eq_true rfl)
  · have hF := hF.trans (if_neg c_1)
    refine lv_iload_n hx hb dX5_append_4 rfl (lv_at hl 1 rfl) ?_
    refine lv_sipush (v := 255) hx hb dX5_append_5 (by decide) ?_
    refine lv_icmp_le (tgt := 21) hx hb dX5_append_8 (by decide) (fun c_3 => ?_) (fun c_3 => ?_)
    · have hF := hF.trans (if_pos c_3)
      refine lv_aload_n hx hb dX5_append_21 rfl (lv_at hl 0 rfl) ?_
      refine va_get (D := D) (ci := 4) (v := .ref a1) (C := RX5) (T := TX5) (N := 5) hx hb hts hi5 hown hE.1 hP 0 rfl rfl 0 (by decide) w_2 (fun _ h9 => h9) rfl dX5_append_22 ?_
      refine xs_calli (va_runV (As := []) (rest := []) ⟨hx, hb, hml, hown, hts⟩ (c_X4_isFull l D y a1 a6 s.heap.size tn tf) (cwV 0 hts gX5_append_X4_isFull rfl rfl rfl hd_X4_isFull ⟨Nat.le_of_ble_eq_true rfl, Nat.le_of_ble_eq_true rfl⟩) (gV (q := (RX4, TX4, 2)) hE (hP.sub [1, 2] rfl) (hD.sub [1, 2] (by decide) rfl) 0 rfl rfl) rfl rfl hl.1 rfl (lv_room (Nat.le_of_ble_eq_true rfl)) dX5_append_25 ⟨Nat.le_of_ble_eq_true rfl, Nat.le_of_ble_eq_true rfl⟩) (fun v5 h4 => ?_)
      have hF := hF.trans (gLet_e h4)
      refine lv_if_eq (tgt := 41) hx hb dX5_append_28 (by decide) (fun c_6 => ?_) (fun c_6 => ?_)
      · have hF := hF.trans (if_pos c_6)
        refine lv_aload_n hx hb dX5_append_41 rfl (lv_at hl 0 rfl) ?_
        refine va_get (D := D) (ci := 4) (v := .ref a1) (C := RX5) (T := TX5) (N := 5) hx hb hts hi5 hown hE.1 hP 0 rfl rfl 0 (by decide) w_2 (fun _ h9 => h9) rfl dX5_append_42 ?_
        refine lv_iload_n hx hb dX5_append_45 rfl (lv_at hl 1 rfl) ?_
        refine lv_i2c (v := (p0.toUInt32 % 65536).toInt32) hx hb dX5_append_46 rfl ?_
        refine xw_calli (va_runV (As := [.int ((p0.toUInt32 % 65536).toInt32)]) (rest := []) ⟨hx, hb, hml, hown, hts⟩ (c_X4_add l D y a1 a6 s.heap.size tn tf ((p0.toUInt32 % 65536).toInt32) ht chr_cut) (cwV 1 hts gX5_append_X4_add rfl rfl rfl hd_X4_add ⟨Nat.le_of_ble_eq_true rfl, Nat.le_of_ble_eq_true rfl⟩) (gV (q := (RX4, TX4, 2)) hE (hP.sub [1, 2] rfl) (hD.sub [1, 2] (by decide) rfl) 0 rfl rfl) rfl rfl hl.1 rfl (lv_room (Nat.le_of_ble_eq_true rfl)) dX5_append_47 ⟨Nat.le_of_ble_eq_true rfl, Nat.le_of_ble_eq_true rfl⟩) hP hD hS hA [1, 2] rfl (by decide) (fun _ => rfl) (fun v9 u8 H locs h7 hP hD hS => ?_)
        obtain ⟨q10, eq10⟩ : ∃ z : Int32 × Int32 × (Nat → Int32), f_X4_add tn tf ((p0.toUInt32 % 65536).toInt32) = z := ⟨_, rfl⟩
        obtain ⟨rfl, rfl⟩ : q10.1 = v9 ∧ q10.2 = u8 := ⟨by rw [← eq10, h7], by rw [← eq10, h7]⟩
        have hF := hF.trans (gLet_e eq10)
        have hP : va_P D vwCl [(a0, .inr (4, [.ref a1, .ref a2, .ref a3, .ref a4, .ref a5])), (a1, .inr (3, [.ref a6, .int q10.2.1])), (a6, .inl (y 1, 120, .inl q10.2.2))] H := hP
        have hD : va_D A [(a0, .inr (4, [.ref a1, .ref a2, .ref a3, .ref a4, .ref a5])), (a1, .inr (3, [.ref a6, .int q10.2.1])), (a6, .inl (y 1, 120, .inl q10.2.2))] := hD
        refine W.widen (k := 2) (n := 12) (Nat.le_of_ble_eq_true rfl) (Nat.le_of_ble_eq_true rfl) ?_
        refine vx_ret ?_
        exact W.iret (v := q10.1) hx hb hr (fun t ht hW => ⟨⟨q10.1, ⟨q10.2.1, q10.2.2⟩, rfl, hF, ⟨by rw [ht]; exact hP, hD⟩⟩, hS.F ht⟩) hS.2.2 dX5_append_50
      · have hF := hF.trans (if_neg c_6)
        obtain ⟨sa11, hsa11⟩ := hXE.2 _ (List.mem_of_getElem? (i := 1) rfl)
        exact vx_throwS (names := xN) hx hb hst hown (by decide +kernel) (by decide +kernel) w_4 w_5 hsa11 (vx_hat (fun w hw => hts w (List.mem_cons_of_mem _ (List.mem_append_right _ hw))) x_bad55 (xE_bad hXE hXE.1.1.2.1)) x_good55 hXZ.1 hXZ.2 hS (hml.trans hl.1.symm).symm dX5_append_31 dX5_append_34 dX5_append_35 dX5_append_37 dX5_append_40 (fun x hx => (htab x hx).elim) (Nat.le_of_ble_eq_true rfl) (Nat.le_of_ble_eq_true rfl) (Nat.le_of_ble_eq_true rfl) (Nat.le_of_ble_eq_true rfl) hlocks (fun t hvm hz hk => ⟨⟨tn, tf⟩, trivial, ⟨⟨by rw [xc_IS]; exact hF, by rw [xc_IS]; decide⟩, ⟨x_grow hP hk, hD⟩⟩, x_F hS hz hk⟩) hS.2.2 (Nat.le_of_ble_eq_true rfl) (Nat.le_of_ble_eq_true rfl)
    · have hF := hF.trans (if_neg c_3)
      obtain ⟨sa12, hsa12⟩ := hXE.2 _ (List.mem_of_getElem? (i := 0) rfl)
      exact vx_throwS (names := xN) hx hb hst hown (by decide +kernel) (by decide +kernel) w_0 w_1 hsa12 (vx_hat (fun w hw => hts w (List.mem_cons_of_mem _ (List.mem_append_left _ (List.mem_append_right _ hw)))) x_bad44 (xE_bad hXE hXE.1.1.1)) x_good44 hXZ.1 hXZ.2 hS (hml.trans hl.1.symm).symm dX5_append_11 dX5_append_14 dX5_append_15 dX5_append_17 dX5_append_20 (fun x hx => (htab x hx).elim) (Nat.le_of_ble_eq_true rfl) (Nat.le_of_ble_eq_true rfl) (Nat.le_of_ble_eq_true rfl) (Nat.le_of_ble_eq_true rfl) hlocks (fun t hvm hz hk => ⟨⟨tn, tf⟩, trivial, ⟨⟨by rw [xc_IA]; exact hF, by rw [xc_IA]; decide⟩, ⟨x_grow hP hk, hD⟩⟩, x_F hS hz hk⟩) hS.2.2 (Nat.le_of_ble_eq_true rfl) (Nat.le_of_ble_eq_true rfl)
