/-! THE CLASS: ACTIONS -/
theorem ok_X3_beginAnew (r : gR) (_ : okC r) : okC (f_X3_beginAnew r) := by
  show okC (upd (upd (f_X3_begin r 0 0 0) 11 100) 12 8)
  exact ok_upd (by omega) (ok_upd (by omega) (ok_X3_begin r 0 0 0 (by decide)))

def f_X5_load (tn : Int32) (tf : Nat → Int32) (r : gR) (qz : Int32) (qn : Int32) (lfl : Nat → Int32) : Nat × Int32 × gR × Int32 × (Nat → Int32) :=
    gLet (f_X4_firstError tn tf) (fun (v2 : Int32) =>
    if v2 = (-1) then
      gLet (f_X0_forgetAll qz qn) (fun (u5 : Int32) =>
        gLet (f_X2_forgetAll lfl) (fun (u7 : (Nat → Int32)) =>
          gLet (f_X3_beginAnew r) (fun (u9 : gR) =>
            gLet (f_X4_tellTo tn tf u9) (fun (q13 : Int32 × gR) =>
              (0, q13.1, q13.2, u5, u7)))))
    else
      (2, 0, r, qz, lfl))
theorem f_X5_load_s (tn : Int32) (tf : Nat → Int32) (r : gR) (qz : Int32) (qn : Int32) (lfl : Nat → Int32) : f_X5_load tn tf r qz qn lfl =
    (gLet (f_X4_firstError tn tf) (fun (v2 : Int32) =>
    if v2 = (-1) then
      gLet (f_X0_forgetAll qz qn) (fun (u5 : Int32) =>
        gLet (f_X2_forgetAll lfl) (fun (u7 : (Nat → Int32)) =>
          gLet (f_X3_beginAnew r) (fun (u9 : gR) =>
            gLet (f_X4_tellTo tn tf u9) (fun (q13 : Int32 × gR) =>
              (0, q13.1, q13.2, u5, u7)))))
    else
      (2, 0, r, qz, lfl))) := rfl
theorem hd_X5_load : yX5_load.cls = RX5 ∧ yX5_load.cls ≠ "java/lang/invoke/MethodHandle" ∧ yX5_load.cls ≠ "java/lang/invoke/VarHandle" ∧ (parseMethodDescriptor yX5_load.desc).map (fun d => d.parameters.length) = some 0 := by decide +kernel
set_option maxHeartbeats 4000000 in
set_option maxRecDepth 100000 in
theorem c_X5_load (l : Launch) (hst : l.stackTraces = false) (D : va_G) (y : Nat → ClassId) (a0 a1 a2 a3 a4 a5 a6 a7 a8 a9 a10 a11 : Nat) (zh : Nat) (tn : Int32) (tf : Nat → Int32) (r : gR) (qz : Int32) (qn : Int32) (lfl : Nat → Int32) (ht : okT tn tf) (ho : okC r) : vx_Met l yX5_load wsX5_load ({ frames := 6, cells := 2, slots := 12, locals := 137 }) (xP D y [.ref a0] zh [(a0, .inr (4, [.ref a1, .ref a2, .ref a3, .ref a4, .ref a5])), (a1, .inr (3, [.ref a6, .int tn])), (a6, .inl (y 1, 120, .inl tf)), (a2, soF a7 a8 r), (a7, soV y r), (a8, soW y r), (a4, .inr (0, [.ref a9, .int qz, .int qn])), (a5, .inr (1, [.ref a10, .ref a11])), (a11, .inl (y 2, 2, .inl lfl))]) (va_Qi (fun (v : Int32) (u : gR × Int32 × (Nat → Int32)) => f_X5_load tn tf r qz qn lfl = (0, v, u)) (fun (u : gR × Int32 × (Nat → Int32)) t => va_P D vwCl [(a0, .inr (4, [.ref a1, .ref a2, .ref a3, .ref a4, .ref a5])), (a1, .inr (3, [.ref a6, .int tn])), (a6, .inl (y 1, 120, .inl tf)), (a2, soF a7 a8 u.1), (a7, soV y u.1), (a8, soW y u.1), (a4, .inr (0, [.ref a9, .int u.2.1, .int qn])), (a5, .inr (1, [.ref a10, .ref a11])), (a11, .inl (y 2, 2, .inl u.2.2))] t.heap ∧ va_D (va_A [(a0, .inr (4, [.ref a1, .ref a2, .ref a3, .ref a4, .ref a5])), (a1, .inr (3, [.ref a6, .int tn])), (a6, .inl (y 1, 120, .inl tf)), (a2, soF a7 a8 r), (a7, soV y r), (a8, soW y r), (a4, .inr (0, [.ref a9, .int qz, .int qn])), (a5, .inr (1, [.ref a10, .ref a11])), (a11, .inl (y 2, 2, .inl lfl))] zh) [(a0, .inr (4, [.ref a1, .ref a2, .ref a3, .ref a4, .ref a5])), (a1, .inr (3, [.ref a6, .int tn])), (a6, .inl (y 1, 120, .inl tf)), (a2, soF a7 a8 u.1), (a7, soV y u.1), (a8, soW y u.1), (a4, .inr (0, [.ref a9, .int u.2.1, .int qn])), (a5, .inr (1, [.ref a10, .ref a11])), (a11, .inl (y 2, 2, .inl u.2.2))]) (va_A [(a0, .inr (4, [.ref a1, .ref a2, .ref a3, .ref a4, .ref a5])), (a1, .inr (3, [.ref a6, .int tn])), (a6, .inl (y 1, 120, .inl tf)), (a2, soF a7 a8 r), (a7, soV y r), (a8, soW y r), (a4, .inr (0, [.ref a9, .int qz, .int qn])), (a5, .inr (1, [.ref a10, .ref a11])), (a11, .inl (y 2, 2, .inl lfl))] zh)) (vx_X (fun _ : gR × Int32 × (Nat → Int32) => True) (fun (E : String) (u : gR × Int32 × (Nat → Int32)) t => (f_X5_load tn tf r qz qn lfl = (xc E, 0, u) ∧ xc E ≠ 0) ∧ (va_P D vwCl [(a0, .inr (4, [.ref a1, .ref a2, .ref a3, .ref a4, .ref a5])), (a1, .inr (3, [.ref a6, .int tn])), (a6, .inl (y 1, 120, .inl tf)), (a2, soF a7 a8 u.1), (a7, soV y u.1), (a8, soW y u.1), (a4, .inr (0, [.ref a9, .int u.2.1, .int qn])), (a5, .inr (1, [.ref a10, .ref a11])), (a11, .inl (y 2, 2, .inl u.2.2))] t.heap ∧ va_D (va_A [(a0, .inr (4, [.ref a1, .ref a2, .ref a3, .ref a4, .ref a5])), (a1, .inr (3, [.ref a6, .int tn])), (a6, .inl (y 1, 120, .inl tf)), (a2, soF a7 a8 r), (a7, soV y r), (a8, soW y r), (a4, .inr (0, [.ref a9, .int qz, .int qn])), (a5, .inr (1, [.ref a10, .ref a11])), (a11, .inl (y 2, 2, .inl lfl))] zh) [(a0, .inr (4, [.ref a1, .ref a2, .ref a3, .ref a4, .ref a5])), (a1, .inr (3, [.ref a6, .int tn])), (a6, .inl (y 1, 120, .inl tf)), (a2, soF a7 a8 u.1), (a7, soV y u.1), (a8, soW y u.1), (a4, .inr (0, [.ref a9, .int u.2.1, .int qn])), (a5, .inr (1, [.ref a10, .ref a11])), (a11, .inl (y 2, 2, .inl u.2.2))])) (va_A [(a0, .inr (4, [.ref a1, .ref a2, .ref a3, .ref a4, .ref a5])), (a1, .inr (3, [.ref a6, .int tn])), (a6, .inl (y 1, 120, .inl tf)), (a2, soF a7 a8 r), (a7, soV y r), (a8, soW y r), (a4, .inr (0, [.ref a9, .int qz, .int qn])), (a5, .inr (1, [.ref a10, .ref a11])), (a11, .inl (y 2, 2, .inl lfl))] zh)) 2 12 (va_A [(a0, .inr (4, [.ref a1, .ref a2, .ref a3, .ref a4, .ref a5])), (a1, .inr (3, [.ref a6, .int tn])), (a6, .inl (y 1, 120, .inl tf)), (a2, soF a7 a8 r), (a7, soV y r), (a8, soW y r), (a4, .inr (0, [.ref a9, .int qz, .int qn])), (a5, .inr (1, [.ref a10, .ref a11])), (a11, .inl (y 2, 2, .inl lfl))] zh) := by
  refine vx_ofW (cc := cX5_load) (maxL := 1) (ret := (some .int)) (by decide) rfl ?_
  intro p e s m args below meth c s₁ B hml htab hv
  obtain ⟨⟨rfl, hsz, hP, hE, hD⟩, hXE, hXZ⟩ := hv
  have hx := B.exec
  have hb := B.bytes
  have hr := B.returns
  have hts := atoms_spec (ws := wsX5_load) B.pre
  have hown : s.vm.findClass RX5 = some m.cls := findClass_of_methodNamed B.named
  have hlocks := B.notSynchronized
  have w_0 := hts (.fieldLink RX5 10 "GapLines" "text" "LGapLines$Text;") (List.mem_cons_of_mem _ (List.mem_append_left _ (List.mem_append_left _ (List.mem_append_left _ (List.mem_append_left _ (List.mem_append_left _ (List.mem_append_left _ (List.mem_append_left _ (List.mem_of_getElem? (i := 2) rfl)))))))))
  have hi5 : ∀ w ∈ u_ws RX5 TX5 5, w ∈ wsX5_load := fun w h => (List.mem_cons_of_mem _ (List.mem_append_left _ (List.mem_append_left _ (List.mem_append_left _ (List.mem_append_left _ (List.mem_append_left _ (List.mem_append_right _ h)))))))
  have w_2 := hts (.fieldLink RX5 29 "GapLines" "history" "LGapLines$History;") (List.mem_cons_of_mem _ (List.mem_append_left _ (List.mem_append_left _ (List.mem_append_left _ (List.mem_append_left _ (List.mem_append_left _ (List.mem_append_left _ (List.mem_append_left _ (List.mem_of_getElem? (i := 3) rfl)))))))))
  have w_3 := hts (.fieldLink RX5 36 "GapLines" "slots" "LGapLines$Slots;") (List.mem_cons_of_mem _ (List.mem_append_left _ (List.mem_append_left _ (List.mem_append_left _ (List.mem_append_left _ (List.mem_append_left _ (List.mem_append_left _ (List.mem_append_left _ (List.mem_of_getElem? (i := 4) rfl)))))))))
  have w_4 := hts (.fieldLink RX5 19 "GapLines" "state" "LGapLines$State;") (List.mem_cons_of_mem _ (List.mem_append_left _ (List.mem_append_left _ (List.mem_append_left _ (List.mem_append_left _ (List.mem_append_left _ (List.mem_append_left _ (List.mem_append_left _ (List.mem_of_getElem? (i := 5) rfl)))))))))
  have w_5 := hts (.classLink RX5 51 "java/lang/IllegalStateException") (List.mem_cons_of_mem _ (List.mem_append_left _ (List.mem_append_left _ (List.mem_append_left _ (List.mem_append_left _ (List.mem_append_left _ (List.mem_append_left _ (List.mem_append_left _ (List.mem_of_getElem? (i := 0) rfl)))))))))
  have w_6 := hts (.initialized "java/lang/IllegalStateException") (List.mem_cons_of_mem _ (List.mem_append_left _ (List.mem_append_left _ (List.mem_append_left _ (List.mem_append_left _ (List.mem_append_left _ (List.mem_append_left _ (List.mem_append_left _ (List.mem_of_getElem? (i := 1) rfl)))))))))
  subst hsz
  have hD := hD.self (sz := s.heap.size)
  generalize hAe : va_A [(a0, .inr (4, [.ref a1, .ref a2, .ref a3, .ref a4, .ref a5])), (a1, .inr (3, [.ref a6, .int tn])), (a6, .inl (y 1, 120, .inl tf)), (a2, soF a7 a8 r), (a7, soV y r), (a8, soW y r), (a4, .inr (0, [.ref a9, .int qz, .int qn])), (a5, .inr (1, [.ref a10, .ref a11])), (a11, .inl (y 2, 2, .inl lfl))] s.heap.size = A at hD hXZ ⊢
  have hA : ∀ q : Nat, s.heap.size ≤ q → A q := fun q h => by rw [← hAe]; exact Or.inr h
  have hS : va_S A s.heap s.heap [] := va_S.rf
  have hl := lv_entry ([.ref a0]) (n := 1) (Nat.le_of_ble_eq_true rfl)
  rw [lg_entry_eq]
  generalize (lg_sl ([.ref a0]) ++ List.replicate (1 - (lg_sl ([.ref a0])).length) Slot.unset).toArray = ls at hl ⊢
  have hl : lv_has ls 1 [(0, .ref a0)] := hl
  have hF := f_X5_load_s tn tf r qz qn lfl
  refine lv_aload_n hx hb dX5_load_0 rfl (lv_at hl 0 rfl) ?_
  refine va_get (D := D) (ci := 4) (v := .ref a1) (C := RX5) (T := TX5) (N := 5) hx hb hts hi5 hown hE.1 hP 0 rfl rfl 0 (by decide) w_0 (fun _ h9 => h9) rfl dX5_load_1 ?_
  refine xs_calli (va_runV (As := []) (rest := []) ⟨hx, hb, hml, hown, hts⟩ (c_X4_firstError l D y a1 a6 s.heap.size tn tf ht) (cwV 0 hts gX5_load_X4_firstError rfl rfl rfl hd_X4_firstError ⟨Nat.le_of_ble_eq_true rfl, Nat.le_of_ble_eq_true rfl⟩) (gV (q := (RX4, TX4, 2)) hE (hP.sub [1, 2] rfl) (hD.sub [1, 2] (by decide) rfl) 0 rfl rfl) rfl rfl hl.1 rfl (lv_room (Nat.le_of_ble_eq_true rfl)) dX5_load_4 ⟨Nat.le_of_ble_eq_true rfl, Nat.le_of_ble_eq_true rfl⟩) (fun v2 h1 => ?_)
  have hF := hF.trans (gLet_e h1)
  refine lv_iconst (v := (-1)) hx hb dX5_load_7 (by decide) ?_
  refine lv_icmp_eq (tgt := 21) hx hb dX5_load_8 (by decide) (fun c_3 => ?_) (fun c_3 => ?_)
  · have hF := hF.trans (if_pos c_3)
    refine lv_aload_n hx hb dX5_load_21 rfl (lv_at hl 0 rfl) ?_
    refine va_get (D := D) (ci := 4) (v := .ref a4) (C := RX5) (T := TX5) (N := 5) hx hb hts hi5 hown hE.1 hP 0 rfl rfl 3 (by decide) w_2 (fun _ h9 => h9) rfl dX5_load_22 ?_
    refine xw_callv (va_runV (As := []) (rest := []) ⟨hx, hb, hml, hown, hts⟩ (c_X0_forgetAll l D y a4 a9 s.heap.size qz qn) (cwV 0 hts gX5_load_X0_forgetAll rfl rfl rfl hd_X0_forgetAll ⟨Nat.le_of_ble_eq_true rfl, Nat.le_of_ble_eq_true rfl⟩) (gV (q := (RX0, TX0, 3)) hE (hP.sub [6] rfl) (hD.sub [6] (by decide) rfl) 0 rfl rfl) rfl rfl hl.1 rfl (lv_room (Nat.le_of_ble_eq_true rfl)) dX5_load_25 ⟨Nat.le_of_ble_eq_true rfl, Nat.le_of_ble_eq_true rfl⟩) hP hD hS hA [6] rfl (by decide) (fun _ => rfl) (fun u5 H locs h4 hP hD hS => ?_)
    have hF := hF.trans (gLet_e h4)
    have hP : va_P D vwCl [(a0, .inr (4, [.ref a1, .ref a2, .ref a3, .ref a4, .ref a5])), (a1, .inr (3, [.ref a6, .int tn])), (a6, .inl (y 1, 120, .inl tf)), (a2, soF a7 a8 r), (a7, soV y r), (a8, soW y r), (a4, .inr (0, [.ref a9, .int u5, .int qn])), (a5, .inr (1, [.ref a10, .ref a11])), (a11, .inl (y 2, 2, .inl lfl))] H := hP
    have hD : va_D A [(a0, .inr (4, [.ref a1, .ref a2, .ref a3, .ref a4, .ref a5])), (a1, .inr (3, [.ref a6, .int tn])), (a6, .inl (y 1, 120, .inl tf)), (a2, soF a7 a8 r), (a7, soV y r), (a8, soW y r), (a4, .inr (0, [.ref a9, .int u5, .int qn])), (a5, .inr (1, [.ref a10, .ref a11])), (a11, .inl (y 2, 2, .inl lfl))] := hD
    refine lv_aload_n hx hb dX5_load_28 rfl (lv_at hl 0 rfl) ?_
    refine va_get (D := D) (ci := 4) (v := .ref a5) (C := RX5) (T := TX5) (N := 5) hx hb hts hi5 hown hE.1 hP 0 rfl rfl 4 (by decide) w_3 (fun _ h9 => h9) rfl dX5_load_29 ?_
    refine xw_callv (va_runV (As := []) (rest := []) ⟨hx, hb, hml, hown, hts⟩ (c_X2_forgetAll l D y a5 a10 a11 H.size lfl) (cwV 0 hts gX5_load_X2_forgetAll rfl rfl rfl hd_X2_forgetAll ⟨Nat.le_of_ble_eq_true rfl, Nat.le_of_ble_eq_true rfl⟩) (gV (q := (RX2, TX2, 2)) hE (hP.sub [7, 8] rfl) (hD.sub [7, 8] (by decide) rfl) 0 rfl rfl) rfl rfl hl.1 rfl (lv_room (Nat.le_of_ble_eq_true rfl)) dX5_load_32 ⟨Nat.le_of_ble_eq_true rfl, Nat.le_of_ble_eq_true rfl⟩) hP hD hS hA [7, 8] rfl (by decide) (fun _ => rfl) (fun u7 H locs h6 hP hD hS => ?_)
    have hF := hF.trans (gLet_e h6)
    have hP : va_P D vwCl [(a0, .inr (4, [.ref a1, .ref a2, .ref a3, .ref a4, .ref a5])), (a1, .inr (3, [.ref a6, .int tn])), (a6, .inl (y 1, 120, .inl tf)), (a2, soF a7 a8 r), (a7, soV y r), (a8, soW y r), (a4, .inr (0, [.ref a9, .int u5, .int qn])), (a5, .inr (1, [.ref a10, .ref a11])), (a11, .inl (y 2, 2, .inl u7))] H := hP
    have hD : va_D A [(a0, .inr (4, [.ref a1, .ref a2, .ref a3, .ref a4, .ref a5])), (a1, .inr (3, [.ref a6, .int tn])), (a6, .inl (y 1, 120, .inl tf)), (a2, soF a7 a8 r), (a7, soV y r), (a8, soW y r), (a4, .inr (0, [.ref a9, .int u5, .int qn])), (a5, .inr (1, [.ref a10, .ref a11])), (a11, .inl (y 2, 2, .inl u7))] := hD
    refine lv_aload_n hx hb dX5_load_35 rfl (lv_at hl 0 rfl) ?_
    refine va_get (D := D) (ci := 4) (v := .ref a2) (C := RX5) (T := TX5) (N := 5) hx hb hts hi5 hown hE.1 hP 0 rfl rfl 1 (by decide) w_4 (fun _ h9 => h9) rfl dX5_load_36 ?_
    refine xw_callv (va_runV (As := []) (rest := []) ⟨hx, hb, hml, hown, hts⟩ (c_X3_beginAnew l D y a2 a7 a8 H.size r) (cwV 0 hts gX5_load_X3_beginAnew rfl rfl rfl hd_X3_beginAnew ⟨Nat.le_of_ble_eq_true rfl, Nat.le_of_ble_eq_true rfl⟩) (gV (q := (RX3, TX3, 15)) hE (hP.sub [3, 4, 5] rfl) (hD.sub [3, 4, 5] (by decide) rfl) 0 rfl rfl) rfl rfl hl.1 rfl (lv_room (Nat.le_of_ble_eq_true rfl)) dX5_load_39 ⟨Nat.le_of_ble_eq_true rfl, Nat.le_of_ble_eq_true rfl⟩) hP hD hS hA [3, 4, 5] rfl (by decide) (fun _ => rfl) (fun u9 H locs h8 hP hD hS => ?_)
    have hF := hF.trans (gLet_e h8)
    have hP : va_P D vwCl [(a0, .inr (4, [.ref a1, .ref a2, .ref a3, .ref a4, .ref a5])), (a1, .inr (3, [.ref a6, .int tn])), (a6, .inl (y 1, 120, .inl tf)), (a2, soF a7 a8 u9), (a7, soV y u9), (a8, soW y u9), (a4, .inr (0, [.ref a9, .int u5, .int qn])), (a5, .inr (1, [.ref a10, .ref a11])), (a11, .inl (y 2, 2, .inl u7))] H := hP
    have hD : va_D A [(a0, .inr (4, [.ref a1, .ref a2, .ref a3, .ref a4, .ref a5])), (a1, .inr (3, [.ref a6, .int tn])), (a6, .inl (y 1, 120, .inl tf)), (a2, soF a7 a8 u9), (a7, soV y u9), (a8, soW y u9), (a4, .inr (0, [.ref a9, .int u5, .int qn])), (a5, .inr (1, [.ref a10, .ref a11])), (a11, .inl (y 2, 2, .inl u7))] := hD
    refine lv_aload_n hx hb dX5_load_42 rfl (lv_at hl 0 rfl) ?_
    refine va_get (D := D) (ci := 4) (v := .ref a1) (C := RX5) (T := TX5) (N := 5) hx hb hts hi5 hown hE.1 hP 0 rfl rfl 0 (by decide) w_0 (fun _ h9 => h9) rfl dX5_load_43 ?_
    refine lv_aload_n hx hb dX5_load_46 rfl (lv_at hl 0 rfl) ?_
    refine va_get (D := D) (ci := 4) (v := .ref a2) (C := RX5) (T := TX5) (N := 5) hx hb hts hi5 hown hE.1 hP 0 rfl rfl 1 (by decide) w_4 (fun _ h9 => h9) rfl dX5_load_47 ?_
    refine xw_calli (va_runV (As := [.ref a2]) (rest := []) ⟨hx, hb, hml, hown, hts⟩ (c_X4_tellTo l D y a1 a6 a2 a7 a8 H.size tn tf u9 ht (by rw [← h8]; exact ok_X3_beginAnew _ ho)) (cwV 1 hts gX5_load_X4_tellTo rfl rfl rfl hd_X4_tellTo ⟨Nat.le_of_ble_eq_true rfl, Nat.le_of_ble_eq_true rfl⟩) (gV (q := (RX4, TX4, 2)) hE (hP.sub [1, 2, 3, 4, 5] rfl) (hD.sub [1, 2, 3, 4, 5] (by decide) rfl) 0 rfl rfl) rfl rfl hl.1 rfl (lv_room (Nat.le_of_ble_eq_true rfl)) dX5_load_50 ⟨Nat.le_of_ble_eq_true rfl, Nat.le_of_ble_eq_true rfl⟩) hP hD hS hA [1, 2, 3, 4, 5] rfl (by decide) (fun _ => rfl) (fun v12 u11 H locs h10 hP hD hS => ?_)
    obtain ⟨q13, eq13⟩ : ∃ z : Int32 × gR, f_X4_tellTo tn tf u9 = z := ⟨_, rfl⟩
    obtain ⟨rfl, rfl⟩ : q13.1 = v12 ∧ q13.2 = u11 := ⟨by rw [← eq13, h10], by rw [← eq13, h10]⟩
    have hF := hF.trans (gLet_e eq13)
    have hP : va_P D vwCl [(a0, .inr (4, [.ref a1, .ref a2, .ref a3, .ref a4, .ref a5])), (a1, .inr (3, [.ref a6, .int tn])), (a6, .inl (y 1, 120, .inl tf)), (a2, soF a7 a8 q13.2), (a7, soV y q13.2), (a8, soW y q13.2), (a4, .inr (0, [.ref a9, .int u5, .int qn])), (a5, .inr (1, [.ref a10, .ref a11])), (a11, .inl (y 2, 2, .inl u7))] H := hP
    have hD : va_D A [(a0, .inr (4, [.ref a1, .ref a2, .ref a3, .ref a4, .ref a5])), (a1, .inr (3, [.ref a6, .int tn])), (a6, .inl (y 1, 120, .inl tf)), (a2, soF a7 a8 q13.2), (a7, soV y q13.2), (a8, soW y q13.2), (a4, .inr (0, [.ref a9, .int u5, .int qn])), (a5, .inr (1, [.ref a10, .ref a11])), (a11, .inl (y 2, 2, .inl u7))] := hD
    refine W.widen (k := 2) (n := 12) (Nat.le_of_ble_eq_true rfl) (Nat.le_of_ble_eq_true rfl) ?_
    refine vx_ret ?_
    exact W.iret (v := q13.1) hx hb hr (fun t ht hW => ⟨⟨q13.1, ⟨q13.2, u5, u7⟩, rfl, hF, ⟨by rw [ht]; exact hP, hD⟩⟩, hS.F ht⟩) hS.2.2 dX5_load_53
  · have hF := hF.trans (if_neg c_3)
    obtain ⟨sa14, hsa14⟩ := hXE.2 _ (List.mem_of_getElem? (i := 2) rfl)
    exact vx_throwS (names := xN) hx hb hst hown (by decide +kernel) (by decide +kernel) w_5 w_6 hsa14 (vx_hat (fun w hw => hts w (List.mem_cons_of_mem _ (List.mem_append_right _ hw))) x_bad55 (xE_bad hXE hXE.1.1.2.1)) x_good55 hXZ.1 hXZ.2 hS (hml.trans hl.1.symm).symm dX5_load_11 dX5_load_14 dX5_load_15 dX5_load_17 dX5_load_20 (fun x hx => (htab x hx).elim) (Nat.le_of_ble_eq_true rfl) (Nat.le_of_ble_eq_true rfl) (Nat.le_of_ble_eq_true rfl) (Nat.le_of_ble_eq_true rfl) hlocks (fun t hvm hz hk => ⟨⟨r, qz, lfl⟩, trivial, ⟨⟨by rw [xc_IS]; exact hF, by rw [xc_IS]; decide⟩, ⟨x_grow hP hk, hD⟩⟩, x_F hS hz hk⟩) hS.2.2 (Nat.le_of_ble_eq_true rfl) (Nat.le_of_ble_eq_true rfl)

def f_X5_make (tn : Int32) (tf : Nat → Int32) (r : gR) (rc : gR) (qz : Int32) (qn : Int32) (hq : Nat → Option gR) (lq : Nat → Option gR) (lfl : Nat → Int32) (p0 : Int32) (p1 : Int32) (p2 : Int32) : Nat × Int32 × gR × (Nat → Option gR) × Int32 × Int32 :=
    gLet (f_X5_isShape p0 p1) (fun (v2 : Int32) =>
    if v2 = 0 then
      (1, 0, r, hq, qz, qn)
    else
      if p2 < 0 then
        (1, 0, r, hq, qz, qn)
      else
        if p2 ≤ 4 then
          gLet (f_X0_remember r qz qn hq) (fun (u8 : (Nat → Option gR) × Int32 × Int32) =>
            gLet (f_X3_begin r p0 p1 p2) (fun (u13 : gR) =>
              gLet (f_X3_placeOf u13 1) (fun (v15 : Int32) =>
                (0, v15, u13, u8.1, u8.2.1, u8.2.2))))
        else
          (1, 0, r, hq, qz, qn))
theorem f_X5_make_s (tn : Int32) (tf : Nat → Int32) (r : gR) (rc : gR) (qz : Int32) (qn : Int32) (hq : Nat → Option gR) (lq : Nat → Option gR) (lfl : Nat → Int32) (p0 : Int32) (p1 : Int32) (p2 : Int32) : f_X5_make tn tf r rc qz qn hq lq lfl p0 p1 p2 =
    (gLet (f_X5_isShape p0 p1) (fun (v2 : Int32) =>
    if v2 = 0 then
      (1, 0, r, hq, qz, qn)
    else
      if p2 < 0 then
        (1, 0, r, hq, qz, qn)
      else
        if p2 ≤ 4 then
          gLet (f_X0_remember r qz qn hq) (fun (u8 : (Nat → Option gR) × Int32 × Int32) =>
            gLet (f_X3_begin r p0 p1 p2) (fun (u13 : gR) =>
              gLet (f_X3_placeOf u13 1) (fun (v15 : Int32) =>
                (0, v15, u13, u8.1, u8.2.1, u8.2.2))))
        else
          (1, 0, r, hq, qz, qn))) := rfl
theorem hd_X5_make : yX5_make.cls = RX5 ∧ yX5_make.cls ≠ "java/lang/invoke/MethodHandle" ∧ yX5_make.cls ≠ "java/lang/invoke/VarHandle" ∧ (parseMethodDescriptor yX5_make.desc).map (fun d => d.parameters.length) = some 3 := by decide +kernel
set_option maxHeartbeats 4000000 in
set_option maxRecDepth 100000 in
theorem c_X5_make (l : Launch) (hst : l.stackTraces = false) (D : va_G) (y : Nat → ClassId) (a0 a1 a2 a3 a4 a5 a6 a7 a8 a9 a10 a11 a12 a13 : Nat) (ga gb : Nat → Nat × Nat × Nat) (zh : Nat) (tn : Int32) (tf : Nat → Int32) (r : gR) (rc : gR) (qz : Int32) (qn : Int32) (hq : Nat → Option gR) (lq : Nat → Option gR) (lfl : Nat → Int32) (p0 : Int32) (p1 : Int32) (p2 : Int32) (hh : 0 ≤ qn.toInt ∧ qn.toInt < (14 : Nat)) (ho : okC r) : vx_Met l yX5_make wsX5_make ({ frames := 6, cells := 3, slots := 80, locals := 82 }) (xP D y [.ref a0, .int p0, .int p1, .int p2] zh ((a0, .inr (4, [.ref a1, .ref a2, .ref a3, .ref a4, .ref a5])) :: (a1, .inr (3, [.ref a6, .int tn])) :: (a6, .inl (y 1, 120, .inl tf)) :: (a2, soF a7 a8 r) :: (a7, soV y r) :: (a8, soW y r) :: (a3, soF a9 a10 rc) :: (a9, soV y rc) :: (a10, soW y rc) :: (a4, .inr (0, [.ref a11, .int qz, .int qn])) :: (a11, .inl (y 3, 14, .inr (.inr (.inr (.inr (gRf ga hq)))))) :: (a5, .inr (1, [.ref a12, .ref a13])) :: (a12, .inl (y 3, 2, .inr (.inr (.inr (.inr (gRf gb lq)))))) :: (a13, .inl (y 2, 2, .inl lfl)) :: gTail y ga gb hq lq)) (va_Qi (fun (v : Int32) (u : gR × (Nat → Option gR) × Int32 × Int32) => f_X5_make tn tf r rc qz qn hq lq lfl p0 p1 p2 = (0, v, u)) (fun (u : gR × (Nat → Option gR) × Int32 × Int32) t => ∃ (g1 g2 : Nat → Nat × Nat × Nat), va_P D vwCl ((a0, .inr (4, [.ref a1, .ref a2, .ref a3, .ref a4, .ref a5])) :: (a1, .inr (3, [.ref a6, .int tn])) :: (a6, .inl (y 1, 120, .inl tf)) :: (a2, soF a7 a8 u.1) :: (a7, soV y u.1) :: (a8, soW y u.1) :: (a3, soF a9 a10 rc) :: (a9, soV y rc) :: (a10, soW y rc) :: (a4, .inr (0, [.ref a11, .int u.2.2.1, .int u.2.2.2])) :: (a11, .inl (y 3, 14, .inr (.inr (.inr (.inr (gRf g1 u.2.1)))))) :: (a5, .inr (1, [.ref a12, .ref a13])) :: (a12, .inl (y 3, 2, .inr (.inr (.inr (.inr (gRf g2 lq)))))) :: (a13, .inl (y 2, 2, .inl lfl)) :: gTail y g1 g2 u.2.1 lq) t.heap ∧ va_D (va_A ((a0, .inr (4, [.ref a1, .ref a2, .ref a3, .ref a4, .ref a5])) :: (a1, .inr (3, [.ref a6, .int tn])) :: (a6, .inl (y 1, 120, .inl tf)) :: (a2, soF a7 a8 r) :: (a7, soV y r) :: (a8, soW y r) :: (a3, soF a9 a10 rc) :: (a9, soV y rc) :: (a10, soW y rc) :: (a4, .inr (0, [.ref a11, .int qz, .int qn])) :: (a11, .inl (y 3, 14, .inr (.inr (.inr (.inr (gRf ga hq)))))) :: (a5, .inr (1, [.ref a12, .ref a13])) :: (a12, .inl (y 3, 2, .inr (.inr (.inr (.inr (gRf gb lq)))))) :: (a13, .inl (y 2, 2, .inl lfl)) :: gTail y ga gb hq lq) zh) ((a0, .inr (4, [.ref a1, .ref a2, .ref a3, .ref a4, .ref a5])) :: (a1, .inr (3, [.ref a6, .int tn])) :: (a6, .inl (y 1, 120, .inl tf)) :: (a2, soF a7 a8 u.1) :: (a7, soV y u.1) :: (a8, soW y u.1) :: (a3, soF a9 a10 rc) :: (a9, soV y rc) :: (a10, soW y rc) :: (a4, .inr (0, [.ref a11, .int u.2.2.1, .int u.2.2.2])) :: (a11, .inl (y 3, 14, .inr (.inr (.inr (.inr (gRf g1 u.2.1)))))) :: (a5, .inr (1, [.ref a12, .ref a13])) :: (a12, .inl (y 3, 2, .inr (.inr (.inr (.inr (gRf g2 lq)))))) :: (a13, .inl (y 2, 2, .inl lfl)) :: gTail y g1 g2 u.2.1 lq)) (va_A ((a0, .inr (4, [.ref a1, .ref a2, .ref a3, .ref a4, .ref a5])) :: (a1, .inr (3, [.ref a6, .int tn])) :: (a6, .inl (y 1, 120, .inl tf)) :: (a2, soF a7 a8 r) :: (a7, soV y r) :: (a8, soW y r) :: (a3, soF a9 a10 rc) :: (a9, soV y rc) :: (a10, soW y rc) :: (a4, .inr (0, [.ref a11, .int qz, .int qn])) :: (a11, .inl (y 3, 14, .inr (.inr (.inr (.inr (gRf ga hq)))))) :: (a5, .inr (1, [.ref a12, .ref a13])) :: (a12, .inl (y 3, 2, .inr (.inr (.inr (.inr (gRf gb lq)))))) :: (a13, .inl (y 2, 2, .inl lfl)) :: gTail y ga gb hq lq) zh)) (vx_X (fun _ : gR × (Nat → Option gR) × Int32 × Int32 => True) (fun (E : String) (u : gR × (Nat → Option gR) × Int32 × Int32) t => (f_X5_make tn tf r rc qz qn hq lq lfl p0 p1 p2 = (xc E, 0, u) ∧ xc E ≠ 0) ∧ (∃ (g1 g2 : Nat → Nat × Nat × Nat), va_P D vwCl ((a0, .inr (4, [.ref a1, .ref a2, .ref a3, .ref a4, .ref a5])) :: (a1, .inr (3, [.ref a6, .int tn])) :: (a6, .inl (y 1, 120, .inl tf)) :: (a2, soF a7 a8 u.1) :: (a7, soV y u.1) :: (a8, soW y u.1) :: (a3, soF a9 a10 rc) :: (a9, soV y rc) :: (a10, soW y rc) :: (a4, .inr (0, [.ref a11, .int u.2.2.1, .int u.2.2.2])) :: (a11, .inl (y 3, 14, .inr (.inr (.inr (.inr (gRf g1 u.2.1)))))) :: (a5, .inr (1, [.ref a12, .ref a13])) :: (a12, .inl (y 3, 2, .inr (.inr (.inr (.inr (gRf g2 lq)))))) :: (a13, .inl (y 2, 2, .inl lfl)) :: gTail y g1 g2 u.2.1 lq) t.heap ∧ va_D (va_A ((a0, .inr (4, [.ref a1, .ref a2, .ref a3, .ref a4, .ref a5])) :: (a1, .inr (3, [.ref a6, .int tn])) :: (a6, .inl (y 1, 120, .inl tf)) :: (a2, soF a7 a8 r) :: (a7, soV y r) :: (a8, soW y r) :: (a3, soF a9 a10 rc) :: (a9, soV y rc) :: (a10, soW y rc) :: (a4, .inr (0, [.ref a11, .int qz, .int qn])) :: (a11, .inl (y 3, 14, .inr (.inr (.inr (.inr (gRf ga hq)))))) :: (a5, .inr (1, [.ref a12, .ref a13])) :: (a12, .inl (y 3, 2, .inr (.inr (.inr (.inr (gRf gb lq)))))) :: (a13, .inl (y 2, 2, .inl lfl)) :: gTail y ga gb hq lq) zh) ((a0, .inr (4, [.ref a1, .ref a2, .ref a3, .ref a4, .ref a5])) :: (a1, .inr (3, [.ref a6, .int tn])) :: (a6, .inl (y 1, 120, .inl tf)) :: (a2, soF a7 a8 u.1) :: (a7, soV y u.1) :: (a8, soW y u.1) :: (a3, soF a9 a10 rc) :: (a9, soV y rc) :: (a10, soW y rc) :: (a4, .inr (0, [.ref a11, .int u.2.2.1, .int u.2.2.2])) :: (a11, .inl (y 3, 14, .inr (.inr (.inr (.inr (gRf g1 u.2.1)))))) :: (a5, .inr (1, [.ref a12, .ref a13])) :: (a12, .inl (y 3, 2, .inr (.inr (.inr (.inr (gRf g2 lq)))))) :: (a13, .inl (y 2, 2, .inl lfl)) :: gTail y g1 g2 u.2.1 lq))) (va_A ((a0, .inr (4, [.ref a1, .ref a2, .ref a3, .ref a4, .ref a5])) :: (a1, .inr (3, [.ref a6, .int tn])) :: (a6, .inl (y 1, 120, .inl tf)) :: (a2, soF a7 a8 r) :: (a7, soV y r) :: (a8, soW y r) :: (a3, soF a9 a10 rc) :: (a9, soV y rc) :: (a10, soW y rc) :: (a4, .inr (0, [.ref a11, .int qz, .int qn])) :: (a11, .inl (y 3, 14, .inr (.inr (.inr (.inr (gRf ga hq)))))) :: (a5, .inr (1, [.ref a12, .ref a13])) :: (a12, .inl (y 3, 2, .inr (.inr (.inr (.inr (gRf gb lq)))))) :: (a13, .inl (y 2, 2, .inl lfl)) :: gTail y ga gb hq lq) zh)) 3 80 (va_A ((a0, .inr (4, [.ref a1, .ref a2, .ref a3, .ref a4, .ref a5])) :: (a1, .inr (3, [.ref a6, .int tn])) :: (a6, .inl (y 1, 120, .inl tf)) :: (a2, soF a7 a8 r) :: (a7, soV y r) :: (a8, soW y r) :: (a3, soF a9 a10 rc) :: (a9, soV y rc) :: (a10, soW y rc) :: (a4, .inr (0, [.ref a11, .int qz, .int qn])) :: (a11, .inl (y 3, 14, .inr (.inr (.inr (.inr (gRf ga hq)))))) :: (a5, .inr (1, [.ref a12, .ref a13])) :: (a12, .inl (y 3, 2, .inr (.inr (.inr (.inr (gRf gb lq)))))) :: (a13, .inl (y 2, 2, .inl lfl)) :: gTail y ga gb hq lq) zh) := by
  refine vx_ofW (cc := cX5_make) (maxL := 4) (ret := (some .int)) (by decide) rfl ?_
  intro p e s m args below meth c s₁ B hml htab hv
  obtain ⟨⟨rfl, hsz, hP, hE, hD⟩, hXE, hXZ⟩ := hv
  have hx := B.exec
  have hb := B.bytes
  have hr := B.returns
  have hts := atoms_spec (ws := wsX5_make) B.pre
  have hown : s.vm.findClass RX5 = some m.cls := findClass_of_methodNamed B.named
  have hlocks := B.notSynchronized
  have w_0 := hts (.classLink RX5 40 "java/lang/IllegalArgumentException") (List.mem_cons_of_mem _ (List.mem_append_left _ (List.mem_append_left _ (List.mem_append_left _ (List.mem_append_left _ (List.mem_append_left _ (List.mem_of_getElem? (i := 0) rfl)))))))
  have w_1 := hts (.initialized "java/lang/IllegalArgumentException") (List.mem_cons_of_mem _ (List.mem_append_left _ (List.mem_append_left _ (List.mem_append_left _ (List.mem_append_left _ (List.mem_append_left _ (List.mem_of_getElem? (i := 1) rfl)))))))
  have w_2 := hts (.fieldLink RX5 29 "GapLines" "history" "LGapLines$History;") (List.mem_cons_of_mem _ (List.mem_append_left _ (List.mem_append_left _ (List.mem_append_left _ (List.mem_append_left _ (List.mem_append_left _ (List.mem_of_getElem? (i := 2) rfl)))))))
  have hi5 : ∀ w ∈ u_ws RX5 TX5 5, w ∈ wsX5_make := fun w h => (List.mem_cons_of_mem _ (List.mem_append_left _ (List.mem_append_left _ (List.mem_append_left _ (List.mem_append_right _ h)))))
  have w_4 := hts (.fieldLink RX5 19 "GapLines" "state" "LGapLines$State;") (List.mem_cons_of_mem _ (List.mem_append_left _ (List.mem_append_left _ (List.mem_append_left _ (List.mem_append_left _ (List.mem_append_left _ (List.mem_of_getElem? (i := 3) rfl)))))))
  subst hsz
  have hD := hD.self (sz := s.heap.size)
  generalize hAe : va_A ((a0, .inr (4, [.ref a1, .ref a2, .ref a3, .ref a4, .ref a5])) :: (a1, .inr (3, [.ref a6, .int tn])) :: (a6, .inl (y 1, 120, .inl tf)) :: (a2, soF a7 a8 r) :: (a7, soV y r) :: (a8, soW y r) :: (a3, soF a9 a10 rc) :: (a9, soV y rc) :: (a10, soW y rc) :: (a4, .inr (0, [.ref a11, .int qz, .int qn])) :: (a11, .inl (y 3, 14, .inr (.inr (.inr (.inr (gRf ga hq)))))) :: (a5, .inr (1, [.ref a12, .ref a13])) :: (a12, .inl (y 3, 2, .inr (.inr (.inr (.inr (gRf gb lq)))))) :: (a13, .inl (y 2, 2, .inl lfl)) :: gTail y ga gb hq lq) s.heap.size = A at hD hXZ ⊢
  have hA : ∀ q : Nat, s.heap.size ≤ q → A q := fun q h => by rw [← hAe]; exact Or.inr h
  have hS : va_S A s.heap s.heap [] := va_S.rf
  have hl := lv_entry ([.ref a0, .int p0, .int p1, .int p2]) (n := 4) (Nat.le_of_ble_eq_true rfl)
  rw [lg_entry_eq]
  generalize (lg_sl ([.ref a0, .int p0, .int p1, .int p2]) ++ List.replicate (4 - (lg_sl ([.ref a0, .int p0, .int p1, .int p2])).length) Slot.unset).toArray = ls at hl ⊢
  have hl : lv_has ls 4 [(0, .ref a0), (1, .int p0), (2, .int p1), (3, .int p2)] := hl
  have hF := f_X5_make_s tn tf r rc qz qn hq lq lfl p0 p1 p2
  obtain ⟨T, hT⟩ : ∃ T : va_W, gTail y ga gb hq lq = T := ⟨_, rfl⟩
  rw [hT] at hP hD
  refine lv_iload_n hx hb dX5_make_0 rfl (lv_at hl 1 rfl) ?_
  refine lv_iload_n hx hb dX5_make_1 rfl (lv_at hl 2 rfl) ?_
  refine xs_calli (va_runS (As := [.int p0, .int p1]) (rest := []) ⟨hx, hb, hml, hown, hts⟩ (c_X5_isShape l D y s.heap.size p0 p1) (va_cwS 2 hts gX5_make_X5_isShape rfl rfl rfl hd_X5_isShape ⟨Nat.le_of_ble_eq_true rfl, Nat.le_of_ble_eq_true rfl⟩) (gS hE (hP.sub [] rfl) (hD.sub [] (by decide) rfl)) rfl rfl hl.1 rfl (lv_room (Nat.le_of_ble_eq_true rfl)) dX5_make_2 ⟨Nat.le_of_ble_eq_true rfl, Nat.le_of_ble_eq_true rfl⟩) (fun v2 h1 => ?_)
  have hF := hF.trans (gLet_e h1)
  refine lv_if_ne (tgt := 18) hx hb dX5_make_5 (by decide) (fun c_3 => ?_) (fun c_3 => ?_)
  · have hF := hF.trans (if_neg c_3)
    refine lv_iload_n hx hb dX5_make_18 rfl (lv_at hl 3 rfl) ?_
    refine lv_if_lt (tgt := 27) hx hb dX5_make_19 (by decide) (fun c_4 => ?_) (fun c_4 => ?_)
    · have hF := hF.trans (if_pos c_4)
      obtain ⟨sa5, hsa5⟩ := hXE.2 _ (List.mem_of_getElem? (i := 5) rfl)
      rw [← hT] at hP hD
      exact vx_throwS (names := xN) hx hb hst hown (by decide +kernel) (by decide +kernel) w_0 w_1 hsa5 (vx_hat (fun w hw => hts w (List.mem_cons_of_mem _ (List.mem_append_right _ hw))) x_bad44 (xE_bad hXE hXE.1.1.1)) x_good44 hXZ.1 hXZ.2 hS (hml.trans hl.1.symm).symm dX5_make_27 dX5_make_30 dX5_make_31 dX5_make_33 dX5_make_36 (fun x hx => (htab x hx).elim) (Nat.le_of_ble_eq_true rfl) (Nat.le_of_ble_eq_true rfl) (Nat.le_of_ble_eq_true rfl) (Nat.le_of_ble_eq_true rfl) hlocks (fun t hvm hz hk => ⟨⟨r, hq, qz, qn⟩, trivial, ⟨⟨by rw [xc_IA]; exact hF, by rw [xc_IA]; decide⟩, ⟨ga, gb, x_grow hP hk, hD⟩⟩, x_F hS hz hk⟩) hS.2.2 (Nat.le_of_ble_eq_true rfl) (Nat.le_of_ble_eq_true rfl)
    · have hF := hF.trans (if_neg c_4)
      refine lv_iload_n hx hb dX5_make_22 rfl (lv_at hl 3 rfl) ?_
      refine lv_iconst (v := 4) hx hb dX5_make_23 (by decide) ?_
      refine lv_icmp_le (tgt := 37) hx hb dX5_make_24 (by decide) (fun c_6 => ?_) (fun c_6 => ?_)
      · have hF := hF.trans (if_pos c_6)
        refine lv_aload_n hx hb dX5_make_37 rfl (lv_at hl 0 rfl) ?_
        refine va_get (D := D) (ci := 4) (v := .ref a4) (C := RX5) (T := TX5) (N := 5) hx hb hts hi5 hown hE.1 hP 0 rfl rfl 3 (by decide) w_2 (fun _ h9 => h9) rfl dX5_make_38 ?_
        refine lv_aload_n hx hb dX5_make_41 rfl (lv_at hl 0 rfl) ?_
        refine va_get (D := D) (ci := 4) (v := .ref a2) (C := RX5) (T := TX5) (N := 5) hx hb hts hi5 hown hE.1 hP 0 rfl rfl 1 (by decide) w_4 (fun _ h9 => h9) rfl dX5_make_42 ?_
        rw [← hT] at hP hD
        refine xw_callEv (va_runV (As := [.ref a2]) (rest := []) ⟨hx, hb, hml, hown, hts⟩ (c_X0_remember l D y a0 a1 a2 a3 a4 a5 a6 a7 a8 a9 a10 a11 a12 a13 ga gb s.heap.size tn tf r rc qz qn hq lq lfl hh ho) (cwV 1 hts gX5_make_X0_remember rfl rfl rfl hd_X0_remember ⟨Nat.le_of_ble_eq_true rfl, Nat.le_of_ble_eq_true rfl⟩) (gV (q := (RX0, TX0, 3)) hE hP hD 9 rfl rfl) rfl rfl hl.1 rfl (lv_room (Nat.le_of_ble_eq_true rfl)) dX5_make_45 ⟨Nat.le_of_ble_eq_true rfl, Nat.le_of_ble_eq_true rfl⟩) hD hS hA (fun u8 ga9 gb10 H locs h7 hP hD hS => ?_)
        have hF := hF.trans (gLet_e h7)
        have hP : va_P D vwCl ((a0, .inr (4, [.ref a1, .ref a2, .ref a3, .ref a4, .ref a5])) :: (a1, .inr (3, [.ref a6, .int tn])) :: (a6, .inl (y 1, 120, .inl tf)) :: (a2, soF a7 a8 r) :: (a7, soV y r) :: (a8, soW y r) :: (a3, soF a9 a10 rc) :: (a9, soV y rc) :: (a10, soW y rc) :: (a4, .inr (0, [.ref a11, .int u8.2.1, .int u8.2.2])) :: (a11, .inl (y 3, 14, .inr (.inr (.inr (.inr (gRf ga9 u8.1)))))) :: (a5, .inr (1, [.ref a12, .ref a13])) :: (a12, .inl (y 3, 2, .inr (.inr (.inr (.inr (gRf gb10 lq)))))) :: (a13, .inl (y 2, 2, .inl lfl)) :: gTail y ga9 gb10 u8.1 lq) H := hP
        have hD : va_D A ((a0, .inr (4, [.ref a1, .ref a2, .ref a3, .ref a4, .ref a5])) :: (a1, .inr (3, [.ref a6, .int tn])) :: (a6, .inl (y 1, 120, .inl tf)) :: (a2, soF a7 a8 r) :: (a7, soV y r) :: (a8, soW y r) :: (a3, soF a9 a10 rc) :: (a9, soV y rc) :: (a10, soW y rc) :: (a4, .inr (0, [.ref a11, .int u8.2.1, .int u8.2.2])) :: (a11, .inl (y 3, 14, .inr (.inr (.inr (.inr (gRf ga9 u8.1)))))) :: (a5, .inr (1, [.ref a12, .ref a13])) :: (a12, .inl (y 3, 2, .inr (.inr (.inr (.inr (gRf gb10 lq)))))) :: (a13, .inl (y 2, 2, .inl lfl)) :: gTail y ga9 gb10 u8.1 lq) := hD
        obtain ⟨T11, hT11⟩ : ∃ T : va_W, gTail y ga9 gb10 u8.1 lq = T := ⟨_, rfl⟩
        rw [hT11] at hP hD
        refine lv_aload_n hx hb dX5_make_48 rfl (lv_at hl 0 rfl) ?_
        refine va_get (D := D) (ci := 4) (v := .ref a2) (C := RX5) (T := TX5) (N := 5) hx hb hts hi5 hown hE.1 hP 0 rfl rfl 1 (by decide) w_4 (fun _ h9 => h9) rfl dX5_make_49 ?_
        refine lv_iload_n hx hb dX5_make_52 rfl (lv_at hl 1 rfl) ?_
        refine lv_iload_n hx hb dX5_make_53 rfl (lv_at hl 2 rfl) ?_
        refine lv_iload_n hx hb dX5_make_54 rfl (lv_at hl 3 rfl) ?_
        refine xw_callv (va_runV (As := [.int p0, .int p1, .int p2]) (rest := []) ⟨hx, hb, hml, hown, hts⟩ (c_X3_begin l D y a2 a7 a8 H.size r p0 p1 p2) (cwV 3 hts gX5_make_X3_begin rfl rfl rfl hd_X3_begin ⟨Nat.le_of_ble_eq_true rfl, Nat.le_of_ble_eq_true rfl⟩) (gV (q := (RX3, TX3, 15)) hE (hP.sub [3, 4, 5] rfl) (hD.sub [3, 4, 5] (by decide) rfl) 0 rfl rfl) rfl rfl hl.1 rfl (lv_room (Nat.le_of_ble_eq_true rfl)) dX5_make_55 ⟨Nat.le_of_ble_eq_true rfl, Nat.le_of_ble_eq_true rfl⟩) hP hD hS hA [3, 4, 5] rfl (by decide) (fun _ => rfl) (fun u13 H locs h12 hP hD hS => ?_)
        have hF := hF.trans (gLet_e h12)
        have hP : va_P D vwCl ((a0, .inr (4, [.ref a1, .ref a2, .ref a3, .ref a4, .ref a5])) :: (a1, .inr (3, [.ref a6, .int tn])) :: (a6, .inl (y 1, 120, .inl tf)) :: (a2, soF a7 a8 u13) :: (a7, soV y u13) :: (a8, soW y u13) :: (a3, soF a9 a10 rc) :: (a9, soV y rc) :: (a10, soW y rc) :: (a4, .inr (0, [.ref a11, .int u8.2.1, .int u8.2.2])) :: (a11, .inl (y 3, 14, .inr (.inr (.inr (.inr (gRf ga9 u8.1)))))) :: (a5, .inr (1, [.ref a12, .ref a13])) :: (a12, .inl (y 3, 2, .inr (.inr (.inr (.inr (gRf gb10 lq)))))) :: (a13, .inl (y 2, 2, .inl lfl)) :: T11) H := hP
        have hD : va_D A ((a0, .inr (4, [.ref a1, .ref a2, .ref a3, .ref a4, .ref a5])) :: (a1, .inr (3, [.ref a6, .int tn])) :: (a6, .inl (y 1, 120, .inl tf)) :: (a2, soF a7 a8 u13) :: (a7, soV y u13) :: (a8, soW y u13) :: (a3, soF a9 a10 rc) :: (a9, soV y rc) :: (a10, soW y rc) :: (a4, .inr (0, [.ref a11, .int u8.2.1, .int u8.2.2])) :: (a11, .inl (y 3, 14, .inr (.inr (.inr (.inr (gRf ga9 u8.1)))))) :: (a5, .inr (1, [.ref a12, .ref a13])) :: (a12, .inl (y 3, 2, .inr (.inr (.inr (.inr (gRf gb10 lq)))))) :: (a13, .inl (y 2, 2, .inl lfl)) :: T11) := hD
        refine lv_aload_n hx hb dX5_make_58 rfl (lv_at hl 0 rfl) ?_
        refine va_get (D := D) (ci := 4) (v := .ref a2) (C := RX5) (T := TX5) (N := 5) hx hb hts hi5 hown hE.1 hP 0 rfl rfl 1 (by decide) w_4 (fun _ h9 => h9) rfl dX5_make_59 ?_
        refine lv_iconst (v := 1) hx hb dX5_make_62 (by decide) ?_
        refine xs_calli (va_runV (As := [.int 1]) (rest := []) ⟨hx, hb, hml, hown, hts⟩ (c_X3_placeOf l D y a2 a7 a8 H.size u13 1) (cwV 1 hts gX5_make_X3_placeOf rfl rfl rfl hd_X3_placeOf ⟨Nat.le_of_ble_eq_true rfl, Nat.le_of_ble_eq_true rfl⟩) (gV (q := (RX3, TX3, 15)) hE (hP.sub [3, 4, 5] rfl) (hD.sub [3, 4, 5] (by decide) rfl) 0 rfl rfl) rfl rfl hl.1 rfl (lv_room (Nat.le_of_ble_eq_true rfl)) dX5_make_63 ⟨Nat.le_of_ble_eq_true rfl, Nat.le_of_ble_eq_true rfl⟩) (fun v15 h14 => ?_)
        have hF := hF.trans (gLet_e h14)
        refine W.widen (k := 3) (n := 80) (Nat.le_of_ble_eq_true rfl) (Nat.le_of_ble_eq_true rfl) ?_
        refine vx_ret ?_
        rw [← hT11] at hP hD
        exact W.iret (v := v15) hx hb hr (fun t ht hW => ⟨⟨v15, ⟨u13, u8.1, u8.2.1, u8.2.2⟩, rfl, hF, ⟨ga9, gb10, by rw [ht]; exact hP, hD⟩⟩, hS.F ht⟩) hS.2.2 dX5_make_66
      · have hF := hF.trans (if_neg c_6)
        obtain ⟨sa16, hsa16⟩ := hXE.2 _ (List.mem_of_getElem? (i := 5) rfl)
        rw [← hT] at hP hD
        exact vx_throwS (names := xN) hx hb hst hown (by decide +kernel) (by decide +kernel) w_0 w_1 hsa16 (vx_hat (fun w hw => hts w (List.mem_cons_of_mem _ (List.mem_append_right _ hw))) x_bad44 (xE_bad hXE hXE.1.1.1)) x_good44 hXZ.1 hXZ.2 hS (hml.trans hl.1.symm).symm dX5_make_27 dX5_make_30 dX5_make_31 dX5_make_33 dX5_make_36 (fun x hx => (htab x hx).elim) (Nat.le_of_ble_eq_true rfl) (Nat.le_of_ble_eq_true rfl) (Nat.le_of_ble_eq_true rfl) (Nat.le_of_ble_eq_true rfl) hlocks (fun t hvm hz hk => ⟨⟨r, hq, qz, qn⟩, trivial, ⟨⟨by rw [xc_IA]; exact hF, by rw [xc_IA]; decide⟩, ⟨ga, gb, x_grow hP hk, hD⟩⟩, x_F hS hz hk⟩) hS.2.2 (Nat.le_of_ble_eq_true rfl) (Nat.le_of_ble_eq_true rfl)
  · have hF := hF.trans (if_pos c_3)
    obtain ⟨sa17, hsa17⟩ := hXE.2 _ (List.mem_of_getElem? (i := 4) rfl)
    rw [← hT] at hP hD
    exact vx_throwS (names := xN) hx hb hst hown (by decide +kernel) (by decide +kernel) w_0 w_1 hsa17 (vx_hat (fun w hw => hts w (List.mem_cons_of_mem _ (List.mem_append_right _ hw))) x_bad44 (xE_bad hXE hXE.1.1.1)) x_good44 hXZ.1 hXZ.2 hS (hml.trans hl.1.symm).symm dX5_make_8 dX5_make_11 dX5_make_12 dX5_make_14 dX5_make_17 (fun x hx => (htab x hx).elim) (Nat.le_of_ble_eq_true rfl) (Nat.le_of_ble_eq_true rfl) (Nat.le_of_ble_eq_true rfl) (Nat.le_of_ble_eq_true rfl) hlocks (fun t hvm hz hk => ⟨⟨r, hq, qz, qn⟩, trivial, ⟨⟨by rw [xc_IA]; exact hF, by rw [xc_IA]; decide⟩, ⟨ga, gb, x_grow hP hk, hD⟩⟩, x_F hS hz hk⟩) hS.2.2 (Nat.le_of_ble_eq_true rfl) (Nat.le_of_ble_eq_true rfl)

def f_X5_write (tn : Int32) (tf : Nat → Int32) (r : gR) (rc : gR) (qz : Int32) (qn : Int32) (hq : Nat → Option gR) (lq : Nat → Option gR) (lfl : Nat → Int32) (p0 : Int32) (p1 : Int32) : Nat × Int32 × gR × (Nat → Option gR) × Int32 × Int32 :=
    gLet (f_X5_requireLine r p0) (fun (n1 : Nat) =>
    if n1 = 0 then
      gLet (f_X5_isValue p1) (fun (v7 : Int32) =>
        if v7 = 0 then
          (1, 0, r, hq, qz, qn)
        else
          if (r 8) = 0 then
            gLet (f_X0_remember r qz qn hq) (fun (u11 : (Nat → Option gR) × Int32 × Int32) =>
              gLet (f_X3_writeLine r p0 p1) (fun (q18 : Int32 × gR) =>
                (0, q18.1, q18.2, u11.1, u11.2.1, u11.2.2)))
          else
            (2, 0, r, hq, qz, qn))
    else
      (n1, 0, r, hq, qz, qn))
theorem f_X5_write_s (tn : Int32) (tf : Nat → Int32) (r : gR) (rc : gR) (qz : Int32) (qn : Int32) (hq : Nat → Option gR) (lq : Nat → Option gR) (lfl : Nat → Int32) (p0 : Int32) (p1 : Int32) : f_X5_write tn tf r rc qz qn hq lq lfl p0 p1 =
    (gLet (f_X5_requireLine r p0) (fun (n1 : Nat) =>
    if n1 = 0 then
      gLet (f_X5_isValue p1) (fun (v7 : Int32) =>
        if v7 = 0 then
          (1, 0, r, hq, qz, qn)
        else
          if (r 8) = 0 then
            gLet (f_X0_remember r qz qn hq) (fun (u11 : (Nat → Option gR) × Int32 × Int32) =>
              gLet (f_X3_writeLine r p0 p1) (fun (q18 : Int32 × gR) =>
                (0, q18.1, q18.2, u11.1, u11.2.1, u11.2.2)))
          else
            (2, 0, r, hq, qz, qn))
    else
      (n1, 0, r, hq, qz, qn))) := rfl
theorem hd_X5_write : yX5_write.cls = RX5 ∧ yX5_write.cls ≠ "java/lang/invoke/MethodHandle" ∧ yX5_write.cls ≠ "java/lang/invoke/VarHandle" ∧ (parseMethodDescriptor yX5_write.desc).map (fun d => d.parameters.length) = some 2 := by decide +kernel
set_option maxHeartbeats 4000000 in
set_option maxRecDepth 100000 in
theorem c_X5_write (l : Launch) (hst : l.stackTraces = false) (D : va_G) (y : Nat → ClassId) (a0 a1 a2 a3 a4 a5 a6 a7 a8 a9 a10 a11 a12 a13 : Nat) (ga gb : Nat → Nat × Nat × Nat) (zh : Nat) (tn : Int32) (tf : Nat → Int32) (r : gR) (rc : gR) (qz : Int32) (qn : Int32) (hq : Nat → Option gR) (lq : Nat → Option gR) (lfl : Nat → Int32) (p0 : Int32) (p1 : Int32) (hh : 0 ≤ qn.toInt ∧ qn.toInt < (14 : Nat)) (ho : okC r) : vx_Met l yX5_write wsX5_write ({ frames := 7, cells := 5, slots := 92, locals := 103 }) (xP D y [.ref a0, .int p0, .int p1] zh ((a0, .inr (4, [.ref a1, .ref a2, .ref a3, .ref a4, .ref a5])) :: (a1, .inr (3, [.ref a6, .int tn])) :: (a6, .inl (y 1, 120, .inl tf)) :: (a2, soF a7 a8 r) :: (a7, soV y r) :: (a8, soW y r) :: (a3, soF a9 a10 rc) :: (a9, soV y rc) :: (a10, soW y rc) :: (a4, .inr (0, [.ref a11, .int qz, .int qn])) :: (a11, .inl (y 3, 14, .inr (.inr (.inr (.inr (gRf ga hq)))))) :: (a5, .inr (1, [.ref a12, .ref a13])) :: (a12, .inl (y 3, 2, .inr (.inr (.inr (.inr (gRf gb lq)))))) :: (a13, .inl (y 2, 2, .inl lfl)) :: gTail y ga gb hq lq)) (va_Qi (fun (v : Int32) (u : gR × (Nat → Option gR) × Int32 × Int32) => f_X5_write tn tf r rc qz qn hq lq lfl p0 p1 = (0, v, u)) (fun (u : gR × (Nat → Option gR) × Int32 × Int32) t => ∃ (g1 g2 : Nat → Nat × Nat × Nat), va_P D vwCl ((a0, .inr (4, [.ref a1, .ref a2, .ref a3, .ref a4, .ref a5])) :: (a1, .inr (3, [.ref a6, .int tn])) :: (a6, .inl (y 1, 120, .inl tf)) :: (a2, soF a7 a8 u.1) :: (a7, soV y u.1) :: (a8, soW y u.1) :: (a3, soF a9 a10 rc) :: (a9, soV y rc) :: (a10, soW y rc) :: (a4, .inr (0, [.ref a11, .int u.2.2.1, .int u.2.2.2])) :: (a11, .inl (y 3, 14, .inr (.inr (.inr (.inr (gRf g1 u.2.1)))))) :: (a5, .inr (1, [.ref a12, .ref a13])) :: (a12, .inl (y 3, 2, .inr (.inr (.inr (.inr (gRf g2 lq)))))) :: (a13, .inl (y 2, 2, .inl lfl)) :: gTail y g1 g2 u.2.1 lq) t.heap ∧ va_D (va_A ((a0, .inr (4, [.ref a1, .ref a2, .ref a3, .ref a4, .ref a5])) :: (a1, .inr (3, [.ref a6, .int tn])) :: (a6, .inl (y 1, 120, .inl tf)) :: (a2, soF a7 a8 r) :: (a7, soV y r) :: (a8, soW y r) :: (a3, soF a9 a10 rc) :: (a9, soV y rc) :: (a10, soW y rc) :: (a4, .inr (0, [.ref a11, .int qz, .int qn])) :: (a11, .inl (y 3, 14, .inr (.inr (.inr (.inr (gRf ga hq)))))) :: (a5, .inr (1, [.ref a12, .ref a13])) :: (a12, .inl (y 3, 2, .inr (.inr (.inr (.inr (gRf gb lq)))))) :: (a13, .inl (y 2, 2, .inl lfl)) :: gTail y ga gb hq lq) zh) ((a0, .inr (4, [.ref a1, .ref a2, .ref a3, .ref a4, .ref a5])) :: (a1, .inr (3, [.ref a6, .int tn])) :: (a6, .inl (y 1, 120, .inl tf)) :: (a2, soF a7 a8 u.1) :: (a7, soV y u.1) :: (a8, soW y u.1) :: (a3, soF a9 a10 rc) :: (a9, soV y rc) :: (a10, soW y rc) :: (a4, .inr (0, [.ref a11, .int u.2.2.1, .int u.2.2.2])) :: (a11, .inl (y 3, 14, .inr (.inr (.inr (.inr (gRf g1 u.2.1)))))) :: (a5, .inr (1, [.ref a12, .ref a13])) :: (a12, .inl (y 3, 2, .inr (.inr (.inr (.inr (gRf g2 lq)))))) :: (a13, .inl (y 2, 2, .inl lfl)) :: gTail y g1 g2 u.2.1 lq)) (va_A ((a0, .inr (4, [.ref a1, .ref a2, .ref a3, .ref a4, .ref a5])) :: (a1, .inr (3, [.ref a6, .int tn])) :: (a6, .inl (y 1, 120, .inl tf)) :: (a2, soF a7 a8 r) :: (a7, soV y r) :: (a8, soW y r) :: (a3, soF a9 a10 rc) :: (a9, soV y rc) :: (a10, soW y rc) :: (a4, .inr (0, [.ref a11, .int qz, .int qn])) :: (a11, .inl (y 3, 14, .inr (.inr (.inr (.inr (gRf ga hq)))))) :: (a5, .inr (1, [.ref a12, .ref a13])) :: (a12, .inl (y 3, 2, .inr (.inr (.inr (.inr (gRf gb lq)))))) :: (a13, .inl (y 2, 2, .inl lfl)) :: gTail y ga gb hq lq) zh)) (vx_X (fun _ : gR × (Nat → Option gR) × Int32 × Int32 => True) (fun (E : String) (u : gR × (Nat → Option gR) × Int32 × Int32) t => (f_X5_write tn tf r rc qz qn hq lq lfl p0 p1 = (xc E, 0, u) ∧ xc E ≠ 0) ∧ (∃ (g1 g2 : Nat → Nat × Nat × Nat), va_P D vwCl ((a0, .inr (4, [.ref a1, .ref a2, .ref a3, .ref a4, .ref a5])) :: (a1, .inr (3, [.ref a6, .int tn])) :: (a6, .inl (y 1, 120, .inl tf)) :: (a2, soF a7 a8 u.1) :: (a7, soV y u.1) :: (a8, soW y u.1) :: (a3, soF a9 a10 rc) :: (a9, soV y rc) :: (a10, soW y rc) :: (a4, .inr (0, [.ref a11, .int u.2.2.1, .int u.2.2.2])) :: (a11, .inl (y 3, 14, .inr (.inr (.inr (.inr (gRf g1 u.2.1)))))) :: (a5, .inr (1, [.ref a12, .ref a13])) :: (a12, .inl (y 3, 2, .inr (.inr (.inr (.inr (gRf g2 lq)))))) :: (a13, .inl (y 2, 2, .inl lfl)) :: gTail y g1 g2 u.2.1 lq) t.heap ∧ va_D (va_A ((a0, .inr (4, [.ref a1, .ref a2, .ref a3, .ref a4, .ref a5])) :: (a1, .inr (3, [.ref a6, .int tn])) :: (a6, .inl (y 1, 120, .inl tf)) :: (a2, soF a7 a8 r) :: (a7, soV y r) :: (a8, soW y r) :: (a3, soF a9 a10 rc) :: (a9, soV y rc) :: (a10, soW y rc) :: (a4, .inr (0, [.ref a11, .int qz, .int qn])) :: (a11, .inl (y 3, 14, .inr (.inr (.inr (.inr (gRf ga hq)))))) :: (a5, .inr (1, [.ref a12, .ref a13])) :: (a12, .inl (y 3, 2, .inr (.inr (.inr (.inr (gRf gb lq)))))) :: (a13, .inl (y 2, 2, .inl lfl)) :: gTail y ga gb hq lq) zh) ((a0, .inr (4, [.ref a1, .ref a2, .ref a3, .ref a4, .ref a5])) :: (a1, .inr (3, [.ref a6, .int tn])) :: (a6, .inl (y 1, 120, .inl tf)) :: (a2, soF a7 a8 u.1) :: (a7, soV y u.1) :: (a8, soW y u.1) :: (a3, soF a9 a10 rc) :: (a9, soV y rc) :: (a10, soW y rc) :: (a4, .inr (0, [.ref a11, .int u.2.2.1, .int u.2.2.2])) :: (a11, .inl (y 3, 14, .inr (.inr (.inr (.inr (gRf g1 u.2.1)))))) :: (a5, .inr (1, [.ref a12, .ref a13])) :: (a12, .inl (y 3, 2, .inr (.inr (.inr (.inr (gRf g2 lq)))))) :: (a13, .inl (y 2, 2, .inl lfl)) :: gTail y g1 g2 u.2.1 lq))) (va_A ((a0, .inr (4, [.ref a1, .ref a2, .ref a3, .ref a4, .ref a5])) :: (a1, .inr (3, [.ref a6, .int tn])) :: (a6, .inl (y 1, 120, .inl tf)) :: (a2, soF a7 a8 r) :: (a7, soV y r) :: (a8, soW y r) :: (a3, soF a9 a10 rc) :: (a9, soV y rc) :: (a10, soW y rc) :: (a4, .inr (0, [.ref a11, .int qz, .int qn])) :: (a11, .inl (y 3, 14, .inr (.inr (.inr (.inr (gRf ga hq)))))) :: (a5, .inr (1, [.ref a12, .ref a13])) :: (a12, .inl (y 3, 2, .inr (.inr (.inr (.inr (gRf gb lq)))))) :: (a13, .inl (y 2, 2, .inl lfl)) :: gTail y ga gb hq lq) zh)) 5 92 (va_A ((a0, .inr (4, [.ref a1, .ref a2, .ref a3, .ref a4, .ref a5])) :: (a1, .inr (3, [.ref a6, .int tn])) :: (a6, .inl (y 1, 120, .inl tf)) :: (a2, soF a7 a8 r) :: (a7, soV y r) :: (a8, soW y r) :: (a3, soF a9 a10 rc) :: (a9, soV y rc) :: (a10, soW y rc) :: (a4, .inr (0, [.ref a11, .int qz, .int qn])) :: (a11, .inl (y 3, 14, .inr (.inr (.inr (.inr (gRf ga hq)))))) :: (a5, .inr (1, [.ref a12, .ref a13])) :: (a12, .inl (y 3, 2, .inr (.inr (.inr (.inr (gRf gb lq)))))) :: (a13, .inl (y 2, 2, .inl lfl)) :: gTail y ga gb hq lq) zh) := by
  refine vx_ofW (cc := cX5_write) (maxL := 3) (ret := (some .int)) (by decide) rfl ?_
  intro p e s m args below meth c s₁ B hml htab hv
  obtain ⟨⟨rfl, hsz, hP, hE, hD⟩, hXE, hXZ⟩ := hv
  have hx := B.exec
  have hb := B.bytes
  have hr := B.returns
  have hts := atoms_spec (ws := wsX5_write) B.pre
  have hown : s.vm.findClass RX5 = some m.cls := findClass_of_methodNamed B.named
  have hlocks := B.notSynchronized
  have w_0 := hts (.fieldLink RX5 19 "GapLines" "state" "LGapLines$State;") (List.mem_cons_of_mem _ (List.mem_append_left _ (List.mem_append_left _ (List.mem_append_left _ (List.mem_append_left _ (List.mem_append_left _ (List.mem_append_left _ (List.mem_append_left _ (List.mem_of_getElem? (i := 4) rfl)))))))))
  have hi5 : ∀ w ∈ u_ws RX5 TX5 5, w ∈ wsX5_write := fun w h => (List.mem_cons_of_mem _ (List.mem_append_left _ (List.mem_append_left _ (List.mem_append_left _ (List.mem_append_left _ (List.mem_append_left _ (List.mem_append_right _ h)))))))
  have w_2 := hts (.fieldLink RX5 133 "GapLines$State" "dead" "Z") (List.mem_cons_of_mem _ (List.mem_append_left _ (List.mem_append_left _ (List.mem_append_left _ (List.mem_append_left _ (List.mem_append_left _ (List.mem_append_left _ (List.mem_append_left _ (List.mem_of_getElem? (i := 5) rfl)))))))))
  have hi3 : ∀ w ∈ u_ws RX3 TX3 15, w ∈ wsX5_write := fun w h => (List.mem_cons_of_mem _ (List.mem_append_left _ (List.mem_append_left _ (List.mem_append_left _ (List.mem_append_left _ (List.mem_append_right _ h))))))
  have w_4 := hts (.fieldLink RX5 29 "GapLines" "history" "LGapLines$History;") (List.mem_cons_of_mem _ (List.mem_append_left _ (List.mem_append_left _ (List.mem_append_left _ (List.mem_append_left _ (List.mem_append_left _ (List.mem_append_left _ (List.mem_append_left _ (List.mem_of_getElem? (i := 6) rfl)))))))))
  have w_5 := hts (.classLink RX5 51 "java/lang/IllegalStateException") (List.mem_cons_of_mem _ (List.mem_append_left _ (List.mem_append_left _ (List.mem_append_left _ (List.mem_append_left _ (List.mem_append_left _ (List.mem_append_left _ (List.mem_append_left _ (List.mem_of_getElem? (i := 2) rfl)))))))))
  have w_6 := hts (.initialized "java/lang/IllegalStateException") (List.mem_cons_of_mem _ (List.mem_append_left _ (List.mem_append_left _ (List.mem_append_left _ (List.mem_append_left _ (List.mem_append_left _ (List.mem_append_left _ (List.mem_append_left _ (List.mem_of_getElem? (i := 3) rfl)))))))))
  have w_7 := hts (.classLink RX5 40 "java/lang/IllegalArgumentException") (List.mem_cons_of_mem _ (List.mem_append_left _ (List.mem_append_left _ (List.mem_append_left _ (List.mem_append_left _ (List.mem_append_left _ (List.mem_append_left _ (List.mem_append_left _ (List.mem_of_getElem? (i := 0) rfl)))))))))
  have w_8 := hts (.initialized "java/lang/IllegalArgumentException") (List.mem_cons_of_mem _ (List.mem_append_left _ (List.mem_append_left _ (List.mem_append_left _ (List.mem_append_left _ (List.mem_append_left _ (List.mem_append_left _ (List.mem_append_left _ (List.mem_of_getElem? (i := 1) rfl)))))))))
  subst hsz
  have hD := hD.self (sz := s.heap.size)
  generalize hAe : va_A ((a0, .inr (4, [.ref a1, .ref a2, .ref a3, .ref a4, .ref a5])) :: (a1, .inr (3, [.ref a6, .int tn])) :: (a6, .inl (y 1, 120, .inl tf)) :: (a2, soF a7 a8 r) :: (a7, soV y r) :: (a8, soW y r) :: (a3, soF a9 a10 rc) :: (a9, soV y rc) :: (a10, soW y rc) :: (a4, .inr (0, [.ref a11, .int qz, .int qn])) :: (a11, .inl (y 3, 14, .inr (.inr (.inr (.inr (gRf ga hq)))))) :: (a5, .inr (1, [.ref a12, .ref a13])) :: (a12, .inl (y 3, 2, .inr (.inr (.inr (.inr (gRf gb lq)))))) :: (a13, .inl (y 2, 2, .inl lfl)) :: gTail y ga gb hq lq) s.heap.size = A at hD hXZ ⊢
  have hA : ∀ q : Nat, s.heap.size ≤ q → A q := fun q h => by rw [← hAe]; exact Or.inr h
  have hS : va_S A s.heap s.heap [] := va_S.rf
  have hl := lv_entry ([.ref a0, .int p0, .int p1]) (n := 3) (Nat.le_of_ble_eq_true rfl)
  rw [lg_entry_eq]
  generalize (lg_sl ([.ref a0, .int p0, .int p1]) ++ List.replicate (3 - (lg_sl ([.ref a0, .int p0, .int p1])).length) Slot.unset).toArray = ls at hl ⊢
  have hl : lv_has ls 3 [(0, .ref a0), (1, .int p0), (2, .int p1)] := hl
  have hF := f_X5_write_s tn tf r rc qz qn hq lq lfl p0 p1
  obtain ⟨T, hT⟩ : ∃ T : va_W, gTail y ga gb hq lq = T := ⟨_, rfl⟩
  rw [hT] at hP hD
  refine lv_aload_n hx hb dX5_write_0 rfl (lv_at hl 0 rfl) ?_
  refine lv_iload_n hx hb dX5_write_1 rfl (lv_at hl 1 rfl) ?_
  refine xq_call (vx_runV (As := [.int p0]) (rest := []) ⟨hx, hb, hml, hown, hts⟩ (c_X5_requireLine l hst D y a0 a1 a2 a3 a4 a5 a7 a8 s.heap.size r p0) (cwV 1 hts gX5_write_X5_requireLine rfl rfl rfl hd_X5_requireLine ⟨Nat.le_of_ble_eq_true rfl, Nat.le_of_ble_eq_true rfl⟩) (xV (q := (RX5, TX5, 5)) hE hXE hXZ hS hA (hP.sub [0, 3, 4, 5] rfl) (hD.sub [0, 3, 4, 5] (by decide) rfl) 0 rfl rfl) rfl rfl hl.1 rfl (lv_room (Nat.le_of_ble_eq_true rfl)) dX5_write_2 ⟨Nat.le_of_ble_eq_true rfl, Nat.le_of_ble_eq_true rfl⟩) hP hD hS hA [0, 3, 4, 5] rfl (by decide) (fun E3 ce4 q5 H locs h2 h2z hP hD hS h2a h2b h2c => ?_) (fun H locs h2 hP hD hS => ?_)
  · have hP : va_P D vwCl ((a0, .inr (4, [.ref a1, .ref a2, .ref a3, .ref a4, .ref a5])) :: (a1, .inr (3, [.ref a6, .int tn])) :: (a6, .inl (y 1, 120, .inl tf)) :: (a2, soF a7 a8 r) :: (a7, soV y r) :: (a8, soW y r) :: (a3, soF a9 a10 rc) :: (a9, soV y rc) :: (a10, soW y rc) :: (a4, .inr (0, [.ref a11, .int qz, .int qn])) :: (a11, .inl (y 3, 14, .inr (.inr (.inr (.inr (gRf ga hq)))))) :: (a5, .inr (1, [.ref a12, .ref a13])) :: (a12, .inl (y 3, 2, .inr (.inr (.inr (.inr (gRf gb lq)))))) :: (a13, .inl (y 2, 2, .inl lfl)) :: T) H := hP
    have hD : va_D A ((a0, .inr (4, [.ref a1, .ref a2, .ref a3, .ref a4, .ref a5])) :: (a1, .inr (3, [.ref a6, .int tn])) :: (a6, .inl (y 1, 120, .inl tf)) :: (a2, soF a7 a8 r) :: (a7, soV y r) :: (a8, soW y r) :: (a3, soF a9 a10 rc) :: (a9, soV y rc) :: (a10, soW y rc) :: (a4, .inr (0, [.ref a11, .int qz, .int qn])) :: (a11, .inl (y 3, 14, .inr (.inr (.inr (.inr (gRf ga hq)))))) :: (a5, .inr (1, [.ref a12, .ref a13])) :: (a12, .inl (y 3, 2, .inr (.inr (.inr (.inr (gRf gb lq)))))) :: (a13, .inl (y 2, 2, .inl lfl)) :: T) := hD
    have hF := hF.trans ((gLet_e h2).trans (if_neg h2z))
    rw [← hT] at hP hD
    refine vx_out (fun x hx => (htab x hx).elim) hlocks h2a h2b h2c (fun t ht hvm => ⟨⟨r, hq, qz, qn⟩, trivial, ⟨⟨hF, h2z⟩, ⟨ga, gb, by rw [ht]; exact hP, hD⟩⟩, hS.F ht⟩) hS.2.2 (Nat.le_of_ble_eq_true rfl) (Nat.le_of_ble_eq_true rfl)
  have hP : va_P D vwCl ((a0, .inr (4, [.ref a1, .ref a2, .ref a3, .ref a4, .ref a5])) :: (a1, .inr (3, [.ref a6, .int tn])) :: (a6, .inl (y 1, 120, .inl tf)) :: (a2, soF a7 a8 r) :: (a7, soV y r) :: (a8, soW y r) :: (a3, soF a9 a10 rc) :: (a9, soV y rc) :: (a10, soW y rc) :: (a4, .inr (0, [.ref a11, .int qz, .int qn])) :: (a11, .inl (y 3, 14, .inr (.inr (.inr (.inr (gRf ga hq)))))) :: (a5, .inr (1, [.ref a12, .ref a13])) :: (a12, .inl (y 3, 2, .inr (.inr (.inr (.inr (gRf gb lq)))))) :: (a13, .inl (y 2, 2, .inl lfl)) :: T) H := hP
  have hD : va_D A ((a0, .inr (4, [.ref a1, .ref a2, .ref a3, .ref a4, .ref a5])) :: (a1, .inr (3, [.ref a6, .int tn])) :: (a6, .inl (y 1, 120, .inl tf)) :: (a2, soF a7 a8 r) :: (a7, soV y r) :: (a8, soW y r) :: (a3, soF a9 a10 rc) :: (a9, soV y rc) :: (a10, soW y rc) :: (a4, .inr (0, [.ref a11, .int qz, .int qn])) :: (a11, .inl (y 3, 14, .inr (.inr (.inr (.inr (gRf ga hq)))))) :: (a5, .inr (1, [.ref a12, .ref a13])) :: (a12, .inl (y 3, 2, .inr (.inr (.inr (.inr (gRf gb lq)))))) :: (a13, .inl (y 2, 2, .inl lfl)) :: T) := hD
  have hF := hF.trans ((gLet_e h2).trans (if_pos rfl))
  refine lv_iload_n hx hb dX5_write_5 rfl (lv_at hl 2 rfl) ?_
  refine xs_calli (va_runS (As := [.int p1]) (rest := []) ⟨hx, hb, hml, hown, hts⟩ (c_X5_isValue l D y H.size p1) (va_cwS 1 hts gX5_write_X5_isValue rfl rfl rfl hd_X5_isValue ⟨Nat.le_of_ble_eq_true rfl, Nat.le_of_ble_eq_true rfl⟩) (gS hE (hP.sub [] rfl) (hD.sub [] (by decide) rfl)) rfl rfl hl.1 rfl (lv_room (Nat.le_of_ble_eq_true rfl)) dX5_write_6 ⟨Nat.le_of_ble_eq_true rfl, Nat.le_of_ble_eq_true rfl⟩) (fun v7 h6 => ?_)
  have hF := hF.trans (gLet_e h6)
  refine lv_if_ne (tgt := 22) hx hb dX5_write_9 (by decide) (fun c_8 => ?_) (fun c_8 => ?_)
  · have hF := hF.trans (if_neg c_8)
    refine lv_aload_n hx hb dX5_write_22 rfl (lv_at hl 0 rfl) ?_
    refine va_get (D := D) (ci := 4) (v := .ref a2) (C := RX5) (T := TX5) (N := 5) hx hb hts hi5 hown hE.1 hP 0 rfl rfl 1 (by decide) w_0 (fun _ h9 => h9) rfl dX5_write_23 ?_
    refine va_get (D := D) (ci := 2) (v := .int (r 8)) (C := RX3) (T := TX3) (N := 15) hx hb hts hi3 hown hE.1 hP 3 rfl rfl 10 (by decide) w_2 (fun _ h9 => h9) rfl dX5_write_26 ?_
    refine lv_if_eq (tgt := 42) hx hb dX5_write_29 (by decide) (fun c_9 => ?_) (fun c_9 => ?_)
    · have hF := hF.trans (if_pos c_9)
      refine lv_aload_n hx hb dX5_write_42 rfl (lv_at hl 0 rfl) ?_
      refine va_get (D := D) (ci := 4) (v := .ref a4) (C := RX5) (T := TX5) (N := 5) hx hb hts hi5 hown hE.1 hP 0 rfl rfl 3 (by decide) w_4 (fun _ h9 => h9) rfl dX5_write_43 ?_
      refine lv_aload_n hx hb dX5_write_46 rfl (lv_at hl 0 rfl) ?_
      refine va_get (D := D) (ci := 4) (v := .ref a2) (C := RX5) (T := TX5) (N := 5) hx hb hts hi5 hown hE.1 hP 0 rfl rfl 1 (by decide) w_0 (fun _ h9 => h9) rfl dX5_write_47 ?_
      rw [← hT] at hP hD
      refine xw_callEv (va_runV (As := [.ref a2]) (rest := []) ⟨hx, hb, hml, hown, hts⟩ (c_X0_remember l D y a0 a1 a2 a3 a4 a5 a6 a7 a8 a9 a10 a11 a12 a13 ga gb H.size tn tf r rc qz qn hq lq lfl hh ho) (cwV 1 hts gX5_write_X0_remember rfl rfl rfl hd_X0_remember ⟨Nat.le_of_ble_eq_true rfl, Nat.le_of_ble_eq_true rfl⟩) (gV (q := (RX0, TX0, 3)) hE hP hD 9 rfl rfl) rfl rfl hl.1 rfl (lv_room (Nat.le_of_ble_eq_true rfl)) dX5_write_50 ⟨Nat.le_of_ble_eq_true rfl, Nat.le_of_ble_eq_true rfl⟩) hD hS hA (fun u11 ga12 gb13 H locs h10 hP hD hS => ?_)
      have hF := hF.trans (gLet_e h10)
      have hP : va_P D vwCl ((a0, .inr (4, [.ref a1, .ref a2, .ref a3, .ref a4, .ref a5])) :: (a1, .inr (3, [.ref a6, .int tn])) :: (a6, .inl (y 1, 120, .inl tf)) :: (a2, soF a7 a8 r) :: (a7, soV y r) :: (a8, soW y r) :: (a3, soF a9 a10 rc) :: (a9, soV y rc) :: (a10, soW y rc) :: (a4, .inr (0, [.ref a11, .int u11.2.1, .int u11.2.2])) :: (a11, .inl (y 3, 14, .inr (.inr (.inr (.inr (gRf ga12 u11.1)))))) :: (a5, .inr (1, [.ref a12, .ref a13])) :: (a12, .inl (y 3, 2, .inr (.inr (.inr (.inr (gRf gb13 lq)))))) :: (a13, .inl (y 2, 2, .inl lfl)) :: gTail y ga12 gb13 u11.1 lq) H := hP
      have hD : va_D A ((a0, .inr (4, [.ref a1, .ref a2, .ref a3, .ref a4, .ref a5])) :: (a1, .inr (3, [.ref a6, .int tn])) :: (a6, .inl (y 1, 120, .inl tf)) :: (a2, soF a7 a8 r) :: (a7, soV y r) :: (a8, soW y r) :: (a3, soF a9 a10 rc) :: (a9, soV y rc) :: (a10, soW y rc) :: (a4, .inr (0, [.ref a11, .int u11.2.1, .int u11.2.2])) :: (a11, .inl (y 3, 14, .inr (.inr (.inr (.inr (gRf ga12 u11.1)))))) :: (a5, .inr (1, [.ref a12, .ref a13])) :: (a12, .inl (y 3, 2, .inr (.inr (.inr (.inr (gRf gb13 lq)))))) :: (a13, .inl (y 2, 2, .inl lfl)) :: gTail y ga12 gb13 u11.1 lq) := hD
      obtain ⟨T14, hT14⟩ : ∃ T : va_W, gTail y ga12 gb13 u11.1 lq = T := ⟨_, rfl⟩
      rw [hT14] at hP hD
      refine lv_aload_n hx hb dX5_write_53 rfl (lv_at hl 0 rfl) ?_
      refine va_get (D := D) (ci := 4) (v := .ref a2) (C := RX5) (T := TX5) (N := 5) hx hb hts hi5 hown hE.1 hP 0 rfl rfl 1 (by decide) w_0 (fun _ h9 => h9) rfl dX5_write_54 ?_
      refine lv_iload_n hx hb dX5_write_57 rfl (lv_at hl 1 rfl) ?_
      refine lv_iload_n hx hb dX5_write_58 rfl (lv_at hl 2 rfl) ?_
      refine xw_calli (va_runV (As := [.int p0, .int p1]) (rest := []) ⟨hx, hb, hml, hown, hts⟩ (c_X3_writeLine l D y a2 a7 a8 H.size r p0 p1 ho) (cwV 2 hts gX5_write_X3_writeLine rfl rfl rfl hd_X3_writeLine ⟨Nat.le_of_ble_eq_true rfl, Nat.le_of_ble_eq_true rfl⟩) (gV (q := (RX3, TX3, 15)) hE (hP.sub [3, 4, 5] rfl) (hD.sub [3, 4, 5] (by decide) rfl) 0 rfl rfl) rfl rfl hl.1 rfl (lv_room (Nat.le_of_ble_eq_true rfl)) dX5_write_59 ⟨Nat.le_of_ble_eq_true rfl, Nat.le_of_ble_eq_true rfl⟩) hP hD hS hA [3, 4, 5] rfl (by decide) (fun _ => rfl) (fun v17 u16 H locs h15 hP hD hS => ?_)
      obtain ⟨q18, eq18⟩ : ∃ z : Int32 × gR, f_X3_writeLine r p0 p1 = z := ⟨_, rfl⟩
      obtain ⟨rfl, rfl⟩ : q18.1 = v17 ∧ q18.2 = u16 := ⟨by rw [← eq18, h15], by rw [← eq18, h15]⟩
      have hF := hF.trans (gLet_e eq18)
      have hP : va_P D vwCl ((a0, .inr (4, [.ref a1, .ref a2, .ref a3, .ref a4, .ref a5])) :: (a1, .inr (3, [.ref a6, .int tn])) :: (a6, .inl (y 1, 120, .inl tf)) :: (a2, soF a7 a8 q18.2) :: (a7, soV y q18.2) :: (a8, soW y q18.2) :: (a3, soF a9 a10 rc) :: (a9, soV y rc) :: (a10, soW y rc) :: (a4, .inr (0, [.ref a11, .int u11.2.1, .int u11.2.2])) :: (a11, .inl (y 3, 14, .inr (.inr (.inr (.inr (gRf ga12 u11.1)))))) :: (a5, .inr (1, [.ref a12, .ref a13])) :: (a12, .inl (y 3, 2, .inr (.inr (.inr (.inr (gRf gb13 lq)))))) :: (a13, .inl (y 2, 2, .inl lfl)) :: T14) H := hP
      have hD : va_D A ((a0, .inr (4, [.ref a1, .ref a2, .ref a3, .ref a4, .ref a5])) :: (a1, .inr (3, [.ref a6, .int tn])) :: (a6, .inl (y 1, 120, .inl tf)) :: (a2, soF a7 a8 q18.2) :: (a7, soV y q18.2) :: (a8, soW y q18.2) :: (a3, soF a9 a10 rc) :: (a9, soV y rc) :: (a10, soW y rc) :: (a4, .inr (0, [.ref a11, .int u11.2.1, .int u11.2.2])) :: (a11, .inl (y 3, 14, .inr (.inr (.inr (.inr (gRf ga12 u11.1)))))) :: (a5, .inr (1, [.ref a12, .ref a13])) :: (a12, .inl (y 3, 2, .inr (.inr (.inr (.inr (gRf gb13 lq)))))) :: (a13, .inl (y 2, 2, .inl lfl)) :: T14) := hD
      refine W.widen (k := 5) (n := 92) (Nat.le_of_ble_eq_true rfl) (Nat.le_of_ble_eq_true rfl) ?_
      refine vx_ret ?_
      rw [← hT14] at hP hD
      exact W.iret (v := q18.1) hx hb hr (fun t ht hW => ⟨⟨q18.1, ⟨q18.2, u11.1, u11.2.1, u11.2.2⟩, rfl, hF, ⟨ga12, gb13, by rw [ht]; exact hP, hD⟩⟩, hS.F ht⟩) hS.2.2 dX5_write_62
    · have hF := hF.trans (if_neg c_9)
      obtain ⟨sa19, hsa19⟩ := hXE.2 _ (List.mem_of_getElem? (i := 7) rfl)
      rw [← hT] at hP hD
      exact vx_throwS (names := xN) hx hb hst hown (by decide +kernel) (by decide +kernel) w_5 w_6 hsa19 (vx_hat (fun w hw => hts w (List.mem_cons_of_mem _ (List.mem_append_left _ (List.mem_append_right _ hw)))) x_bad55 (xE_bad hXE hXE.1.1.2.1)) x_good55 hXZ.1 hXZ.2 hS (hml.trans hl.1.symm).symm dX5_write_32 dX5_write_35 dX5_write_36 dX5_write_38 dX5_write_41 (fun x hx => (htab x hx).elim) (Nat.le_of_ble_eq_true rfl) (Nat.le_of_ble_eq_true rfl) (Nat.le_of_ble_eq_true rfl) (Nat.le_of_ble_eq_true rfl) hlocks (fun t hvm hz hk => ⟨⟨r, hq, qz, qn⟩, trivial, ⟨⟨by rw [xc_IS]; exact hF, by rw [xc_IS]; decide⟩, ⟨ga, gb, x_grow hP hk, hD⟩⟩, x_F hS hz hk⟩) hS.2.2 (Nat.le_of_ble_eq_true rfl) (Nat.le_of_ble_eq_true rfl)
  · have hF := hF.trans (if_pos c_8)
    obtain ⟨sa20, hsa20⟩ := hXE.2 _ (List.mem_of_getElem? (i := 6) rfl)
    rw [← hT] at hP hD
    exact vx_throwS (names := xN) hx hb hst hown (by decide +kernel) (by decide +kernel) w_7 w_8 hsa20 (vx_hat (fun w hw => hts w (List.mem_cons_of_mem _ (List.mem_append_left _ (List.mem_append_left _ (List.mem_append_right _ hw))))) x_bad44 (xE_bad hXE hXE.1.1.1)) x_good44 hXZ.1 hXZ.2 hS (hml.trans hl.1.symm).symm dX5_write_12 dX5_write_15 dX5_write_16 dX5_write_18 dX5_write_21 (fun x hx => (htab x hx).elim) (Nat.le_of_ble_eq_true rfl) (Nat.le_of_ble_eq_true rfl) (Nat.le_of_ble_eq_true rfl) (Nat.le_of_ble_eq_true rfl) hlocks (fun t hvm hz hk => ⟨⟨r, hq, qz, qn⟩, trivial, ⟨⟨by rw [xc_IA]; exact hF, by rw [xc_IA]; decide⟩, ⟨ga, gb, x_grow hP hk, hD⟩⟩, x_F hS hz hk⟩) hS.2.2 (Nat.le_of_ble_eq_true rfl) (Nat.le_of_ble_eq_true rfl)

def f_X5_hammer (tn : Int32) (tf : Nat → Int32) (r : gR) (rc : gR) (qz : Int32) (qn : Int32) (hq : Nat → Option gR) (lq : Nat → Option gR) (lfl : Nat → Int32) (p0 : Int32) (p1 : Int32) : Nat × Int32 × gR × (Nat → Option gR) × Int32 × Int32 :=
    gLet (f_X5_requireLine r p0) (fun (n1 : Nat) =>
    if n1 = 0 then
      gLet (f_X5_requireHammered p1) (fun (n6 : Nat) =>
        if n6 = 0 then
          gLet (f_X0_remember r qz qn hq) (fun (u12 : (Nat → Option gR) × Int32 × Int32) =>
            gLet (f_X3_hammerLine r p0 p1) (fun (q19 : Int32 × gR) =>
              (0, q19.1, q19.2, u12.1, u12.2.1, u12.2.2)))
        else
          (n6, 0, r, hq, qz, qn))
    else
      (n1, 0, r, hq, qz, qn))
theorem f_X5_hammer_s (tn : Int32) (tf : Nat → Int32) (r : gR) (rc : gR) (qz : Int32) (qn : Int32) (hq : Nat → Option gR) (lq : Nat → Option gR) (lfl : Nat → Int32) (p0 : Int32) (p1 : Int32) : f_X5_hammer tn tf r rc qz qn hq lq lfl p0 p1 =
    (gLet (f_X5_requireLine r p0) (fun (n1 : Nat) =>
    if n1 = 0 then
      gLet (f_X5_requireHammered p1) (fun (n6 : Nat) =>
        if n6 = 0 then
          gLet (f_X0_remember r qz qn hq) (fun (u12 : (Nat → Option gR) × Int32 × Int32) =>
            gLet (f_X3_hammerLine r p0 p1) (fun (q19 : Int32 × gR) =>
              (0, q19.1, q19.2, u12.1, u12.2.1, u12.2.2)))
        else
          (n6, 0, r, hq, qz, qn))
    else
      (n1, 0, r, hq, qz, qn))) := rfl
theorem hd_X5_hammer : yX5_hammer.cls = RX5 ∧ yX5_hammer.cls ≠ "java/lang/invoke/MethodHandle" ∧ yX5_hammer.cls ≠ "java/lang/invoke/VarHandle" ∧ (parseMethodDescriptor yX5_hammer.desc).map (fun d => d.parameters.length) = some 2 := by decide +kernel
set_option maxHeartbeats 4000000 in
set_option maxRecDepth 100000 in
theorem c_X5_hammer (l : Launch) (hst : l.stackTraces = false) (D : va_G) (y : Nat → ClassId) (a0 a1 a2 a3 a4 a5 a6 a7 a8 a9 a10 a11 a12 a13 : Nat) (ga gb : Nat → Nat × Nat × Nat) (zh : Nat) (tn : Int32) (tf : Nat → Int32) (r : gR) (rc : gR) (qz : Int32) (qn : Int32) (hq : Nat → Option gR) (lq : Nat → Option gR) (lfl : Nat → Int32) (p0 : Int32) (p1 : Int32) (hh : 0 ≤ qn.toInt ∧ qn.toInt < (14 : Nat)) (ho : okC r) : vx_Met l yX5_hammer wsX5_hammer ({ frames := 7, cells := 5, slots := 92, locals := 103 }) (xP D y [.ref a0, .int p0, .int p1] zh ((a0, .inr (4, [.ref a1, .ref a2, .ref a3, .ref a4, .ref a5])) :: (a1, .inr (3, [.ref a6, .int tn])) :: (a6, .inl (y 1, 120, .inl tf)) :: (a2, soF a7 a8 r) :: (a7, soV y r) :: (a8, soW y r) :: (a3, soF a9 a10 rc) :: (a9, soV y rc) :: (a10, soW y rc) :: (a4, .inr (0, [.ref a11, .int qz, .int qn])) :: (a11, .inl (y 3, 14, .inr (.inr (.inr (.inr (gRf ga hq)))))) :: (a5, .inr (1, [.ref a12, .ref a13])) :: (a12, .inl (y 3, 2, .inr (.inr (.inr (.inr (gRf gb lq)))))) :: (a13, .inl (y 2, 2, .inl lfl)) :: gTail y ga gb hq lq)) (va_Qi (fun (v : Int32) (u : gR × (Nat → Option gR) × Int32 × Int32) => f_X5_hammer tn tf r rc qz qn hq lq lfl p0 p1 = (0, v, u)) (fun (u : gR × (Nat → Option gR) × Int32 × Int32) t => ∃ (g1 g2 : Nat → Nat × Nat × Nat), va_P D vwCl ((a0, .inr (4, [.ref a1, .ref a2, .ref a3, .ref a4, .ref a5])) :: (a1, .inr (3, [.ref a6, .int tn])) :: (a6, .inl (y 1, 120, .inl tf)) :: (a2, soF a7 a8 u.1) :: (a7, soV y u.1) :: (a8, soW y u.1) :: (a3, soF a9 a10 rc) :: (a9, soV y rc) :: (a10, soW y rc) :: (a4, .inr (0, [.ref a11, .int u.2.2.1, .int u.2.2.2])) :: (a11, .inl (y 3, 14, .inr (.inr (.inr (.inr (gRf g1 u.2.1)))))) :: (a5, .inr (1, [.ref a12, .ref a13])) :: (a12, .inl (y 3, 2, .inr (.inr (.inr (.inr (gRf g2 lq)))))) :: (a13, .inl (y 2, 2, .inl lfl)) :: gTail y g1 g2 u.2.1 lq) t.heap ∧ va_D (va_A ((a0, .inr (4, [.ref a1, .ref a2, .ref a3, .ref a4, .ref a5])) :: (a1, .inr (3, [.ref a6, .int tn])) :: (a6, .inl (y 1, 120, .inl tf)) :: (a2, soF a7 a8 r) :: (a7, soV y r) :: (a8, soW y r) :: (a3, soF a9 a10 rc) :: (a9, soV y rc) :: (a10, soW y rc) :: (a4, .inr (0, [.ref a11, .int qz, .int qn])) :: (a11, .inl (y 3, 14, .inr (.inr (.inr (.inr (gRf ga hq)))))) :: (a5, .inr (1, [.ref a12, .ref a13])) :: (a12, .inl (y 3, 2, .inr (.inr (.inr (.inr (gRf gb lq)))))) :: (a13, .inl (y 2, 2, .inl lfl)) :: gTail y ga gb hq lq) zh) ((a0, .inr (4, [.ref a1, .ref a2, .ref a3, .ref a4, .ref a5])) :: (a1, .inr (3, [.ref a6, .int tn])) :: (a6, .inl (y 1, 120, .inl tf)) :: (a2, soF a7 a8 u.1) :: (a7, soV y u.1) :: (a8, soW y u.1) :: (a3, soF a9 a10 rc) :: (a9, soV y rc) :: (a10, soW y rc) :: (a4, .inr (0, [.ref a11, .int u.2.2.1, .int u.2.2.2])) :: (a11, .inl (y 3, 14, .inr (.inr (.inr (.inr (gRf g1 u.2.1)))))) :: (a5, .inr (1, [.ref a12, .ref a13])) :: (a12, .inl (y 3, 2, .inr (.inr (.inr (.inr (gRf g2 lq)))))) :: (a13, .inl (y 2, 2, .inl lfl)) :: gTail y g1 g2 u.2.1 lq)) (va_A ((a0, .inr (4, [.ref a1, .ref a2, .ref a3, .ref a4, .ref a5])) :: (a1, .inr (3, [.ref a6, .int tn])) :: (a6, .inl (y 1, 120, .inl tf)) :: (a2, soF a7 a8 r) :: (a7, soV y r) :: (a8, soW y r) :: (a3, soF a9 a10 rc) :: (a9, soV y rc) :: (a10, soW y rc) :: (a4, .inr (0, [.ref a11, .int qz, .int qn])) :: (a11, .inl (y 3, 14, .inr (.inr (.inr (.inr (gRf ga hq)))))) :: (a5, .inr (1, [.ref a12, .ref a13])) :: (a12, .inl (y 3, 2, .inr (.inr (.inr (.inr (gRf gb lq)))))) :: (a13, .inl (y 2, 2, .inl lfl)) :: gTail y ga gb hq lq) zh)) (vx_X (fun _ : gR × (Nat → Option gR) × Int32 × Int32 => True) (fun (E : String) (u : gR × (Nat → Option gR) × Int32 × Int32) t => (f_X5_hammer tn tf r rc qz qn hq lq lfl p0 p1 = (xc E, 0, u) ∧ xc E ≠ 0) ∧ (∃ (g1 g2 : Nat → Nat × Nat × Nat), va_P D vwCl ((a0, .inr (4, [.ref a1, .ref a2, .ref a3, .ref a4, .ref a5])) :: (a1, .inr (3, [.ref a6, .int tn])) :: (a6, .inl (y 1, 120, .inl tf)) :: (a2, soF a7 a8 u.1) :: (a7, soV y u.1) :: (a8, soW y u.1) :: (a3, soF a9 a10 rc) :: (a9, soV y rc) :: (a10, soW y rc) :: (a4, .inr (0, [.ref a11, .int u.2.2.1, .int u.2.2.2])) :: (a11, .inl (y 3, 14, .inr (.inr (.inr (.inr (gRf g1 u.2.1)))))) :: (a5, .inr (1, [.ref a12, .ref a13])) :: (a12, .inl (y 3, 2, .inr (.inr (.inr (.inr (gRf g2 lq)))))) :: (a13, .inl (y 2, 2, .inl lfl)) :: gTail y g1 g2 u.2.1 lq) t.heap ∧ va_D (va_A ((a0, .inr (4, [.ref a1, .ref a2, .ref a3, .ref a4, .ref a5])) :: (a1, .inr (3, [.ref a6, .int tn])) :: (a6, .inl (y 1, 120, .inl tf)) :: (a2, soF a7 a8 r) :: (a7, soV y r) :: (a8, soW y r) :: (a3, soF a9 a10 rc) :: (a9, soV y rc) :: (a10, soW y rc) :: (a4, .inr (0, [.ref a11, .int qz, .int qn])) :: (a11, .inl (y 3, 14, .inr (.inr (.inr (.inr (gRf ga hq)))))) :: (a5, .inr (1, [.ref a12, .ref a13])) :: (a12, .inl (y 3, 2, .inr (.inr (.inr (.inr (gRf gb lq)))))) :: (a13, .inl (y 2, 2, .inl lfl)) :: gTail y ga gb hq lq) zh) ((a0, .inr (4, [.ref a1, .ref a2, .ref a3, .ref a4, .ref a5])) :: (a1, .inr (3, [.ref a6, .int tn])) :: (a6, .inl (y 1, 120, .inl tf)) :: (a2, soF a7 a8 u.1) :: (a7, soV y u.1) :: (a8, soW y u.1) :: (a3, soF a9 a10 rc) :: (a9, soV y rc) :: (a10, soW y rc) :: (a4, .inr (0, [.ref a11, .int u.2.2.1, .int u.2.2.2])) :: (a11, .inl (y 3, 14, .inr (.inr (.inr (.inr (gRf g1 u.2.1)))))) :: (a5, .inr (1, [.ref a12, .ref a13])) :: (a12, .inl (y 3, 2, .inr (.inr (.inr (.inr (gRf g2 lq)))))) :: (a13, .inl (y 2, 2, .inl lfl)) :: gTail y g1 g2 u.2.1 lq))) (va_A ((a0, .inr (4, [.ref a1, .ref a2, .ref a3, .ref a4, .ref a5])) :: (a1, .inr (3, [.ref a6, .int tn])) :: (a6, .inl (y 1, 120, .inl tf)) :: (a2, soF a7 a8 r) :: (a7, soV y r) :: (a8, soW y r) :: (a3, soF a9 a10 rc) :: (a9, soV y rc) :: (a10, soW y rc) :: (a4, .inr (0, [.ref a11, .int qz, .int qn])) :: (a11, .inl (y 3, 14, .inr (.inr (.inr (.inr (gRf ga hq)))))) :: (a5, .inr (1, [.ref a12, .ref a13])) :: (a12, .inl (y 3, 2, .inr (.inr (.inr (.inr (gRf gb lq)))))) :: (a13, .inl (y 2, 2, .inl lfl)) :: gTail y ga gb hq lq) zh)) 5 92 (va_A ((a0, .inr (4, [.ref a1, .ref a2, .ref a3, .ref a4, .ref a5])) :: (a1, .inr (3, [.ref a6, .int tn])) :: (a6, .inl (y 1, 120, .inl tf)) :: (a2, soF a7 a8 r) :: (a7, soV y r) :: (a8, soW y r) :: (a3, soF a9 a10 rc) :: (a9, soV y rc) :: (a10, soW y rc) :: (a4, .inr (0, [.ref a11, .int qz, .int qn])) :: (a11, .inl (y 3, 14, .inr (.inr (.inr (.inr (gRf ga hq)))))) :: (a5, .inr (1, [.ref a12, .ref a13])) :: (a12, .inl (y 3, 2, .inr (.inr (.inr (.inr (gRf gb lq)))))) :: (a13, .inl (y 2, 2, .inl lfl)) :: gTail y ga gb hq lq) zh) := by
  refine vx_ofW (cc := cX5_hammer) (maxL := 3) (ret := (some .int)) (by decide) rfl ?_
  intro p e s m args below meth c s₁ B hml htab hv
  obtain ⟨⟨rfl, hsz, hP, hE, hD⟩, hXE, hXZ⟩ := hv
  have hx := B.exec
  have hb := B.bytes
  have hr := B.returns
  have hts := atoms_spec (ws := wsX5_hammer) B.pre
  have hown : s.vm.findClass RX5 = some m.cls := findClass_of_methodNamed B.named
  have hlocks := B.notSynchronized
  have w_0 := hts (.fieldLink RX5 29 "GapLines" "history" "LGapLines$History;") (List.mem_cons_of_mem _ (List.mem_append_left _ (List.mem_append_left _ (List.mem_append_left _ (List.mem_append_left _ (List.mem_append_left _ (List.mem_append_left _ (List.mem_of_getElem? (i := 0) rfl))))))))
  have hi5 : ∀ w ∈ u_ws RX5 TX5 5, w ∈ wsX5_hammer := fun w h => (List.mem_cons_of_mem _ (List.mem_append_left _ (List.mem_append_left _ (List.mem_append_left _ (List.mem_append_left _ (List.mem_append_right _ h))))))
  have w_2 := hts (.fieldLink RX5 19 "GapLines" "state" "LGapLines$State;") (List.mem_cons_of_mem _ (List.mem_append_left _ (List.mem_append_left _ (List.mem_append_left _ (List.mem_append_left _ (List.mem_append_left _ (List.mem_append_left _ (List.mem_of_getElem? (i := 1) rfl))))))))
  subst hsz
  have hD := hD.self (sz := s.heap.size)
  generalize hAe : va_A ((a0, .inr (4, [.ref a1, .ref a2, .ref a3, .ref a4, .ref a5])) :: (a1, .inr (3, [.ref a6, .int tn])) :: (a6, .inl (y 1, 120, .inl tf)) :: (a2, soF a7 a8 r) :: (a7, soV y r) :: (a8, soW y r) :: (a3, soF a9 a10 rc) :: (a9, soV y rc) :: (a10, soW y rc) :: (a4, .inr (0, [.ref a11, .int qz, .int qn])) :: (a11, .inl (y 3, 14, .inr (.inr (.inr (.inr (gRf ga hq)))))) :: (a5, .inr (1, [.ref a12, .ref a13])) :: (a12, .inl (y 3, 2, .inr (.inr (.inr (.inr (gRf gb lq)))))) :: (a13, .inl (y 2, 2, .inl lfl)) :: gTail y ga gb hq lq) s.heap.size = A at hD hXZ ⊢
  have hA : ∀ q : Nat, s.heap.size ≤ q → A q := fun q h => by rw [← hAe]; exact Or.inr h
  have hS : va_S A s.heap s.heap [] := va_S.rf
  have hl := lv_entry ([.ref a0, .int p0, .int p1]) (n := 3) (Nat.le_of_ble_eq_true rfl)
  rw [lg_entry_eq]
  generalize (lg_sl ([.ref a0, .int p0, .int p1]) ++ List.replicate (3 - (lg_sl ([.ref a0, .int p0, .int p1])).length) Slot.unset).toArray = ls at hl ⊢
  have hl : lv_has ls 3 [(0, .ref a0), (1, .int p0), (2, .int p1)] := hl
  have hF := f_X5_hammer_s tn tf r rc qz qn hq lq lfl p0 p1
  obtain ⟨T, hT⟩ : ∃ T : va_W, gTail y ga gb hq lq = T := ⟨_, rfl⟩
  rw [hT] at hP hD
  refine lv_aload_n hx hb dX5_hammer_0 rfl (lv_at hl 0 rfl) ?_
  refine lv_iload_n hx hb dX5_hammer_1 rfl (lv_at hl 1 rfl) ?_
  refine xq_call (vx_runV (As := [.int p0]) (rest := []) ⟨hx, hb, hml, hown, hts⟩ (c_X5_requireLine l hst D y a0 a1 a2 a3 a4 a5 a7 a8 s.heap.size r p0) (cwV 1 hts gX5_hammer_X5_requireLine rfl rfl rfl hd_X5_requireLine ⟨Nat.le_of_ble_eq_true rfl, Nat.le_of_ble_eq_true rfl⟩) (xV (q := (RX5, TX5, 5)) hE hXE hXZ hS hA (hP.sub [0, 3, 4, 5] rfl) (hD.sub [0, 3, 4, 5] (by decide) rfl) 0 rfl rfl) rfl rfl hl.1 rfl (lv_room (Nat.le_of_ble_eq_true rfl)) dX5_hammer_2 ⟨Nat.le_of_ble_eq_true rfl, Nat.le_of_ble_eq_true rfl⟩) hP hD hS hA [0, 3, 4, 5] rfl (by decide) (fun E3 ce4 q5 H locs h2 h2z hP hD hS h2a h2b h2c => ?_) (fun H locs h2 hP hD hS => ?_)
  · have hP : va_P D vwCl ((a0, .inr (4, [.ref a1, .ref a2, .ref a3, .ref a4, .ref a5])) :: (a1, .inr (3, [.ref a6, .int tn])) :: (a6, .inl (y 1, 120, .inl tf)) :: (a2, soF a7 a8 r) :: (a7, soV y r) :: (a8, soW y r) :: (a3, soF a9 a10 rc) :: (a9, soV y rc) :: (a10, soW y rc) :: (a4, .inr (0, [.ref a11, .int qz, .int qn])) :: (a11, .inl (y 3, 14, .inr (.inr (.inr (.inr (gRf ga hq)))))) :: (a5, .inr (1, [.ref a12, .ref a13])) :: (a12, .inl (y 3, 2, .inr (.inr (.inr (.inr (gRf gb lq)))))) :: (a13, .inl (y 2, 2, .inl lfl)) :: T) H := hP
    have hD : va_D A ((a0, .inr (4, [.ref a1, .ref a2, .ref a3, .ref a4, .ref a5])) :: (a1, .inr (3, [.ref a6, .int tn])) :: (a6, .inl (y 1, 120, .inl tf)) :: (a2, soF a7 a8 r) :: (a7, soV y r) :: (a8, soW y r) :: (a3, soF a9 a10 rc) :: (a9, soV y rc) :: (a10, soW y rc) :: (a4, .inr (0, [.ref a11, .int qz, .int qn])) :: (a11, .inl (y 3, 14, .inr (.inr (.inr (.inr (gRf ga hq)))))) :: (a5, .inr (1, [.ref a12, .ref a13])) :: (a12, .inl (y 3, 2, .inr (.inr (.inr (.inr (gRf gb lq)))))) :: (a13, .inl (y 2, 2, .inl lfl)) :: T) := hD
    have hF := hF.trans ((gLet_e h2).trans (if_neg h2z))
    rw [← hT] at hP hD
    refine vx_out (fun x hx => (htab x hx).elim) hlocks h2a h2b h2c (fun t ht hvm => ⟨⟨r, hq, qz, qn⟩, trivial, ⟨⟨hF, h2z⟩, ⟨ga, gb, by rw [ht]; exact hP, hD⟩⟩, hS.F ht⟩) hS.2.2 (Nat.le_of_ble_eq_true rfl) (Nat.le_of_ble_eq_true rfl)
  have hP : va_P D vwCl ((a0, .inr (4, [.ref a1, .ref a2, .ref a3, .ref a4, .ref a5])) :: (a1, .inr (3, [.ref a6, .int tn])) :: (a6, .inl (y 1, 120, .inl tf)) :: (a2, soF a7 a8 r) :: (a7, soV y r) :: (a8, soW y r) :: (a3, soF a9 a10 rc) :: (a9, soV y rc) :: (a10, soW y rc) :: (a4, .inr (0, [.ref a11, .int qz, .int qn])) :: (a11, .inl (y 3, 14, .inr (.inr (.inr (.inr (gRf ga hq)))))) :: (a5, .inr (1, [.ref a12, .ref a13])) :: (a12, .inl (y 3, 2, .inr (.inr (.inr (.inr (gRf gb lq)))))) :: (a13, .inl (y 2, 2, .inl lfl)) :: T) H := hP
  have hD : va_D A ((a0, .inr (4, [.ref a1, .ref a2, .ref a3, .ref a4, .ref a5])) :: (a1, .inr (3, [.ref a6, .int tn])) :: (a6, .inl (y 1, 120, .inl tf)) :: (a2, soF a7 a8 r) :: (a7, soV y r) :: (a8, soW y r) :: (a3, soF a9 a10 rc) :: (a9, soV y rc) :: (a10, soW y rc) :: (a4, .inr (0, [.ref a11, .int qz, .int qn])) :: (a11, .inl (y 3, 14, .inr (.inr (.inr (.inr (gRf ga hq)))))) :: (a5, .inr (1, [.ref a12, .ref a13])) :: (a12, .inl (y 3, 2, .inr (.inr (.inr (.inr (gRf gb lq)))))) :: (a13, .inl (y 2, 2, .inl lfl)) :: T) := hD
  have hF := hF.trans ((gLet_e h2).trans (if_pos rfl))
  refine lv_iload_n hx hb dX5_hammer_5 rfl (lv_at hl 2 rfl) ?_
  refine xq_call (vx_runS (As := [.int p1]) (rest := []) ⟨hx, hb, hml, hown, hts⟩ (c_X5_requireHammered l hst D y H.size p1) (va_cwS 1 hts gX5_hammer_X5_requireHammered rfl rfl rfl hd_X5_requireHammered ⟨Nat.le_of_ble_eq_true rfl, Nat.le_of_ble_eq_true rfl⟩) (xS hE hXE hXZ hS hA (hP.sub [] rfl) (hD.sub [] (by decide) rfl)) rfl rfl hl.1 rfl (lv_room (Nat.le_of_ble_eq_true rfl)) dX5_hammer_6 ⟨Nat.le_of_ble_eq_true rfl, Nat.le_of_ble_eq_true rfl⟩) hP hD hS hA [] rfl (by decide) (fun E8 ce9 q10 H locs h7 h7z hP hD hS h7a h7b h7c => ?_) (fun H locs h7 hP hD hS => ?_)
  · have hP : va_P D vwCl ((a0, .inr (4, [.ref a1, .ref a2, .ref a3, .ref a4, .ref a5])) :: (a1, .inr (3, [.ref a6, .int tn])) :: (a6, .inl (y 1, 120, .inl tf)) :: (a2, soF a7 a8 r) :: (a7, soV y r) :: (a8, soW y r) :: (a3, soF a9 a10 rc) :: (a9, soV y rc) :: (a10, soW y rc) :: (a4, .inr (0, [.ref a11, .int qz, .int qn])) :: (a11, .inl (y 3, 14, .inr (.inr (.inr (.inr (gRf ga hq)))))) :: (a5, .inr (1, [.ref a12, .ref a13])) :: (a12, .inl (y 3, 2, .inr (.inr (.inr (.inr (gRf gb lq)))))) :: (a13, .inl (y 2, 2, .inl lfl)) :: T) H := hP
    have hD : va_D A ((a0, .inr (4, [.ref a1, .ref a2, .ref a3, .ref a4, .ref a5])) :: (a1, .inr (3, [.ref a6, .int tn])) :: (a6, .inl (y 1, 120, .inl tf)) :: (a2, soF a7 a8 r) :: (a7, soV y r) :: (a8, soW y r) :: (a3, soF a9 a10 rc) :: (a9, soV y rc) :: (a10, soW y rc) :: (a4, .inr (0, [.ref a11, .int qz, .int qn])) :: (a11, .inl (y 3, 14, .inr (.inr (.inr (.inr (gRf ga hq)))))) :: (a5, .inr (1, [.ref a12, .ref a13])) :: (a12, .inl (y 3, 2, .inr (.inr (.inr (.inr (gRf gb lq)))))) :: (a13, .inl (y 2, 2, .inl lfl)) :: T) := hD
    have hF := hF.trans ((gLet_e h7).trans (if_neg h7z))
    rw [← hT] at hP hD
    refine vx_out (fun x hx => (htab x hx).elim) hlocks h7a h7b h7c (fun t ht hvm => ⟨⟨r, hq, qz, qn⟩, trivial, ⟨⟨hF, h7z⟩, ⟨ga, gb, by rw [ht]; exact hP, hD⟩⟩, hS.F ht⟩) hS.2.2 (Nat.le_of_ble_eq_true rfl) (Nat.le_of_ble_eq_true rfl)
  have hP : va_P D vwCl ((a0, .inr (4, [.ref a1, .ref a2, .ref a3, .ref a4, .ref a5])) :: (a1, .inr (3, [.ref a6, .int tn])) :: (a6, .inl (y 1, 120, .inl tf)) :: (a2, soF a7 a8 r) :: (a7, soV y r) :: (a8, soW y r) :: (a3, soF a9 a10 rc) :: (a9, soV y rc) :: (a10, soW y rc) :: (a4, .inr (0, [.ref a11, .int qz, .int qn])) :: (a11, .inl (y 3, 14, .inr (.inr (.inr (.inr (gRf ga hq)))))) :: (a5, .inr (1, [.ref a12, .ref a13])) :: (a12, .inl (y 3, 2, .inr (.inr (.inr (.inr (gRf gb lq)))))) :: (a13, .inl (y 2, 2, .inl lfl)) :: T) H := hP
  have hD : va_D A ((a0, .inr (4, [.ref a1, .ref a2, .ref a3, .ref a4, .ref a5])) :: (a1, .inr (3, [.ref a6, .int tn])) :: (a6, .inl (y 1, 120, .inl tf)) :: (a2, soF a7 a8 r) :: (a7, soV y r) :: (a8, soW y r) :: (a3, soF a9 a10 rc) :: (a9, soV y rc) :: (a10, soW y rc) :: (a4, .inr (0, [.ref a11, .int qz, .int qn])) :: (a11, .inl (y 3, 14, .inr (.inr (.inr (.inr (gRf ga hq)))))) :: (a5, .inr (1, [.ref a12, .ref a13])) :: (a12, .inl (y 3, 2, .inr (.inr (.inr (.inr (gRf gb lq)))))) :: (a13, .inl (y 2, 2, .inl lfl)) :: T) := hD
  have hF := hF.trans ((gLet_e h7).trans (if_pos rfl))
  refine lv_aload_n hx hb dX5_hammer_9 rfl (lv_at hl 0 rfl) ?_
  refine va_get (D := D) (ci := 4) (v := .ref a4) (C := RX5) (T := TX5) (N := 5) hx hb hts hi5 hown hE.1 hP 0 rfl rfl 3 (by decide) w_0 (fun _ h9 => h9) rfl dX5_hammer_10 ?_
  refine lv_aload_n hx hb dX5_hammer_13 rfl (lv_at hl 0 rfl) ?_
  refine va_get (D := D) (ci := 4) (v := .ref a2) (C := RX5) (T := TX5) (N := 5) hx hb hts hi5 hown hE.1 hP 0 rfl rfl 1 (by decide) w_2 (fun _ h9 => h9) rfl dX5_hammer_14 ?_
  rw [← hT] at hP hD
  refine xw_callEv (va_runV (As := [.ref a2]) (rest := []) ⟨hx, hb, hml, hown, hts⟩ (c_X0_remember l D y a0 a1 a2 a3 a4 a5 a6 a7 a8 a9 a10 a11 a12 a13 ga gb H.size tn tf r rc qz qn hq lq lfl hh ho) (cwV 1 hts gX5_hammer_X0_remember rfl rfl rfl hd_X0_remember ⟨Nat.le_of_ble_eq_true rfl, Nat.le_of_ble_eq_true rfl⟩) (gV (q := (RX0, TX0, 3)) hE hP hD 9 rfl rfl) rfl rfl hl.1 rfl (lv_room (Nat.le_of_ble_eq_true rfl)) dX5_hammer_17 ⟨Nat.le_of_ble_eq_true rfl, Nat.le_of_ble_eq_true rfl⟩) hD hS hA (fun u12 ga13 gb14 H locs h11 hP hD hS => ?_)
  have hF := hF.trans (gLet_e h11)
  have hP : va_P D vwCl ((a0, .inr (4, [.ref a1, .ref a2, .ref a3, .ref a4, .ref a5])) :: (a1, .inr (3, [.ref a6, .int tn])) :: (a6, .inl (y 1, 120, .inl tf)) :: (a2, soF a7 a8 r) :: (a7, soV y r) :: (a8, soW y r) :: (a3, soF a9 a10 rc) :: (a9, soV y rc) :: (a10, soW y rc) :: (a4, .inr (0, [.ref a11, .int u12.2.1, .int u12.2.2])) :: (a11, .inl (y 3, 14, .inr (.inr (.inr (.inr (gRf ga13 u12.1)))))) :: (a5, .inr (1, [.ref a12, .ref a13])) :: (a12, .inl (y 3, 2, .inr (.inr (.inr (.inr (gRf gb14 lq)))))) :: (a13, .inl (y 2, 2, .inl lfl)) :: gTail y ga13 gb14 u12.1 lq) H := hP
  have hD : va_D A ((a0, .inr (4, [.ref a1, .ref a2, .ref a3, .ref a4, .ref a5])) :: (a1, .inr (3, [.ref a6, .int tn])) :: (a6, .inl (y 1, 120, .inl tf)) :: (a2, soF a7 a8 r) :: (a7, soV y r) :: (a8, soW y r) :: (a3, soF a9 a10 rc) :: (a9, soV y rc) :: (a10, soW y rc) :: (a4, .inr (0, [.ref a11, .int u12.2.1, .int u12.2.2])) :: (a11, .inl (y 3, 14, .inr (.inr (.inr (.inr (gRf ga13 u12.1)))))) :: (a5, .inr (1, [.ref a12, .ref a13])) :: (a12, .inl (y 3, 2, .inr (.inr (.inr (.inr (gRf gb14 lq)))))) :: (a13, .inl (y 2, 2, .inl lfl)) :: gTail y ga13 gb14 u12.1 lq) := hD
  obtain ⟨T15, hT15⟩ : ∃ T : va_W, gTail y ga13 gb14 u12.1 lq = T := ⟨_, rfl⟩
  rw [hT15] at hP hD
  refine lv_aload_n hx hb dX5_hammer_20 rfl (lv_at hl 0 rfl) ?_
  refine va_get (D := D) (ci := 4) (v := .ref a2) (C := RX5) (T := TX5) (N := 5) hx hb hts hi5 hown hE.1 hP 0 rfl rfl 1 (by decide) w_2 (fun _ h9 => h9) rfl dX5_hammer_21 ?_
  refine lv_iload_n hx hb dX5_hammer_24 rfl (lv_at hl 1 rfl) ?_
  refine lv_iload_n hx hb dX5_hammer_25 rfl (lv_at hl 2 rfl) ?_
  refine xw_calli (va_runV (As := [.int p0, .int p1]) (rest := []) ⟨hx, hb, hml, hown, hts⟩ (c_X3_hammerLine l D y a2 a7 a8 H.size r p0 p1 ho) (cwV 2 hts gX5_hammer_X3_hammerLine rfl rfl rfl hd_X3_hammerLine ⟨Nat.le_of_ble_eq_true rfl, Nat.le_of_ble_eq_true rfl⟩) (gV (q := (RX3, TX3, 15)) hE (hP.sub [3, 4, 5] rfl) (hD.sub [3, 4, 5] (by decide) rfl) 0 rfl rfl) rfl rfl hl.1 rfl (lv_room (Nat.le_of_ble_eq_true rfl)) dX5_hammer_26 ⟨Nat.le_of_ble_eq_true rfl, Nat.le_of_ble_eq_true rfl⟩) hP hD hS hA [3, 4, 5] rfl (by decide) (fun _ => rfl) (fun v18 u17 H locs h16 hP hD hS => ?_)
  obtain ⟨q19, eq19⟩ : ∃ z : Int32 × gR, f_X3_hammerLine r p0 p1 = z := ⟨_, rfl⟩
  obtain ⟨rfl, rfl⟩ : q19.1 = v18 ∧ q19.2 = u17 := ⟨by rw [← eq19, h16], by rw [← eq19, h16]⟩
  have hF := hF.trans (gLet_e eq19)
  have hP : va_P D vwCl ((a0, .inr (4, [.ref a1, .ref a2, .ref a3, .ref a4, .ref a5])) :: (a1, .inr (3, [.ref a6, .int tn])) :: (a6, .inl (y 1, 120, .inl tf)) :: (a2, soF a7 a8 q19.2) :: (a7, soV y q19.2) :: (a8, soW y q19.2) :: (a3, soF a9 a10 rc) :: (a9, soV y rc) :: (a10, soW y rc) :: (a4, .inr (0, [.ref a11, .int u12.2.1, .int u12.2.2])) :: (a11, .inl (y 3, 14, .inr (.inr (.inr (.inr (gRf ga13 u12.1)))))) :: (a5, .inr (1, [.ref a12, .ref a13])) :: (a12, .inl (y 3, 2, .inr (.inr (.inr (.inr (gRf gb14 lq)))))) :: (a13, .inl (y 2, 2, .inl lfl)) :: T15) H := hP
  have hD : va_D A ((a0, .inr (4, [.ref a1, .ref a2, .ref a3, .ref a4, .ref a5])) :: (a1, .inr (3, [.ref a6, .int tn])) :: (a6, .inl (y 1, 120, .inl tf)) :: (a2, soF a7 a8 q19.2) :: (a7, soV y q19.2) :: (a8, soW y q19.2) :: (a3, soF a9 a10 rc) :: (a9, soV y rc) :: (a10, soW y rc) :: (a4, .inr (0, [.ref a11, .int u12.2.1, .int u12.2.2])) :: (a11, .inl (y 3, 14, .inr (.inr (.inr (.inr (gRf ga13 u12.1)))))) :: (a5, .inr (1, [.ref a12, .ref a13])) :: (a12, .inl (y 3, 2, .inr (.inr (.inr (.inr (gRf gb14 lq)))))) :: (a13, .inl (y 2, 2, .inl lfl)) :: T15) := hD
  refine W.widen (k := 5) (n := 92) (Nat.le_of_ble_eq_true rfl) (Nat.le_of_ble_eq_true rfl) ?_
  refine vx_ret ?_
  rw [← hT15] at hP hD
  exact W.iret (v := q19.1) hx hb hr (fun t ht hW => ⟨⟨q19.1, ⟨q19.2, u12.1, u12.2.1, u12.2.2⟩, rfl, hF, ⟨ga13, gb14, by rw [ht]; exact hP, hD⟩⟩, hS.F ht⟩) hS.2.2 dX5_hammer_29

def f_X5_all (tn : Int32) (tf : Nat → Int32) (r : gR) (rc : gR) (qz : Int32) (qn : Int32) (hq : Nat → Option gR) (lq : Nat → Option gR) (lfl : Nat → Int32) (p0 : Int32) : Nat × Int32 × gR × (Nat → Option gR) × Int32 × Int32 :=
    gLet (f_X5_isRounds p0) (fun (v2 : Int32) =>
    if v2 = 0 then
      (1, 0, r, hq, qz, qn)
    else
      gLet (f_X5_requireStore r) (fun (n4 : Nat) =>
        if n4 = 0 then
          gLet (f_X0_remember r qz qn hq) (fun (u10 : (Nat → Option gR) × Int32 × Int32) =>
            gLet (f_X3_writeInTurn r (p0 * (r 0))) (fun (q17 : Int32 × gR) =>
              (0, q17.1, q17.2, u10.1, u10.2.1, u10.2.2)))
        else
          (n4, 0, r, hq, qz, qn)))
theorem f_X5_all_s (tn : Int32) (tf : Nat → Int32) (r : gR) (rc : gR) (qz : Int32) (qn : Int32) (hq : Nat → Option gR) (lq : Nat → Option gR) (lfl : Nat → Int32) (p0 : Int32) : f_X5_all tn tf r rc qz qn hq lq lfl p0 =
    (gLet (f_X5_isRounds p0) (fun (v2 : Int32) =>
    if v2 = 0 then
      (1, 0, r, hq, qz, qn)
    else
      gLet (f_X5_requireStore r) (fun (n4 : Nat) =>
        if n4 = 0 then
          gLet (f_X0_remember r qz qn hq) (fun (u10 : (Nat → Option gR) × Int32 × Int32) =>
            gLet (f_X3_writeInTurn r (p0 * (r 0))) (fun (q17 : Int32 × gR) =>
              (0, q17.1, q17.2, u10.1, u10.2.1, u10.2.2)))
        else
          (n4, 0, r, hq, qz, qn)))) := rfl
theorem hd_X5_all : yX5_all.cls = RX5 ∧ yX5_all.cls ≠ "java/lang/invoke/MethodHandle" ∧ yX5_all.cls ≠ "java/lang/invoke/VarHandle" ∧ (parseMethodDescriptor yX5_all.desc).map (fun d => d.parameters.length) = some 1 := by decide +kernel
set_option maxHeartbeats 4000000 in
set_option maxRecDepth 100000 in
theorem c_X5_all (l : Launch) (hst : l.stackTraces = false) (D : va_G) (y : Nat → ClassId) (a0 a1 a2 a3 a4 a5 a6 a7 a8 a9 a10 a11 a12 a13 : Nat) (ga gb : Nat → Nat × Nat × Nat) (zh : Nat) (tn : Int32) (tf : Nat → Int32) (r : gR) (rc : gR) (qz : Int32) (qn : Int32) (hq : Nat → Option gR) (lq : Nat → Option gR) (lfl : Nat → Int32) (p0 : Int32) (hh : 0 ≤ qn.toInt ∧ qn.toInt < (14 : Nat)) (ho : okC r) : vx_Met l yX5_all wsX5_all ({ frames := 7, cells := 5, slots := 92, locals := 102 }) (xP D y [.ref a0, .int p0] zh ((a0, .inr (4, [.ref a1, .ref a2, .ref a3, .ref a4, .ref a5])) :: (a1, .inr (3, [.ref a6, .int tn])) :: (a6, .inl (y 1, 120, .inl tf)) :: (a2, soF a7 a8 r) :: (a7, soV y r) :: (a8, soW y r) :: (a3, soF a9 a10 rc) :: (a9, soV y rc) :: (a10, soW y rc) :: (a4, .inr (0, [.ref a11, .int qz, .int qn])) :: (a11, .inl (y 3, 14, .inr (.inr (.inr (.inr (gRf ga hq)))))) :: (a5, .inr (1, [.ref a12, .ref a13])) :: (a12, .inl (y 3, 2, .inr (.inr (.inr (.inr (gRf gb lq)))))) :: (a13, .inl (y 2, 2, .inl lfl)) :: gTail y ga gb hq lq)) (va_Qi (fun (v : Int32) (u : gR × (Nat → Option gR) × Int32 × Int32) => f_X5_all tn tf r rc qz qn hq lq lfl p0 = (0, v, u)) (fun (u : gR × (Nat → Option gR) × Int32 × Int32) t => ∃ (g1 g2 : Nat → Nat × Nat × Nat), va_P D vwCl ((a0, .inr (4, [.ref a1, .ref a2, .ref a3, .ref a4, .ref a5])) :: (a1, .inr (3, [.ref a6, .int tn])) :: (a6, .inl (y 1, 120, .inl tf)) :: (a2, soF a7 a8 u.1) :: (a7, soV y u.1) :: (a8, soW y u.1) :: (a3, soF a9 a10 rc) :: (a9, soV y rc) :: (a10, soW y rc) :: (a4, .inr (0, [.ref a11, .int u.2.2.1, .int u.2.2.2])) :: (a11, .inl (y 3, 14, .inr (.inr (.inr (.inr (gRf g1 u.2.1)))))) :: (a5, .inr (1, [.ref a12, .ref a13])) :: (a12, .inl (y 3, 2, .inr (.inr (.inr (.inr (gRf g2 lq)))))) :: (a13, .inl (y 2, 2, .inl lfl)) :: gTail y g1 g2 u.2.1 lq) t.heap ∧ va_D (va_A ((a0, .inr (4, [.ref a1, .ref a2, .ref a3, .ref a4, .ref a5])) :: (a1, .inr (3, [.ref a6, .int tn])) :: (a6, .inl (y 1, 120, .inl tf)) :: (a2, soF a7 a8 r) :: (a7, soV y r) :: (a8, soW y r) :: (a3, soF a9 a10 rc) :: (a9, soV y rc) :: (a10, soW y rc) :: (a4, .inr (0, [.ref a11, .int qz, .int qn])) :: (a11, .inl (y 3, 14, .inr (.inr (.inr (.inr (gRf ga hq)))))) :: (a5, .inr (1, [.ref a12, .ref a13])) :: (a12, .inl (y 3, 2, .inr (.inr (.inr (.inr (gRf gb lq)))))) :: (a13, .inl (y 2, 2, .inl lfl)) :: gTail y ga gb hq lq) zh) ((a0, .inr (4, [.ref a1, .ref a2, .ref a3, .ref a4, .ref a5])) :: (a1, .inr (3, [.ref a6, .int tn])) :: (a6, .inl (y 1, 120, .inl tf)) :: (a2, soF a7 a8 u.1) :: (a7, soV y u.1) :: (a8, soW y u.1) :: (a3, soF a9 a10 rc) :: (a9, soV y rc) :: (a10, soW y rc) :: (a4, .inr (0, [.ref a11, .int u.2.2.1, .int u.2.2.2])) :: (a11, .inl (y 3, 14, .inr (.inr (.inr (.inr (gRf g1 u.2.1)))))) :: (a5, .inr (1, [.ref a12, .ref a13])) :: (a12, .inl (y 3, 2, .inr (.inr (.inr (.inr (gRf g2 lq)))))) :: (a13, .inl (y 2, 2, .inl lfl)) :: gTail y g1 g2 u.2.1 lq)) (va_A ((a0, .inr (4, [.ref a1, .ref a2, .ref a3, .ref a4, .ref a5])) :: (a1, .inr (3, [.ref a6, .int tn])) :: (a6, .inl (y 1, 120, .inl tf)) :: (a2, soF a7 a8 r) :: (a7, soV y r) :: (a8, soW y r) :: (a3, soF a9 a10 rc) :: (a9, soV y rc) :: (a10, soW y rc) :: (a4, .inr (0, [.ref a11, .int qz, .int qn])) :: (a11, .inl (y 3, 14, .inr (.inr (.inr (.inr (gRf ga hq)))))) :: (a5, .inr (1, [.ref a12, .ref a13])) :: (a12, .inl (y 3, 2, .inr (.inr (.inr (.inr (gRf gb lq)))))) :: (a13, .inl (y 2, 2, .inl lfl)) :: gTail y ga gb hq lq) zh)) (vx_X (fun _ : gR × (Nat → Option gR) × Int32 × Int32 => True) (fun (E : String) (u : gR × (Nat → Option gR) × Int32 × Int32) t => (f_X5_all tn tf r rc qz qn hq lq lfl p0 = (xc E, 0, u) ∧ xc E ≠ 0) ∧ (∃ (g1 g2 : Nat → Nat × Nat × Nat), va_P D vwCl ((a0, .inr (4, [.ref a1, .ref a2, .ref a3, .ref a4, .ref a5])) :: (a1, .inr (3, [.ref a6, .int tn])) :: (a6, .inl (y 1, 120, .inl tf)) :: (a2, soF a7 a8 u.1) :: (a7, soV y u.1) :: (a8, soW y u.1) :: (a3, soF a9 a10 rc) :: (a9, soV y rc) :: (a10, soW y rc) :: (a4, .inr (0, [.ref a11, .int u.2.2.1, .int u.2.2.2])) :: (a11, .inl (y 3, 14, .inr (.inr (.inr (.inr (gRf g1 u.2.1)))))) :: (a5, .inr (1, [.ref a12, .ref a13])) :: (a12, .inl (y 3, 2, .inr (.inr (.inr (.inr (gRf g2 lq)))))) :: (a13, .inl (y 2, 2, .inl lfl)) :: gTail y g1 g2 u.2.1 lq) t.heap ∧ va_D (va_A ((a0, .inr (4, [.ref a1, .ref a2, .ref a3, .ref a4, .ref a5])) :: (a1, .inr (3, [.ref a6, .int tn])) :: (a6, .inl (y 1, 120, .inl tf)) :: (a2, soF a7 a8 r) :: (a7, soV y r) :: (a8, soW y r) :: (a3, soF a9 a10 rc) :: (a9, soV y rc) :: (a10, soW y rc) :: (a4, .inr (0, [.ref a11, .int qz, .int qn])) :: (a11, .inl (y 3, 14, .inr (.inr (.inr (.inr (gRf ga hq)))))) :: (a5, .inr (1, [.ref a12, .ref a13])) :: (a12, .inl (y 3, 2, .inr (.inr (.inr (.inr (gRf gb lq)))))) :: (a13, .inl (y 2, 2, .inl lfl)) :: gTail y ga gb hq lq) zh) ((a0, .inr (4, [.ref a1, .ref a2, .ref a3, .ref a4, .ref a5])) :: (a1, .inr (3, [.ref a6, .int tn])) :: (a6, .inl (y 1, 120, .inl tf)) :: (a2, soF a7 a8 u.1) :: (a7, soV y u.1) :: (a8, soW y u.1) :: (a3, soF a9 a10 rc) :: (a9, soV y rc) :: (a10, soW y rc) :: (a4, .inr (0, [.ref a11, .int u.2.2.1, .int u.2.2.2])) :: (a11, .inl (y 3, 14, .inr (.inr (.inr (.inr (gRf g1 u.2.1)))))) :: (a5, .inr (1, [.ref a12, .ref a13])) :: (a12, .inl (y 3, 2, .inr (.inr (.inr (.inr (gRf g2 lq)))))) :: (a13, .inl (y 2, 2, .inl lfl)) :: gTail y g1 g2 u.2.1 lq))) (va_A ((a0, .inr (4, [.ref a1, .ref a2, .ref a3, .ref a4, .ref a5])) :: (a1, .inr (3, [.ref a6, .int tn])) :: (a6, .inl (y 1, 120, .inl tf)) :: (a2, soF a7 a8 r) :: (a7, soV y r) :: (a8, soW y r) :: (a3, soF a9 a10 rc) :: (a9, soV y rc) :: (a10, soW y rc) :: (a4, .inr (0, [.ref a11, .int qz, .int qn])) :: (a11, .inl (y 3, 14, .inr (.inr (.inr (.inr (gRf ga hq)))))) :: (a5, .inr (1, [.ref a12, .ref a13])) :: (a12, .inl (y 3, 2, .inr (.inr (.inr (.inr (gRf gb lq)))))) :: (a13, .inl (y 2, 2, .inl lfl)) :: gTail y ga gb hq lq) zh)) 5 92 (va_A ((a0, .inr (4, [.ref a1, .ref a2, .ref a3, .ref a4, .ref a5])) :: (a1, .inr (3, [.ref a6, .int tn])) :: (a6, .inl (y 1, 120, .inl tf)) :: (a2, soF a7 a8 r) :: (a7, soV y r) :: (a8, soW y r) :: (a3, soF a9 a10 rc) :: (a9, soV y rc) :: (a10, soW y rc) :: (a4, .inr (0, [.ref a11, .int qz, .int qn])) :: (a11, .inl (y 3, 14, .inr (.inr (.inr (.inr (gRf ga hq)))))) :: (a5, .inr (1, [.ref a12, .ref a13])) :: (a12, .inl (y 3, 2, .inr (.inr (.inr (.inr (gRf gb lq)))))) :: (a13, .inl (y 2, 2, .inl lfl)) :: gTail y ga gb hq lq) zh) := by
  refine vx_ofW (cc := cX5_all) (maxL := 2) (ret := (some .int)) (by decide) rfl ?_
  intro p e s m args below meth c s₁ B hml htab hv
  obtain ⟨⟨rfl, hsz, hP, hE, hD⟩, hXE, hXZ⟩ := hv
  have hx := B.exec
  have hb := B.bytes
  have hr := B.returns
  have hts := atoms_spec (ws := wsX5_all) B.pre
  have hown : s.vm.findClass RX5 = some m.cls := findClass_of_methodNamed B.named
  have hlocks := B.notSynchronized
  have w_0 := hts (.fieldLink RX5 29 "GapLines" "history" "LGapLines$History;") (List.mem_cons_of_mem _ (List.mem_append_left _ (List.mem_append_left _ (List.mem_append_left _ (List.mem_append_left _ (List.mem_append_left _ (List.mem_append_left _ (List.mem_of_getElem? (i := 2) rfl))))))))
  have hi5 : ∀ w ∈ u_ws RX5 TX5 5, w ∈ wsX5_all := fun w h => (List.mem_cons_of_mem _ (List.mem_append_left _ (List.mem_append_left _ (List.mem_append_left _ (List.mem_append_left _ (List.mem_append_right _ h))))))
  have w_2 := hts (.fieldLink RX5 19 "GapLines" "state" "LGapLines$State;") (List.mem_cons_of_mem _ (List.mem_append_left _ (List.mem_append_left _ (List.mem_append_left _ (List.mem_append_left _ (List.mem_append_left _ (List.mem_append_left _ (List.mem_of_getElem? (i := 3) rfl))))))))
  have w_3 := hts (.fieldLink RX5 157 "GapLines$State" "lines" "I") (List.mem_cons_of_mem _ (List.mem_append_left _ (List.mem_append_left _ (List.mem_append_left _ (List.mem_append_left _ (List.mem_append_left _ (List.mem_append_left _ (List.mem_of_getElem? (i := 4) rfl))))))))
  have hi3 : ∀ w ∈ u_ws RX3 TX3 15, w ∈ wsX5_all := fun w h => (List.mem_cons_of_mem _ (List.mem_append_left _ (List.mem_append_left _ (List.mem_append_left _ (List.mem_append_right _ h)))))
  have w_5 := hts (.classLink RX5 40 "java/lang/IllegalArgumentException") (List.mem_cons_of_mem _ (List.mem_append_left _ (List.mem_append_left _ (List.mem_append_left _ (List.mem_append_left _ (List.mem_append_left _ (List.mem_append_left _ (List.mem_of_getElem? (i := 0) rfl))))))))
  have w_6 := hts (.initialized "java/lang/IllegalArgumentException") (List.mem_cons_of_mem _ (List.mem_append_left _ (List.mem_append_left _ (List.mem_append_left _ (List.mem_append_left _ (List.mem_append_left _ (List.mem_append_left _ (List.mem_of_getElem? (i := 1) rfl))))))))
  subst hsz
  have hD := hD.self (sz := s.heap.size)
  generalize hAe : va_A ((a0, .inr (4, [.ref a1, .ref a2, .ref a3, .ref a4, .ref a5])) :: (a1, .inr (3, [.ref a6, .int tn])) :: (a6, .inl (y 1, 120, .inl tf)) :: (a2, soF a7 a8 r) :: (a7, soV y r) :: (a8, soW y r) :: (a3, soF a9 a10 rc) :: (a9, soV y rc) :: (a10, soW y rc) :: (a4, .inr (0, [.ref a11, .int qz, .int qn])) :: (a11, .inl (y 3, 14, .inr (.inr (.inr (.inr (gRf ga hq)))))) :: (a5, .inr (1, [.ref a12, .ref a13])) :: (a12, .inl (y 3, 2, .inr (.inr (.inr (.inr (gRf gb lq)))))) :: (a13, .inl (y 2, 2, .inl lfl)) :: gTail y ga gb hq lq) s.heap.size = A at hD hXZ ⊢
  have hA : ∀ q : Nat, s.heap.size ≤ q → A q := fun q h => by rw [← hAe]; exact Or.inr h
  have hS : va_S A s.heap s.heap [] := va_S.rf
  have hl := lv_entry ([.ref a0, .int p0]) (n := 2) (Nat.le_of_ble_eq_true rfl)
  rw [lg_entry_eq]
  generalize (lg_sl ([.ref a0, .int p0]) ++ List.replicate (2 - (lg_sl ([.ref a0, .int p0])).length) Slot.unset).toArray = ls at hl ⊢
  have hl : lv_has ls 2 [(0, .ref a0), (1, .int p0)] := hl
  have hF := f_X5_all_s tn tf r rc qz qn hq lq lfl p0
  obtain ⟨T, hT⟩ : ∃ T : va_W, gTail y ga gb hq lq = T := ⟨_, rfl⟩
  rw [hT] at hP hD
  refine lv_iload_n hx hb dX5_all_0 rfl (lv_at hl 1 rfl) ?_
  refine xs_calli (va_runS (As := [.int p0]) (rest := []) ⟨hx, hb, hml, hown, hts⟩ (c_X5_isRounds l D y s.heap.size p0) (va_cwS 1 hts gX5_all_X5_isRounds rfl rfl rfl hd_X5_isRounds ⟨Nat.le_of_ble_eq_true rfl, Nat.le_of_ble_eq_true rfl⟩) (gS hE (hP.sub [] rfl) (hD.sub [] (by decide) rfl)) rfl rfl hl.1 rfl (lv_room (Nat.le_of_ble_eq_true rfl)) dX5_all_1 ⟨Nat.le_of_ble_eq_true rfl, Nat.le_of_ble_eq_true rfl⟩) (fun v2 h1 => ?_)
  have hF := hF.trans (gLet_e h1)
  refine lv_if_ne (tgt := 17) hx hb dX5_all_4 (by decide) (fun c_3 => ?_) (fun c_3 => ?_)
  · have hF := hF.trans (if_neg c_3)
    refine lv_aload_n hx hb dX5_all_17 rfl (lv_at hl 0 rfl) ?_
    refine xq_call (vx_runV (As := []) (rest := []) ⟨hx, hb, hml, hown, hts⟩ (c_X5_requireStore l hst D y a0 a1 a2 a3 a4 a5 a7 a8 s.heap.size r) (cwV 0 hts gX5_all_X5_requireStore rfl rfl rfl hd_X5_requireStore ⟨Nat.le_of_ble_eq_true rfl, Nat.le_of_ble_eq_true rfl⟩) (xV (q := (RX5, TX5, 5)) hE hXE hXZ hS hA (hP.sub [0, 3, 4, 5] rfl) (hD.sub [0, 3, 4, 5] (by decide) rfl) 0 rfl rfl) rfl rfl hl.1 rfl (lv_room (Nat.le_of_ble_eq_true rfl)) dX5_all_18 ⟨Nat.le_of_ble_eq_true rfl, Nat.le_of_ble_eq_true rfl⟩) hP hD hS hA [0, 3, 4, 5] rfl (by decide) (fun E6 ce7 q8 H locs h5 h5z hP hD hS h5a h5b h5c => ?_) (fun H locs h5 hP hD hS => ?_)
    · have hP : va_P D vwCl ((a0, .inr (4, [.ref a1, .ref a2, .ref a3, .ref a4, .ref a5])) :: (a1, .inr (3, [.ref a6, .int tn])) :: (a6, .inl (y 1, 120, .inl tf)) :: (a2, soF a7 a8 r) :: (a7, soV y r) :: (a8, soW y r) :: (a3, soF a9 a10 rc) :: (a9, soV y rc) :: (a10, soW y rc) :: (a4, .inr (0, [.ref a11, .int qz, .int qn])) :: (a11, .inl (y 3, 14, .inr (.inr (.inr (.inr (gRf ga hq)))))) :: (a5, .inr (1, [.ref a12, .ref a13])) :: (a12, .inl (y 3, 2, .inr (.inr (.inr (.inr (gRf gb lq)))))) :: (a13, .inl (y 2, 2, .inl lfl)) :: T) H := hP
      have hD : va_D A ((a0, .inr (4, [.ref a1, .ref a2, .ref a3, .ref a4, .ref a5])) :: (a1, .inr (3, [.ref a6, .int tn])) :: (a6, .inl (y 1, 120, .inl tf)) :: (a2, soF a7 a8 r) :: (a7, soV y r) :: (a8, soW y r) :: (a3, soF a9 a10 rc) :: (a9, soV y rc) :: (a10, soW y rc) :: (a4, .inr (0, [.ref a11, .int qz, .int qn])) :: (a11, .inl (y 3, 14, .inr (.inr (.inr (.inr (gRf ga hq)))))) :: (a5, .inr (1, [.ref a12, .ref a13])) :: (a12, .inl (y 3, 2, .inr (.inr (.inr (.inr (gRf gb lq)))))) :: (a13, .inl (y 2, 2, .inl lfl)) :: T) := hD
      have hF := hF.trans ((gLet_e h5).trans (if_neg h5z))
      rw [← hT] at hP hD
      refine vx_out (fun x hx => (htab x hx).elim) hlocks h5a h5b h5c (fun t ht hvm => ⟨⟨r, hq, qz, qn⟩, trivial, ⟨⟨hF, h5z⟩, ⟨ga, gb, by rw [ht]; exact hP, hD⟩⟩, hS.F ht⟩) hS.2.2 (Nat.le_of_ble_eq_true rfl) (Nat.le_of_ble_eq_true rfl)
    have hP : va_P D vwCl ((a0, .inr (4, [.ref a1, .ref a2, .ref a3, .ref a4, .ref a5])) :: (a1, .inr (3, [.ref a6, .int tn])) :: (a6, .inl (y 1, 120, .inl tf)) :: (a2, soF a7 a8 r) :: (a7, soV y r) :: (a8, soW y r) :: (a3, soF a9 a10 rc) :: (a9, soV y rc) :: (a10, soW y rc) :: (a4, .inr (0, [.ref a11, .int qz, .int qn])) :: (a11, .inl (y 3, 14, .inr (.inr (.inr (.inr (gRf ga hq)))))) :: (a5, .inr (1, [.ref a12, .ref a13])) :: (a12, .inl (y 3, 2, .inr (.inr (.inr (.inr (gRf gb lq)))))) :: (a13, .inl (y 2, 2, .inl lfl)) :: T) H := hP
    have hD : va_D A ((a0, .inr (4, [.ref a1, .ref a2, .ref a3, .ref a4, .ref a5])) :: (a1, .inr (3, [.ref a6, .int tn])) :: (a6, .inl (y 1, 120, .inl tf)) :: (a2, soF a7 a8 r) :: (a7, soV y r) :: (a8, soW y r) :: (a3, soF a9 a10 rc) :: (a9, soV y rc) :: (a10, soW y rc) :: (a4, .inr (0, [.ref a11, .int qz, .int qn])) :: (a11, .inl (y 3, 14, .inr (.inr (.inr (.inr (gRf ga hq)))))) :: (a5, .inr (1, [.ref a12, .ref a13])) :: (a12, .inl (y 3, 2, .inr (.inr (.inr (.inr (gRf gb lq)))))) :: (a13, .inl (y 2, 2, .inl lfl)) :: T) := hD
    have hF := hF.trans ((gLet_e h5).trans (if_pos rfl))
    refine lv_aload_n hx hb dX5_all_21 rfl (lv_at hl 0 rfl) ?_
    refine va_get (D := D) (ci := 4) (v := .ref a4) (C := RX5) (T := TX5) (N := 5) hx hb hts hi5 hown hE.1 hP 0 rfl rfl 3 (by decide) w_0 (fun _ h9 => h9) rfl dX5_all_22 ?_
    refine lv_aload_n hx hb dX5_all_25 rfl (lv_at hl 0 rfl) ?_
    refine va_get (D := D) (ci := 4) (v := .ref a2) (C := RX5) (T := TX5) (N := 5) hx hb hts hi5 hown hE.1 hP 0 rfl rfl 1 (by decide) w_2 (fun _ h9 => h9) rfl dX5_all_26 ?_
    rw [← hT] at hP hD
    refine xw_callEv (va_runV (As := [.ref a2]) (rest := []) ⟨hx, hb, hml, hown, hts⟩ (c_X0_remember l D y a0 a1 a2 a3 a4 a5 a6 a7 a8 a9 a10 a11 a12 a13 ga gb H.size tn tf r rc qz qn hq lq lfl hh ho) (cwV 1 hts gX5_all_X0_remember rfl rfl rfl hd_X0_remember ⟨Nat.le_of_ble_eq_true rfl, Nat.le_of_ble_eq_true rfl⟩) (gV (q := (RX0, TX0, 3)) hE hP hD 9 rfl rfl) rfl rfl hl.1 rfl (lv_room (Nat.le_of_ble_eq_true rfl)) dX5_all_29 ⟨Nat.le_of_ble_eq_true rfl, Nat.le_of_ble_eq_true rfl⟩) hD hS hA (fun u10 ga11 gb12 H locs h9 hP hD hS => ?_)
    have hF := hF.trans (gLet_e h9)
    have hP : va_P D vwCl ((a0, .inr (4, [.ref a1, .ref a2, .ref a3, .ref a4, .ref a5])) :: (a1, .inr (3, [.ref a6, .int tn])) :: (a6, .inl (y 1, 120, .inl tf)) :: (a2, soF a7 a8 r) :: (a7, soV y r) :: (a8, soW y r) :: (a3, soF a9 a10 rc) :: (a9, soV y rc) :: (a10, soW y rc) :: (a4, .inr (0, [.ref a11, .int u10.2.1, .int u10.2.2])) :: (a11, .inl (y 3, 14, .inr (.inr (.inr (.inr (gRf ga11 u10.1)))))) :: (a5, .inr (1, [.ref a12, .ref a13])) :: (a12, .inl (y 3, 2, .inr (.inr (.inr (.inr (gRf gb12 lq)))))) :: (a13, .inl (y 2, 2, .inl lfl)) :: gTail y ga11 gb12 u10.1 lq) H := hP
    have hD : va_D A ((a0, .inr (4, [.ref a1, .ref a2, .ref a3, .ref a4, .ref a5])) :: (a1, .inr (3, [.ref a6, .int tn])) :: (a6, .inl (y 1, 120, .inl tf)) :: (a2, soF a7 a8 r) :: (a7, soV y r) :: (a8, soW y r) :: (a3, soF a9 a10 rc) :: (a9, soV y rc) :: (a10, soW y rc) :: (a4, .inr (0, [.ref a11, .int u10.2.1, .int u10.2.2])) :: (a11, .inl (y 3, 14, .inr (.inr (.inr (.inr (gRf ga11 u10.1)))))) :: (a5, .inr (1, [.ref a12, .ref a13])) :: (a12, .inl (y 3, 2, .inr (.inr (.inr (.inr (gRf gb12 lq)))))) :: (a13, .inl (y 2, 2, .inl lfl)) :: gTail y ga11 gb12 u10.1 lq) := hD
    obtain ⟨T13, hT13⟩ : ∃ T : va_W, gTail y ga11 gb12 u10.1 lq = T := ⟨_, rfl⟩
    rw [hT13] at hP hD
    refine lv_aload_n hx hb dX5_all_32 rfl (lv_at hl 0 rfl) ?_
    refine va_get (D := D) (ci := 4) (v := .ref a2) (C := RX5) (T := TX5) (N := 5) hx hb hts hi5 hown hE.1 hP 0 rfl rfl 1 (by decide) w_2 (fun _ h9 => h9) rfl dX5_all_33 ?_
    refine lv_iload_n hx hb dX5_all_36 rfl (lv_at hl 1 rfl) ?_
    refine lv_aload_n hx hb dX5_all_37 rfl (lv_at hl 0 rfl) ?_
    refine va_get (D := D) (ci := 4) (v := .ref a2) (C := RX5) (T := TX5) (N := 5) hx hb hts hi5 hown hE.1 hP 0 rfl rfl 1 (by decide) w_2 (fun _ h9 => h9) rfl dX5_all_38 ?_
    refine va_get (D := D) (ci := 2) (v := .int (r 0)) (C := RX3) (T := TX3) (N := 15) hx hb hts hi3 hown hE.1 hP 3 rfl rfl 0 (by decide) w_3 (fun _ h9 => h9) rfl dX5_all_41 ?_
    refine lv_imul hx hb dX5_all_44 ?_
    refine xw_calli (va_runV (As := [.int (p0 * (r 0))]) (rest := []) ⟨hx, hb, hml, hown, hts⟩ (c_X3_writeInTurn l D y a2 a7 a8 H.size r (p0 * (r 0)) ho) (cwV 1 hts gX5_all_X3_writeInTurn rfl rfl rfl hd_X3_writeInTurn ⟨Nat.le_of_ble_eq_true rfl, Nat.le_of_ble_eq_true rfl⟩) (gV (q := (RX3, TX3, 15)) hE (hP.sub [3, 4, 5] rfl) (hD.sub [3, 4, 5] (by decide) rfl) 0 rfl rfl) rfl rfl hl.1 rfl (lv_room (Nat.le_of_ble_eq_true rfl)) dX5_all_45 ⟨Nat.le_of_ble_eq_true rfl, Nat.le_of_ble_eq_true rfl⟩) hP hD hS hA [3, 4, 5] rfl (by decide) (fun _ => rfl) (fun v16 u15 H locs h14 hP hD hS => ?_)
    obtain ⟨q17, eq17⟩ : ∃ z : Int32 × gR, f_X3_writeInTurn r (p0 * (r 0)) = z := ⟨_, rfl⟩
    obtain ⟨rfl, rfl⟩ : q17.1 = v16 ∧ q17.2 = u15 := ⟨by rw [← eq17, h14], by rw [← eq17, h14]⟩
    have hF := hF.trans (gLet_e eq17)
    have hP : va_P D vwCl ((a0, .inr (4, [.ref a1, .ref a2, .ref a3, .ref a4, .ref a5])) :: (a1, .inr (3, [.ref a6, .int tn])) :: (a6, .inl (y 1, 120, .inl tf)) :: (a2, soF a7 a8 q17.2) :: (a7, soV y q17.2) :: (a8, soW y q17.2) :: (a3, soF a9 a10 rc) :: (a9, soV y rc) :: (a10, soW y rc) :: (a4, .inr (0, [.ref a11, .int u10.2.1, .int u10.2.2])) :: (a11, .inl (y 3, 14, .inr (.inr (.inr (.inr (gRf ga11 u10.1)))))) :: (a5, .inr (1, [.ref a12, .ref a13])) :: (a12, .inl (y 3, 2, .inr (.inr (.inr (.inr (gRf gb12 lq)))))) :: (a13, .inl (y 2, 2, .inl lfl)) :: T13) H := hP
    have hD : va_D A ((a0, .inr (4, [.ref a1, .ref a2, .ref a3, .ref a4, .ref a5])) :: (a1, .inr (3, [.ref a6, .int tn])) :: (a6, .inl (y 1, 120, .inl tf)) :: (a2, soF a7 a8 q17.2) :: (a7, soV y q17.2) :: (a8, soW y q17.2) :: (a3, soF a9 a10 rc) :: (a9, soV y rc) :: (a10, soW y rc) :: (a4, .inr (0, [.ref a11, .int u10.2.1, .int u10.2.2])) :: (a11, .inl (y 3, 14, .inr (.inr (.inr (.inr (gRf ga11 u10.1)))))) :: (a5, .inr (1, [.ref a12, .ref a13])) :: (a12, .inl (y 3, 2, .inr (.inr (.inr (.inr (gRf gb12 lq)))))) :: (a13, .inl (y 2, 2, .inl lfl)) :: T13) := hD
    refine W.widen (k := 5) (n := 92) (Nat.le_of_ble_eq_true rfl) (Nat.le_of_ble_eq_true rfl) ?_
    refine vx_ret ?_
    rw [← hT13] at hP hD
    exact W.iret (v := q17.1) hx hb hr (fun t ht hW => ⟨⟨q17.1, ⟨q17.2, u10.1, u10.2.1, u10.2.2⟩, rfl, hF, ⟨ga11, gb12, by rw [ht]; exact hP, hD⟩⟩, hS.F ht⟩) hS.2.2 dX5_all_48
  · have hF := hF.trans (if_pos c_3)
    obtain ⟨sa18, hsa18⟩ := hXE.2 _ (List.mem_of_getElem? (i := 8) rfl)
    rw [← hT] at hP hD
    exact vx_throwS (names := xN) hx hb hst hown (by decide +kernel) (by decide +kernel) w_5 w_6 hsa18 (vx_hat (fun w hw => hts w (List.mem_cons_of_mem _ (List.mem_append_left _ (List.mem_append_right _ hw)))) x_bad44 (xE_bad hXE hXE.1.1.1)) x_good44 hXZ.1 hXZ.2 hS (hml.trans hl.1.symm).symm dX5_all_7 dX5_all_10 dX5_all_11 dX5_all_13 dX5_all_16 (fun x hx => (htab x hx).elim) (Nat.le_of_ble_eq_true rfl) (Nat.le_of_ble_eq_true rfl) (Nat.le_of_ble_eq_true rfl) (Nat.le_of_ble_eq_true rfl) hlocks (fun t hvm hz hk => ⟨⟨r, hq, qz, qn⟩, trivial, ⟨⟨by rw [xc_IA]; exact hF, by rw [xc_IA]; decide⟩, ⟨ga, gb, x_grow hP hk, hD⟩⟩, x_F hS hz hk⟩) hS.2.2 (Nat.le_of_ble_eq_true rfl) (Nat.le_of_ble_eq_true rfl)

def f_X5_set (tn : Int32) (tf : Nat → Int32) (r : gR) (rc : gR) (qz : Int32) (qn : Int32) (hq : Nat → Option gR) (lq : Nat → Option gR) (lfl : Nat → Int32) (p0 : Int32) (p1 : Int32) : Nat × Int32 × gR × (Nat → Option gR) × Int32 × Int32 :=
    gLet (f_X5_isSettingValue p0 p1) (fun (v2 : Int32) =>
    if v2 = 0 then
      (1, 0, r, hq, qz, qn)
    else
      gLet (f_X0_remember r qz qn hq) (fun (u5 : (Nat → Option gR) × Int32 × Int32) =>
        gLet (f_X3_settingOf r p0) (fun (v10 : Int32) =>
          gLet (f_X3_changeSetting r p0 p1) (fun (u12 : gR) =>
            (0, v10, u12, u5.1, u5.2.1, u5.2.2)))))
theorem f_X5_set_s (tn : Int32) (tf : Nat → Int32) (r : gR) (rc : gR) (qz : Int32) (qn : Int32) (hq : Nat → Option gR) (lq : Nat → Option gR) (lfl : Nat → Int32) (p0 : Int32) (p1 : Int32) : f_X5_set tn tf r rc qz qn hq lq lfl p0 p1 =
    (gLet (f_X5_isSettingValue p0 p1) (fun (v2 : Int32) =>
    if v2 = 0 then
      (1, 0, r, hq, qz, qn)
    else
      gLet (f_X0_remember r qz qn hq) (fun (u5 : (Nat → Option gR) × Int32 × Int32) =>
        gLet (f_X3_settingOf r p0) (fun (v10 : Int32) =>
          gLet (f_X3_changeSetting r p0 p1) (fun (u12 : gR) =>
            (0, v10, u12, u5.1, u5.2.1, u5.2.2)))))) := rfl
theorem hd_X5_set : yX5_set.cls = RX5 ∧ yX5_set.cls ≠ "java/lang/invoke/MethodHandle" ∧ yX5_set.cls ≠ "java/lang/invoke/VarHandle" ∧ (parseMethodDescriptor yX5_set.desc).map (fun d => d.parameters.length) = some 2 := by decide +kernel
set_option maxHeartbeats 4000000 in
set_option maxRecDepth 100000 in
theorem c_X5_set (l : Launch) (hst : l.stackTraces = false) (D : va_G) (y : Nat → ClassId) (a0 a1 a2 a3 a4 a5 a6 a7 a8 a9 a10 a11 a12 a13 : Nat) (ga gb : Nat → Nat × Nat × Nat) (zh : Nat) (tn : Int32) (tf : Nat → Int32) (r : gR) (rc : gR) (qz : Int32) (qn : Int32) (hq : Nat → Option gR) (lq : Nat → Option gR) (lfl : Nat → Int32) (p0 : Int32) (p1 : Int32) (hh : 0 ≤ qn.toInt ∧ qn.toInt < (14 : Nat)) (ho : okC r) : vx_Met l yX5_set wsX5_set ({ frames := 6, cells := 5, slots := 92, locals := 82 }) (xP D y [.ref a0, .int p0, .int p1] zh ((a0, .inr (4, [.ref a1, .ref a2, .ref a3, .ref a4, .ref a5])) :: (a1, .inr (3, [.ref a6, .int tn])) :: (a6, .inl (y 1, 120, .inl tf)) :: (a2, soF a7 a8 r) :: (a7, soV y r) :: (a8, soW y r) :: (a3, soF a9 a10 rc) :: (a9, soV y rc) :: (a10, soW y rc) :: (a4, .inr (0, [.ref a11, .int qz, .int qn])) :: (a11, .inl (y 3, 14, .inr (.inr (.inr (.inr (gRf ga hq)))))) :: (a5, .inr (1, [.ref a12, .ref a13])) :: (a12, .inl (y 3, 2, .inr (.inr (.inr (.inr (gRf gb lq)))))) :: (a13, .inl (y 2, 2, .inl lfl)) :: gTail y ga gb hq lq)) (va_Qi (fun (v : Int32) (u : gR × (Nat → Option gR) × Int32 × Int32) => f_X5_set tn tf r rc qz qn hq lq lfl p0 p1 = (0, v, u)) (fun (u : gR × (Nat → Option gR) × Int32 × Int32) t => ∃ (g1 g2 : Nat → Nat × Nat × Nat), va_P D vwCl ((a0, .inr (4, [.ref a1, .ref a2, .ref a3, .ref a4, .ref a5])) :: (a1, .inr (3, [.ref a6, .int tn])) :: (a6, .inl (y 1, 120, .inl tf)) :: (a2, soF a7 a8 u.1) :: (a7, soV y u.1) :: (a8, soW y u.1) :: (a3, soF a9 a10 rc) :: (a9, soV y rc) :: (a10, soW y rc) :: (a4, .inr (0, [.ref a11, .int u.2.2.1, .int u.2.2.2])) :: (a11, .inl (y 3, 14, .inr (.inr (.inr (.inr (gRf g1 u.2.1)))))) :: (a5, .inr (1, [.ref a12, .ref a13])) :: (a12, .inl (y 3, 2, .inr (.inr (.inr (.inr (gRf g2 lq)))))) :: (a13, .inl (y 2, 2, .inl lfl)) :: gTail y g1 g2 u.2.1 lq) t.heap ∧ va_D (va_A ((a0, .inr (4, [.ref a1, .ref a2, .ref a3, .ref a4, .ref a5])) :: (a1, .inr (3, [.ref a6, .int tn])) :: (a6, .inl (y 1, 120, .inl tf)) :: (a2, soF a7 a8 r) :: (a7, soV y r) :: (a8, soW y r) :: (a3, soF a9 a10 rc) :: (a9, soV y rc) :: (a10, soW y rc) :: (a4, .inr (0, [.ref a11, .int qz, .int qn])) :: (a11, .inl (y 3, 14, .inr (.inr (.inr (.inr (gRf ga hq)))))) :: (a5, .inr (1, [.ref a12, .ref a13])) :: (a12, .inl (y 3, 2, .inr (.inr (.inr (.inr (gRf gb lq)))))) :: (a13, .inl (y 2, 2, .inl lfl)) :: gTail y ga gb hq lq) zh) ((a0, .inr (4, [.ref a1, .ref a2, .ref a3, .ref a4, .ref a5])) :: (a1, .inr (3, [.ref a6, .int tn])) :: (a6, .inl (y 1, 120, .inl tf)) :: (a2, soF a7 a8 u.1) :: (a7, soV y u.1) :: (a8, soW y u.1) :: (a3, soF a9 a10 rc) :: (a9, soV y rc) :: (a10, soW y rc) :: (a4, .inr (0, [.ref a11, .int u.2.2.1, .int u.2.2.2])) :: (a11, .inl (y 3, 14, .inr (.inr (.inr (.inr (gRf g1 u.2.1)))))) :: (a5, .inr (1, [.ref a12, .ref a13])) :: (a12, .inl (y 3, 2, .inr (.inr (.inr (.inr (gRf g2 lq)))))) :: (a13, .inl (y 2, 2, .inl lfl)) :: gTail y g1 g2 u.2.1 lq)) (va_A ((a0, .inr (4, [.ref a1, .ref a2, .ref a3, .ref a4, .ref a5])) :: (a1, .inr (3, [.ref a6, .int tn])) :: (a6, .inl (y 1, 120, .inl tf)) :: (a2, soF a7 a8 r) :: (a7, soV y r) :: (a8, soW y r) :: (a3, soF a9 a10 rc) :: (a9, soV y rc) :: (a10, soW y rc) :: (a4, .inr (0, [.ref a11, .int qz, .int qn])) :: (a11, .inl (y 3, 14, .inr (.inr (.inr (.inr (gRf ga hq)))))) :: (a5, .inr (1, [.ref a12, .ref a13])) :: (a12, .inl (y 3, 2, .inr (.inr (.inr (.inr (gRf gb lq)))))) :: (a13, .inl (y 2, 2, .inl lfl)) :: gTail y ga gb hq lq) zh)) (vx_X (fun _ : gR × (Nat → Option gR) × Int32 × Int32 => True) (fun (E : String) (u : gR × (Nat → Option gR) × Int32 × Int32) t => (f_X5_set tn tf r rc qz qn hq lq lfl p0 p1 = (xc E, 0, u) ∧ xc E ≠ 0) ∧ (∃ (g1 g2 : Nat → Nat × Nat × Nat), va_P D vwCl ((a0, .inr (4, [.ref a1, .ref a2, .ref a3, .ref a4, .ref a5])) :: (a1, .inr (3, [.ref a6, .int tn])) :: (a6, .inl (y 1, 120, .inl tf)) :: (a2, soF a7 a8 u.1) :: (a7, soV y u.1) :: (a8, soW y u.1) :: (a3, soF a9 a10 rc) :: (a9, soV y rc) :: (a10, soW y rc) :: (a4, .inr (0, [.ref a11, .int u.2.2.1, .int u.2.2.2])) :: (a11, .inl (y 3, 14, .inr (.inr (.inr (.inr (gRf g1 u.2.1)))))) :: (a5, .inr (1, [.ref a12, .ref a13])) :: (a12, .inl (y 3, 2, .inr (.inr (.inr (.inr (gRf g2 lq)))))) :: (a13, .inl (y 2, 2, .inl lfl)) :: gTail y g1 g2 u.2.1 lq) t.heap ∧ va_D (va_A ((a0, .inr (4, [.ref a1, .ref a2, .ref a3, .ref a4, .ref a5])) :: (a1, .inr (3, [.ref a6, .int tn])) :: (a6, .inl (y 1, 120, .inl tf)) :: (a2, soF a7 a8 r) :: (a7, soV y r) :: (a8, soW y r) :: (a3, soF a9 a10 rc) :: (a9, soV y rc) :: (a10, soW y rc) :: (a4, .inr (0, [.ref a11, .int qz, .int qn])) :: (a11, .inl (y 3, 14, .inr (.inr (.inr (.inr (gRf ga hq)))))) :: (a5, .inr (1, [.ref a12, .ref a13])) :: (a12, .inl (y 3, 2, .inr (.inr (.inr (.inr (gRf gb lq)))))) :: (a13, .inl (y 2, 2, .inl lfl)) :: gTail y ga gb hq lq) zh) ((a0, .inr (4, [.ref a1, .ref a2, .ref a3, .ref a4, .ref a5])) :: (a1, .inr (3, [.ref a6, .int tn])) :: (a6, .inl (y 1, 120, .inl tf)) :: (a2, soF a7 a8 u.1) :: (a7, soV y u.1) :: (a8, soW y u.1) :: (a3, soF a9 a10 rc) :: (a9, soV y rc) :: (a10, soW y rc) :: (a4, .inr (0, [.ref a11, .int u.2.2.1, .int u.2.2.2])) :: (a11, .inl (y 3, 14, .inr (.inr (.inr (.inr (gRf g1 u.2.1)))))) :: (a5, .inr (1, [.ref a12, .ref a13])) :: (a12, .inl (y 3, 2, .inr (.inr (.inr (.inr (gRf g2 lq)))))) :: (a13, .inl (y 2, 2, .inl lfl)) :: gTail y g1 g2 u.2.1 lq))) (va_A ((a0, .inr (4, [.ref a1, .ref a2, .ref a3, .ref a4, .ref a5])) :: (a1, .inr (3, [.ref a6, .int tn])) :: (a6, .inl (y 1, 120, .inl tf)) :: (a2, soF a7 a8 r) :: (a7, soV y r) :: (a8, soW y r) :: (a3, soF a9 a10 rc) :: (a9, soV y rc) :: (a10, soW y rc) :: (a4, .inr (0, [.ref a11, .int qz, .int qn])) :: (a11, .inl (y 3, 14, .inr (.inr (.inr (.inr (gRf ga hq)))))) :: (a5, .inr (1, [.ref a12, .ref a13])) :: (a12, .inl (y 3, 2, .inr (.inr (.inr (.inr (gRf gb lq)))))) :: (a13, .inl (y 2, 2, .inl lfl)) :: gTail y ga gb hq lq) zh)) 5 92 (va_A ((a0, .inr (4, [.ref a1, .ref a2, .ref a3, .ref a4, .ref a5])) :: (a1, .inr (3, [.ref a6, .int tn])) :: (a6, .inl (y 1, 120, .inl tf)) :: (a2, soF a7 a8 r) :: (a7, soV y r) :: (a8, soW y r) :: (a3, soF a9 a10 rc) :: (a9, soV y rc) :: (a10, soW y rc) :: (a4, .inr (0, [.ref a11, .int qz, .int qn])) :: (a11, .inl (y 3, 14, .inr (.inr (.inr (.inr (gRf ga hq)))))) :: (a5, .inr (1, [.ref a12, .ref a13])) :: (a12, .inl (y 3, 2, .inr (.inr (.inr (.inr (gRf gb lq)))))) :: (a13, .inl (y 2, 2, .inl lfl)) :: gTail y ga gb hq lq) zh) := by
  refine vx_ofW (cc := cX5_set) (maxL := 4) (ret := (some .int)) (by decide) rfl ?_
  intro p e s m args below meth c s₁ B hml htab hv
  obtain ⟨⟨rfl, hsz, hP, hE, hD⟩, hXE, hXZ⟩ := hv
  have hx := B.exec
  have hb := B.bytes
  have hr := B.returns
  have hts := atoms_spec (ws := wsX5_set) B.pre
  have hown : s.vm.findClass RX5 = some m.cls := findClass_of_methodNamed B.named
  have hlocks := B.notSynchronized
  have w_0 := hts (.fieldLink RX5 29 "GapLines" "history" "LGapLines$History;") (List.mem_cons_of_mem _ (List.mem_append_left _ (List.mem_append_left _ (List.mem_append_left _ (List.mem_append_left _ (List.mem_append_left _ (List.mem_of_getElem? (i := 2) rfl)))))))
  have hi5 : ∀ w ∈ u_ws RX5 TX5 5, w ∈ wsX5_set := fun w h => (List.mem_cons_of_mem _ (List.mem_append_left _ (List.mem_append_left _ (List.mem_append_left _ (List.mem_append_right _ h)))))
  have w_2 := hts (.fieldLink RX5 19 "GapLines" "state" "LGapLines$State;") (List.mem_cons_of_mem _ (List.mem_append_left _ (List.mem_append_left _ (List.mem_append_left _ (List.mem_append_left _ (List.mem_append_left _ (List.mem_of_getElem? (i := 3) rfl)))))))
  have w_3 := hts (.classLink RX5 40 "java/lang/IllegalArgumentException") (List.mem_cons_of_mem _ (List.mem_append_left _ (List.mem_append_left _ (List.mem_append_left _ (List.mem_append_left _ (List.mem_append_left _ (List.mem_of_getElem? (i := 0) rfl)))))))
  have w_4 := hts (.initialized "java/lang/IllegalArgumentException") (List.mem_cons_of_mem _ (List.mem_append_left _ (List.mem_append_left _ (List.mem_append_left _ (List.mem_append_left _ (List.mem_append_left _ (List.mem_of_getElem? (i := 1) rfl)))))))
  subst hsz
  have hD := hD.self (sz := s.heap.size)
  generalize hAe : va_A ((a0, .inr (4, [.ref a1, .ref a2, .ref a3, .ref a4, .ref a5])) :: (a1, .inr (3, [.ref a6, .int tn])) :: (a6, .inl (y 1, 120, .inl tf)) :: (a2, soF a7 a8 r) :: (a7, soV y r) :: (a8, soW y r) :: (a3, soF a9 a10 rc) :: (a9, soV y rc) :: (a10, soW y rc) :: (a4, .inr (0, [.ref a11, .int qz, .int qn])) :: (a11, .inl (y 3, 14, .inr (.inr (.inr (.inr (gRf ga hq)))))) :: (a5, .inr (1, [.ref a12, .ref a13])) :: (a12, .inl (y 3, 2, .inr (.inr (.inr (.inr (gRf gb lq)))))) :: (a13, .inl (y 2, 2, .inl lfl)) :: gTail y ga gb hq lq) s.heap.size = A at hD hXZ ⊢
  have hA : ∀ q : Nat, s.heap.size ≤ q → A q := fun q h => by rw [← hAe]; exact Or.inr h
  have hS : va_S A s.heap s.heap [] := va_S.rf
  have hl := lv_entry ([.ref a0, .int p0, .int p1]) (n := 4) (Nat.le_of_ble_eq_true rfl)
  rw [lg_entry_eq]
  generalize (lg_sl ([.ref a0, .int p0, .int p1]) ++ List.replicate (4 - (lg_sl ([.ref a0, .int p0, .int p1])).length) Slot.unset).toArray = ls at hl ⊢
  have hl : lv_has ls 4 [(0, .ref a0), (1, .int p0), (2, .int p1)] := hl
  have hF := f_X5_set_s tn tf r rc qz qn hq lq lfl p0 p1
  obtain ⟨T, hT⟩ : ∃ T : va_W, gTail y ga gb hq lq = T := ⟨_, rfl⟩
  rw [hT] at hP hD
  refine lv_iload_n hx hb dX5_set_0 rfl (lv_at hl 1 rfl) ?_
  refine lv_iload_n hx hb dX5_set_1 rfl (lv_at hl 2 rfl) ?_
  refine xs_calli (va_runS (As := [.int p0, .int p1]) (rest := []) ⟨hx, hb, hml, hown, hts⟩ (c_X5_isSettingValue l D y s.heap.size p0 p1) (va_cwS 2 hts gX5_set_X5_isSettingValue rfl rfl rfl hd_X5_isSettingValue ⟨Nat.le_of_ble_eq_true rfl, Nat.le_of_ble_eq_true rfl⟩) (gS hE (hP.sub [] rfl) (hD.sub [] (by decide) rfl)) rfl rfl hl.1 rfl (lv_room (Nat.le_of_ble_eq_true rfl)) dX5_set_2 ⟨Nat.le_of_ble_eq_true rfl, Nat.le_of_ble_eq_true rfl⟩) (fun v2 h1 => ?_)
  have hF := hF.trans (gLet_e h1)
  refine lv_if_ne (tgt := 18) hx hb dX5_set_5 (by decide) (fun c_3 => ?_) (fun c_3 => ?_)
  · have hF := hF.trans (if_neg c_3)
    refine lv_aload_n hx hb dX5_set_18 rfl (lv_at hl 0 rfl) ?_
    refine va_get (D := D) (ci := 4) (v := .ref a4) (C := RX5) (T := TX5) (N := 5) hx hb hts hi5 hown hE.1 hP 0 rfl rfl 3 (by decide) w_0 (fun _ h9 => h9) rfl dX5_set_19 ?_
    refine lv_aload_n hx hb dX5_set_22 rfl (lv_at hl 0 rfl) ?_
    refine va_get (D := D) (ci := 4) (v := .ref a2) (C := RX5) (T := TX5) (N := 5) hx hb hts hi5 hown hE.1 hP 0 rfl rfl 1 (by decide) w_2 (fun _ h9 => h9) rfl dX5_set_23 ?_
    rw [← hT] at hP hD
    refine xw_callEv (va_runV (As := [.ref a2]) (rest := []) ⟨hx, hb, hml, hown, hts⟩ (c_X0_remember l D y a0 a1 a2 a3 a4 a5 a6 a7 a8 a9 a10 a11 a12 a13 ga gb s.heap.size tn tf r rc qz qn hq lq lfl hh ho) (cwV 1 hts gX5_set_X0_remember rfl rfl rfl hd_X0_remember ⟨Nat.le_of_ble_eq_true rfl, Nat.le_of_ble_eq_true rfl⟩) (gV (q := (RX0, TX0, 3)) hE hP hD 9 rfl rfl) rfl rfl hl.1 rfl (lv_room (Nat.le_of_ble_eq_true rfl)) dX5_set_26 ⟨Nat.le_of_ble_eq_true rfl, Nat.le_of_ble_eq_true rfl⟩) hD hS hA (fun u5 ga6 gb7 H locs h4 hP hD hS => ?_)
    have hF := hF.trans (gLet_e h4)
    have hP : va_P D vwCl ((a0, .inr (4, [.ref a1, .ref a2, .ref a3, .ref a4, .ref a5])) :: (a1, .inr (3, [.ref a6, .int tn])) :: (a6, .inl (y 1, 120, .inl tf)) :: (a2, soF a7 a8 r) :: (a7, soV y r) :: (a8, soW y r) :: (a3, soF a9 a10 rc) :: (a9, soV y rc) :: (a10, soW y rc) :: (a4, .inr (0, [.ref a11, .int u5.2.1, .int u5.2.2])) :: (a11, .inl (y 3, 14, .inr (.inr (.inr (.inr (gRf ga6 u5.1)))))) :: (a5, .inr (1, [.ref a12, .ref a13])) :: (a12, .inl (y 3, 2, .inr (.inr (.inr (.inr (gRf gb7 lq)))))) :: (a13, .inl (y 2, 2, .inl lfl)) :: gTail y ga6 gb7 u5.1 lq) H := hP
    have hD : va_D A ((a0, .inr (4, [.ref a1, .ref a2, .ref a3, .ref a4, .ref a5])) :: (a1, .inr (3, [.ref a6, .int tn])) :: (a6, .inl (y 1, 120, .inl tf)) :: (a2, soF a7 a8 r) :: (a7, soV y r) :: (a8, soW y r) :: (a3, soF a9 a10 rc) :: (a9, soV y rc) :: (a10, soW y rc) :: (a4, .inr (0, [.ref a11, .int u5.2.1, .int u5.2.2])) :: (a11, .inl (y 3, 14, .inr (.inr (.inr (.inr (gRf ga6 u5.1)))))) :: (a5, .inr (1, [.ref a12, .ref a13])) :: (a12, .inl (y 3, 2, .inr (.inr (.inr (.inr (gRf gb7 lq)))))) :: (a13, .inl (y 2, 2, .inl lfl)) :: gTail y ga6 gb7 u5.1 lq) := hD
    obtain ⟨T8, hT8⟩ : ∃ T : va_W, gTail y ga6 gb7 u5.1 lq = T := ⟨_, rfl⟩
    rw [hT8] at hP hD
    refine lv_aload_n hx hb dX5_set_29 rfl (lv_at hl 0 rfl) ?_
    refine va_get (D := D) (ci := 4) (v := .ref a2) (C := RX5) (T := TX5) (N := 5) hx hb hts hi5 hown hE.1 hP 0 rfl rfl 1 (by decide) w_2 (fun _ h9 => h9) rfl dX5_set_30 ?_
    refine lv_iload_n hx hb dX5_set_33 rfl (lv_at hl 1 rfl) ?_
    refine xs_calli (va_runV (As := [.int p0]) (rest := []) ⟨hx, hb, hml, hown, hts⟩ (c_X3_settingOf l D y a2 a7 a8 H.size r p0) (cwV 1 hts gX5_set_X3_settingOf rfl rfl rfl hd_X3_settingOf ⟨Nat.le_of_ble_eq_true rfl, Nat.le_of_ble_eq_true rfl⟩) (gV (q := (RX3, TX3, 15)) hE (hP.sub [3, 4, 5] rfl) (hD.sub [3, 4, 5] (by decide) rfl) 0 rfl rfl) rfl rfl hl.1 rfl (lv_room (Nat.le_of_ble_eq_true rfl)) dX5_set_34 ⟨Nat.le_of_ble_eq_true rfl, Nat.le_of_ble_eq_true rfl⟩) (fun v10 h9 => ?_)
    have hF := hF.trans (gLet_e h9)
    refine lv_istore_n (lv' := [(3, .int v10), (0, .ref a0), (1, .int p0), (2, .int p1)]) hx hb dX5_set_37 rfl hl (by decide) rfl (fun ls hl => ?_)
    refine lv_aload_n hx hb dX5_set_38 rfl (lv_at hl 1 rfl) ?_
    refine va_get (D := D) (ci := 4) (v := .ref a2) (C := RX5) (T := TX5) (N := 5) hx hb hts hi5 hown hE.1 hP 0 rfl rfl 1 (by decide) w_2 (fun _ h9 => h9) rfl dX5_set_39 ?_
    refine lv_iload_n hx hb dX5_set_42 rfl (lv_at hl 2 rfl) ?_
    refine lv_iload_n hx hb dX5_set_43 rfl (lv_at hl 3 rfl) ?_
    refine xw_callv (va_runV (As := [.int p0, .int p1]) (rest := []) ⟨hx, hb, hml, hown, hts⟩ (c_X3_changeSetting l D y a2 a7 a8 H.size r p0 p1) (cwV 2 hts gX5_set_X3_changeSetting rfl rfl rfl hd_X3_changeSetting ⟨Nat.le_of_ble_eq_true rfl, Nat.le_of_ble_eq_true rfl⟩) (gV (q := (RX3, TX3, 15)) hE (hP.sub [3, 4, 5] rfl) (hD.sub [3, 4, 5] (by decide) rfl) 0 rfl rfl) rfl rfl hl.1 rfl (lv_room (Nat.le_of_ble_eq_true rfl)) dX5_set_44 ⟨Nat.le_of_ble_eq_true rfl, Nat.le_of_ble_eq_true rfl⟩) hP hD hS hA [3, 4, 5] rfl (by decide) (fun _ => rfl) (fun u12 H locs h11 hP hD hS => ?_)
    have hF := hF.trans (gLet_e h11)
    have hP : va_P D vwCl ((a0, .inr (4, [.ref a1, .ref a2, .ref a3, .ref a4, .ref a5])) :: (a1, .inr (3, [.ref a6, .int tn])) :: (a6, .inl (y 1, 120, .inl tf)) :: (a2, soF a7 a8 u12) :: (a7, soV y u12) :: (a8, soW y u12) :: (a3, soF a9 a10 rc) :: (a9, soV y rc) :: (a10, soW y rc) :: (a4, .inr (0, [.ref a11, .int u5.2.1, .int u5.2.2])) :: (a11, .inl (y 3, 14, .inr (.inr (.inr (.inr (gRf ga6 u5.1)))))) :: (a5, .inr (1, [.ref a12, .ref a13])) :: (a12, .inl (y 3, 2, .inr (.inr (.inr (.inr (gRf gb7 lq)))))) :: (a13, .inl (y 2, 2, .inl lfl)) :: T8) H := hP
    have hD : va_D A ((a0, .inr (4, [.ref a1, .ref a2, .ref a3, .ref a4, .ref a5])) :: (a1, .inr (3, [.ref a6, .int tn])) :: (a6, .inl (y 1, 120, .inl tf)) :: (a2, soF a7 a8 u12) :: (a7, soV y u12) :: (a8, soW y u12) :: (a3, soF a9 a10 rc) :: (a9, soV y rc) :: (a10, soW y rc) :: (a4, .inr (0, [.ref a11, .int u5.2.1, .int u5.2.2])) :: (a11, .inl (y 3, 14, .inr (.inr (.inr (.inr (gRf ga6 u5.1)))))) :: (a5, .inr (1, [.ref a12, .ref a13])) :: (a12, .inl (y 3, 2, .inr (.inr (.inr (.inr (gRf gb7 lq)))))) :: (a13, .inl (y 2, 2, .inl lfl)) :: T8) := hD
    refine lv_iload_n hx hb dX5_set_47 rfl (lv_at hl 0 rfl) ?_
    refine W.widen (k := 5) (n := 92) (Nat.le_of_ble_eq_true rfl) (Nat.le_of_ble_eq_true rfl) ?_
    refine vx_ret ?_
    rw [← hT8] at hP hD
    exact W.iret (v := v10) hx hb hr (fun t ht hW => ⟨⟨v10, ⟨u12, u5.1, u5.2.1, u5.2.2⟩, rfl, hF, ⟨ga6, gb7, by rw [ht]; exact hP, hD⟩⟩, hS.F ht⟩) hS.2.2 dX5_set_48
  · have hF := hF.trans (if_pos c_3)
    obtain ⟨sa13, hsa13⟩ := hXE.2 _ (List.mem_of_getElem? (i := 9) rfl)
    rw [← hT] at hP hD
    exact vx_throwS (names := xN) hx hb hst hown (by decide +kernel) (by decide +kernel) w_3 w_4 hsa13 (vx_hat (fun w hw => hts w (List.mem_cons_of_mem _ (List.mem_append_right _ hw))) x_bad44 (xE_bad hXE hXE.1.1.1)) x_good44 hXZ.1 hXZ.2 hS (hml.trans hl.1.symm).symm dX5_set_8 dX5_set_11 dX5_set_12 dX5_set_14 dX5_set_17 (fun x hx => (htab x hx).elim) (Nat.le_of_ble_eq_true rfl) (Nat.le_of_ble_eq_true rfl) (Nat.le_of_ble_eq_true rfl) (Nat.le_of_ble_eq_true rfl) hlocks (fun t hvm hz hk => ⟨⟨r, hq, qz, qn⟩, trivial, ⟨⟨by rw [xc_IA]; exact hF, by rw [xc_IA]; decide⟩, ⟨ga, gb, x_grow hP hk, hD⟩⟩, x_F hS hz hk⟩) hS.2.2 (Nat.le_of_ble_eq_true rfl) (Nat.le_of_ble_eq_true rfl)
