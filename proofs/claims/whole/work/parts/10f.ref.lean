def f_X6_life (rf : Int32) (sz : Int32) (ac : Int32) (sp : Int32) (ou : Int32) (tx : Nat → Int32) (nw : gR) (tr : gR) (dy : Nat → Int32) (kp : Nat → Int32) (ik : Nat → Int32) (p0 : Int32) : Int32 × Int32 × Int32 × Int32 × Int32 × Int32 × (Nat → Int32) × gR × gR × (Nat → Int32) × (Nat → Int32) × (Nat → Int32) :=
    gLet (f_X6_isLine nw p0) (fun (v2 : Int32) =>
    if v2 = 0 then
      (0, 1, sz, ac, sp, ou, tx, nw, tr, dy, kp, ik)
    else
      gLet (f_X6_copyState 78 nw 78 tr 0 0) (fun (u13 : (Nat → Int32)) =>
        gLet (f_X6_hammerOn u13 p0 2000) (fun (q17 : Int32 × gR) =>
          (q17.1, 0, sz, ac, sp, ou, tx, nw, q17.2, dy, kp, ik))))
theorem f_X6_life_s (rf : Int32) (sz : Int32) (ac : Int32) (sp : Int32) (ou : Int32) (tx : Nat → Int32) (nw : gR) (tr : gR) (dy : Nat → Int32) (kp : Nat → Int32) (ik : Nat → Int32) (p0 : Int32) : f_X6_life rf sz ac sp ou tx nw tr dy kp ik p0 =
    (gLet (f_X6_isLine nw p0) (fun (v2 : Int32) =>
    if v2 = 0 then
      (0, 1, sz, ac, sp, ou, tx, nw, tr, dy, kp, ik)
    else
      gLet (f_X6_copyState 78 nw 78 tr 0 0) (fun (u13 : (Nat → Int32)) =>
        gLet (f_X6_hammerOn u13 p0 2000) (fun (q17 : Int32 × gR) =>
          (q17.1, 0, sz, ac, sp, ou, tx, nw, q17.2, dy, kp, ik))))) := rfl
theorem hd_X6_life : yX6_life.cls = RX6 ∧ yX6_life.cls ≠ "java/lang/invoke/MethodHandle" ∧ yX6_life.cls ≠ "java/lang/invoke/VarHandle" ∧ (parseMethodDescriptor yX6_life.desc).map (fun d => d.parameters.length) = some 1 := by decide +kernel
set_option maxHeartbeats 4000000 in
set_option maxRecDepth 100000 in
theorem c_X6_life (l : Launch) (D : va_G) (y : Nat → ClassId) (a0 a1 a2 a3 a4 a5 a6 : Nat) (zh : Nat) (rf : Int32) (sz : Int32) (ac : Int32) (sp : Int32) (ou : Int32) (tx : Nat → Int32) (nw : gR) (tr : gR) (dy : Nat → Int32) (kp : Nat → Int32) (ik : Nat → Int32) (p0 : Int32) (hm : okMd sz ac nw) : Met l yX6_life wsX6_life ({ frames := 4, cells := 0, slots := 0, locals := 91 }) (gP D y [.ref a0, .int p0] zh [(a0, .inr (5, [.int rf, .ref a1, .int sz, .ref a2, .ref a3, .ref a4, .int ac, .ref a5, .ref a6, .int sp, .int ou])), (a1, .inl (y 0, 120, .inl tx)), (a2, .inl (y 0, 78, .inl nw)), (a3, .inl (y 0, 78, .inl tr)), (a4, .inl (y 0, 1092, .inl dy)), (a5, .inl (y 0, 156, .inl kp)), (a6, .inl (y 2, 2, .inl ik))]) (va_Qi (fun (v : Int32) (u : Int32 × Int32 × Int32 × Int32 × Int32 × (Nat → Int32) × gR × gR × (Nat → Int32) × (Nat → Int32) × (Nat → Int32)) => f_X6_life rf sz ac sp ou tx nw tr dy kp ik p0 = (v, u)) (fun (u : Int32 × Int32 × Int32 × Int32 × Int32 × (Nat → Int32) × gR × gR × (Nat → Int32) × (Nat → Int32) × (Nat → Int32)) t => va_P D vwCl [(a0, .inr (5, [.int u.1, .ref a1, .int u.2.1, .ref a2, .ref a3, .ref a4, .int u.2.2.1, .ref a5, .ref a6, .int u.2.2.2.1, .int u.2.2.2.2.1])), (a1, .inl (y 0, 120, .inl u.2.2.2.2.2.1)), (a2, .inl (y 0, 78, .inl u.2.2.2.2.2.2.1)), (a3, .inl (y 0, 78, .inl u.2.2.2.2.2.2.2.1)), (a4, .inl (y 0, 1092, .inl u.2.2.2.2.2.2.2.2.1)), (a5, .inl (y 0, 156, .inl u.2.2.2.2.2.2.2.2.2.1)), (a6, .inl (y 2, 2, .inl u.2.2.2.2.2.2.2.2.2.2))] t.heap ∧ va_D (va_A [(a0, .inr (5, [.int rf, .ref a1, .int sz, .ref a2, .ref a3, .ref a4, .int ac, .ref a5, .ref a6, .int sp, .int ou])), (a1, .inl (y 0, 120, .inl tx)), (a2, .inl (y 0, 78, .inl nw)), (a3, .inl (y 0, 78, .inl tr)), (a4, .inl (y 0, 1092, .inl dy)), (a5, .inl (y 0, 156, .inl kp)), (a6, .inl (y 2, 2, .inl ik))] zh) [(a0, .inr (5, [.int u.1, .ref a1, .int u.2.1, .ref a2, .ref a3, .ref a4, .int u.2.2.1, .ref a5, .ref a6, .int u.2.2.2.1, .int u.2.2.2.2.1])), (a1, .inl (y 0, 120, .inl u.2.2.2.2.2.1)), (a2, .inl (y 0, 78, .inl u.2.2.2.2.2.2.1)), (a3, .inl (y 0, 78, .inl u.2.2.2.2.2.2.2.1)), (a4, .inl (y 0, 1092, .inl u.2.2.2.2.2.2.2.2.1)), (a5, .inl (y 0, 156, .inl u.2.2.2.2.2.2.2.2.2.1)), (a6, .inl (y 2, 2, .inl u.2.2.2.2.2.2.2.2.2.2))]) (va_A [(a0, .inr (5, [.int rf, .ref a1, .int sz, .ref a2, .ref a3, .ref a4, .int ac, .ref a5, .ref a6, .int sp, .int ou])), (a1, .inl (y 0, 120, .inl tx)), (a2, .inl (y 0, 78, .inl nw)), (a3, .inl (y 0, 78, .inl tr)), (a4, .inl (y 0, 1092, .inl dy)), (a5, .inl (y 0, 156, .inl kp)), (a6, .inl (y 2, 2, .inl ik))] zh)) 0 0 (va_A [(a0, .inr (5, [.int rf, .ref a1, .int sz, .ref a2, .ref a3, .ref a4, .int ac, .ref a5, .ref a6, .int sp, .int ou])), (a1, .inl (y 0, 120, .inl tx)), (a2, .inl (y 0, 78, .inl nw)), (a3, .inl (y 0, 78, .inl tr)), (a4, .inl (y 0, 1092, .inl dy)), (a5, .inl (y 0, 156, .inl kp)), (a6, .inl (y 2, 2, .inl ik))] zh) := by
  refine Met.ofW (cc := cX6_life) (maxL := 2) (ret := (some .int)) (by decide) rfl ?_
  intro p e s m args below meth c s₁ B hml hv
  obtain ⟨rfl, hsz, hP, hE, hD⟩ := hv
  have hx := B.exec
  have hb := B.bytes
  have hr := B.returns
  have hts := atoms_spec (ws := wsX6_life) B.pre
  have hown : s.vm.findClass RX6 = some m.cls := findClass_of_methodNamed B.named
  have hlocks := B.notSynchronized
  have w_0 := hts (.fieldLink RX6 13 "GapLinesModel" "now" "[I") (List.mem_cons_of_mem _ (List.mem_append_left _ (List.mem_append_left _ (List.mem_of_getElem? (i := 0) rfl))))
  have hi6 : ∀ w ∈ u_ws RX6 TX6 11, w ∈ wsX6_life := fun w h => (List.mem_cons_of_mem _ (List.mem_append_right _ h))
  have w_2 := hts (.fieldLink RX6 16 "GapLinesModel" "trial" "[I") (List.mem_cons_of_mem _ (List.mem_append_left _ (List.mem_append_left _ (List.mem_of_getElem? (i := 1) rfl))))
  subst hsz
  have hD := hD.self (sz := s.heap.size)
  generalize hAe : va_A [(a0, .inr (5, [.int rf, .ref a1, .int sz, .ref a2, .ref a3, .ref a4, .int ac, .ref a5, .ref a6, .int sp, .int ou])), (a1, .inl (y 0, 120, .inl tx)), (a2, .inl (y 0, 78, .inl nw)), (a3, .inl (y 0, 78, .inl tr)), (a4, .inl (y 0, 1092, .inl dy)), (a5, .inl (y 0, 156, .inl kp)), (a6, .inl (y 2, 2, .inl ik))] s.heap.size = A at hD ⊢
  have hA : ∀ q : Nat, s.heap.size ≤ q → A q := fun q h => by rw [← hAe]; exact Or.inr h
  have hS : va_S A s.heap s.heap [] := va_S.rf
  have hl := lv_entry ([.ref a0, .int p0]) (n := 2) (Nat.le_of_ble_eq_true rfl)
  rw [lg_entry_eq]
  generalize (lg_sl ([.ref a0, .int p0]) ++ List.replicate (2 - (lg_sl ([.ref a0, .int p0])).length) Slot.unset).toArray = ls at hl ⊢
  have hl : lv_has ls 2 [(0, .ref a0), (1, .int p0)] := hl
  have hF := f_X6_life_s rf sz ac sp ou tx nw tr dy kp ik p0
  refine lv_aload_n hx hb dX6_life_0 rfl (lv_at hl 0 rfl) ?_
  refine lv_aload_n hx hb dX6_life_1 rfl (lv_at hl 0 rfl) ?_
  refine va_get (D := D) (ci := 5) (v := .ref a2) (C := RX6) (T := TX6) (N := 11) hx hb hts hi6 hown hE.1 hP 0 rfl rfl 3 (by decide) w_0 (fun _ h9 => h9) rfl dX6_life_2 ?_
  refine lv_iload_n hx hb dX6_life_5 rfl (lv_at hl 1 rfl) ?_
  refine xs_calli (va_runS (As := [.ref a2, .int p0]) (rest := [.ref a0]) ⟨hx, hb, hml, hown, hts⟩ (c_X6_isLine l D y a2 s.heap.size nw p0) (va_cwS 2 hts gX6_life_X6_isLine rfl rfl rfl hd_X6_isLine ⟨Nat.le_of_ble_eq_true rfl, Nat.le_of_ble_eq_true rfl⟩) (gS hE (hP.sub [2] rfl) (hD.sub [2] (by decide) rfl)) rfl rfl hl.1 rfl (lv_room (Nat.le_of_ble_eq_true rfl)) dX6_life_6 ⟨Nat.le_of_ble_eq_true rfl, Nat.le_of_ble_eq_true rfl⟩) (fun v2 h1 => ?_)
  have hF := hF.trans (gLet_e h1)
  refine lv_if_eq (tgt := 16) hx hb dX6_life_9 (by decide) (fun c_3 => ?_) (fun c_3 => ?_)
  · have hF := hF.trans (if_pos c_3)
    refine lv_iconst (v := 1) hx hb dX6_life_16 (by decide) ?_
    refine xw_calli (va_runV (As := [.int 1]) (rest := []) ⟨hx, hb, hml, hown, hts⟩ (c_X6_refused l D y a0 a1 a2 a3 a4 a5 a6 s.heap.size rf sz ac sp ou 1) (cwV 1 hts gX6_life_X6_refused rfl rfl rfl hd_X6_refused ⟨Nat.le_of_ble_eq_true rfl, Nat.le_of_ble_eq_true rfl⟩) (gV (q := (RX6, TX6, 11)) hE (hP.sub [0] rfl) (hD.sub [0] (by decide) rfl) 0 rfl rfl) rfl rfl hl.1 rfl (lv_room (Nat.le_of_ble_eq_true rfl)) dX6_life_17 ⟨Nat.le_of_ble_eq_true rfl, Nat.le_of_ble_eq_true rfl⟩) hP hD hS hA [0] rfl (by decide) (fun _ => rfl) (fun v6 u5 H locs h4 hP hD hS => ?_)
    have h4 := (rfd1 rf sz ac sp ou).symm.trans h4
    obtain ⟨rfl, rfl⟩ := Prod.mk.inj h4
    have hP : va_P D vwCl [(a0, .inr (5, [.int 1, .ref a1, .int sz, .ref a2, .ref a3, .ref a4, .int ac, .ref a5, .ref a6, .int sp, .int ou])), (a1, .inl (y 0, 120, .inl tx)), (a2, .inl (y 0, 78, .inl nw)), (a3, .inl (y 0, 78, .inl tr)), (a4, .inl (y 0, 1092, .inl dy)), (a5, .inl (y 0, 156, .inl kp)), (a6, .inl (y 2, 2, .inl ik))] H := hP
    have hD : va_D A [(a0, .inr (5, [.int 1, .ref a1, .int sz, .ref a2, .ref a3, .ref a4, .int ac, .ref a5, .ref a6, .int sp, .int ou])), (a1, .inl (y 0, 120, .inl tx)), (a2, .inl (y 0, 78, .inl nw)), (a3, .inl (y 0, 78, .inl tr)), (a4, .inl (y 0, 1092, .inl dy)), (a5, .inl (y 0, 156, .inl kp)), (a6, .inl (y 2, 2, .inl ik))] := hD
    refine lv_if_eq (tgt := 25) hx hb dX6_life_20 (by decide) (fun c_7 => absurd c_7 (by decide)) (fun c_7 => ?_)
    refine lv_iconst (v := 0) hx hb dX6_life_23 (by decide) ?_
    exact W.iret (v := 0) hx hb hr (fun t ht hW => ⟨⟨0, ⟨1, sz, ac, sp, ou, tx, nw, tr, dy, kp, ik⟩, rfl, hF, ⟨by rw [ht]; exact hP, hD⟩⟩, hS.F ht⟩) hS.2.2 dX6_life_24
  · have hF := hF.trans (if_neg c_3)
    refine lv_iconst (v := 0) hx hb dX6_life_12 (by decide) ?_
    refine lv_goto (tgt := 17) hx hb dX6_life_13 (by decide) ?_
    refine xw_calli (va_runV (As := [.int 0]) (rest := []) ⟨hx, hb, hml, hown, hts⟩ (c_X6_refused l D y a0 a1 a2 a3 a4 a5 a6 s.heap.size rf sz ac sp ou 0) (cwV 1 hts gX6_life_X6_refused rfl rfl rfl hd_X6_refused ⟨Nat.le_of_ble_eq_true rfl, Nat.le_of_ble_eq_true rfl⟩) (gV (q := (RX6, TX6, 11)) hE (hP.sub [0] rfl) (hD.sub [0] (by decide) rfl) 0 rfl rfl) rfl rfl hl.1 rfl (lv_room (Nat.le_of_ble_eq_true rfl)) dX6_life_17 ⟨Nat.le_of_ble_eq_true rfl, Nat.le_of_ble_eq_true rfl⟩) hP hD hS hA [0] rfl (by decide) (fun _ => rfl) (fun v10 u9 H locs h8 hP hD hS => ?_)
    have h8 := (rfd0 rf sz ac sp ou).symm.trans h8
    obtain ⟨rfl, rfl⟩ := Prod.mk.inj h8
    have hP : va_P D vwCl [(a0, .inr (5, [.int 0, .ref a1, .int sz, .ref a2, .ref a3, .ref a4, .int ac, .ref a5, .ref a6, .int sp, .int ou])), (a1, .inl (y 0, 120, .inl tx)), (a2, .inl (y 0, 78, .inl nw)), (a3, .inl (y 0, 78, .inl tr)), (a4, .inl (y 0, 1092, .inl dy)), (a5, .inl (y 0, 156, .inl kp)), (a6, .inl (y 2, 2, .inl ik))] H := hP
    have hD : va_D A [(a0, .inr (5, [.int 0, .ref a1, .int sz, .ref a2, .ref a3, .ref a4, .int ac, .ref a5, .ref a6, .int sp, .int ou])), (a1, .inl (y 0, 120, .inl tx)), (a2, .inl (y 0, 78, .inl nw)), (a3, .inl (y 0, 78, .inl tr)), (a4, .inl (y 0, 1092, .inl dy)), (a5, .inl (y 0, 156, .inl kp)), (a6, .inl (y 2, 2, .inl ik))] := hD
    refine lv_if_eq (tgt := 25) hx hb dX6_life_20 (by decide) (fun c_11 => ?_) (fun c_11 => absurd (by decide) c_11)
    refine lv_aload_n hx hb dX6_life_25 rfl (lv_at hl 0 rfl) ?_
    refine va_get (D := D) (ci := 5) (v := .ref a2) (C := RX6) (T := TX6) (N := 11) hx hb hts hi6 hown hE.1 hP 0 rfl rfl 3 (by decide) w_0 (fun _ h9 => h9) rfl dX6_life_26 ?_
    refine lv_iconst (v := 0) hx hb dX6_life_29 (by decide) ?_
    refine lv_aload_n hx hb dX6_life_30 rfl (lv_at hl 0 rfl) ?_
    refine va_get (D := D) (ci := 5) (v := .ref a3) (C := RX6) (T := TX6) (N := 11) hx hb hts hi6 hown hE.1 hP 0 rfl rfl 4 (by decide) w_2 (fun _ h9 => h9) rfl dX6_life_31 ?_
    refine lv_iconst (v := 0) hx hb dX6_life_34 (by decide) ?_
    refine xw_callv (va_runS (As := [.ref a2, .int 0, .ref a3, .int 0]) (rest := []) ⟨hx, hb, hml, hown, hts⟩ (c_X6_copyState l D y a2 a3 H.size 78 nw 78 tr 0 0 okA0 okA0) (va_cwS 4 hts gX6_life_X6_copyState rfl rfl rfl hd_X6_copyState ⟨Nat.le_of_ble_eq_true rfl, Nat.le_of_ble_eq_true rfl⟩) (gS hE (hP.sub [2, 3] rfl) (hD.sub [2, 3] (by decide) rfl)) rfl rfl hl.1 rfl (lv_room (Nat.le_of_ble_eq_true rfl)) dX6_life_35 ⟨Nat.le_of_ble_eq_true rfl, Nat.le_of_ble_eq_true rfl⟩) hP hD hS hA [2, 3] rfl (by decide) (fun _ => rfl) (fun u13 H locs h12 hP hD hS => ?_)
    have hF := hF.trans (gLet_e h12)
    have hP : va_P D vwCl [(a0, .inr (5, [.int 0, .ref a1, .int sz, .ref a2, .ref a3, .ref a4, .int ac, .ref a5, .ref a6, .int sp, .int ou])), (a1, .inl (y 0, 120, .inl tx)), (a2, .inl (y 0, 78, .inl nw)), (a3, .inl (y 0, 78, .inl u13)), (a4, .inl (y 0, 1092, .inl dy)), (a5, .inl (y 0, 156, .inl kp)), (a6, .inl (y 2, 2, .inl ik))] H := hP
    have hD : va_D A [(a0, .inr (5, [.int 0, .ref a1, .int sz, .ref a2, .ref a3, .ref a4, .int ac, .ref a5, .ref a6, .int sp, .int ou])), (a1, .inl (y 0, 120, .inl tx)), (a2, .inl (y 0, 78, .inl nw)), (a3, .inl (y 0, 78, .inl u13)), (a4, .inl (y 0, 1092, .inl dy)), (a5, .inl (y 0, 156, .inl kp)), (a6, .inl (y 2, 2, .inl ik))] := hD
    refine lv_aload_n hx hb dX6_life_38 rfl (lv_at hl 0 rfl) ?_
    refine va_get (D := D) (ci := 5) (v := .ref a3) (C := RX6) (T := TX6) (N := 11) hx hb hts hi6 hown hE.1 hP 0 rfl rfl 4 (by decide) w_2 (fun _ h9 => h9) rfl dX6_life_39 ?_
    refine lv_iload_n hx hb dX6_life_42 rfl (lv_at hl 1 rfl) ?_
    refine lv_sipush (v := 2000) hx hb dX6_life_43 (by decide) ?_
    refine xw_calli (va_runS (As := [.ref a3, .int p0, .int 2000]) (rest := []) ⟨hx, hb, hml, hown, hts⟩ (c_X6_hammerOn l D y a3 H.size u13 p0 2000 (by rw [← h12]; exact cp_okM _ (okM_of hm.2.2 (il_okL (r := nw) (l := p0) h1 (by assumption) hm.2.2.1))) (by rw [← h12]; exact cp_okL _ (il_okL (r := nw) (l := p0) h1 (by assumption) hm.2.2.1))) (va_cwS 3 hts gX6_life_X6_hammerOn rfl rfl rfl hd_X6_hammerOn ⟨Nat.le_of_ble_eq_true rfl, Nat.le_of_ble_eq_true rfl⟩) (gS hE (hP.sub [3] rfl) (hD.sub [3] (by decide) rfl)) rfl rfl hl.1 rfl (lv_room (Nat.le_of_ble_eq_true rfl)) dX6_life_46 ⟨Nat.le_of_ble_eq_true rfl, Nat.le_of_ble_eq_true rfl⟩) hP hD hS hA [3] rfl (by decide) (fun _ => rfl) (fun v16 u15 H locs h14 hP hD hS => ?_)
    obtain ⟨q17, eq17⟩ : ∃ z : Int32 × gR, f_X6_hammerOn u13 p0 2000 = z := ⟨_, rfl⟩
    obtain ⟨rfl, rfl⟩ : q17.1 = v16 ∧ q17.2 = u15 := ⟨by rw [← eq17, h14], by rw [← eq17, h14]⟩
    have hF := hF.trans (gLet_e eq17)
    have hP : va_P D vwCl [(a0, .inr (5, [.int 0, .ref a1, .int sz, .ref a2, .ref a3, .ref a4, .int ac, .ref a5, .ref a6, .int sp, .int ou])), (a1, .inl (y 0, 120, .inl tx)), (a2, .inl (y 0, 78, .inl nw)), (a3, .inl (y 0, 78, .inl q17.2)), (a4, .inl (y 0, 1092, .inl dy)), (a5, .inl (y 0, 156, .inl kp)), (a6, .inl (y 2, 2, .inl ik))] H := hP
    have hD : va_D A [(a0, .inr (5, [.int 0, .ref a1, .int sz, .ref a2, .ref a3, .ref a4, .int ac, .ref a5, .ref a6, .int sp, .int ou])), (a1, .inl (y 0, 120, .inl tx)), (a2, .inl (y 0, 78, .inl nw)), (a3, .inl (y 0, 78, .inl q17.2)), (a4, .inl (y 0, 1092, .inl dy)), (a5, .inl (y 0, 156, .inl kp)), (a6, .inl (y 2, 2, .inl ik))] := hD
    exact W.iret (v := q17.1) hx hb hr (fun t ht hW => ⟨⟨q17.1, ⟨0, sz, ac, sp, ou, tx, nw, q17.2, dy, kp, ik⟩, rfl, hF, ⟨by rw [ht]; exact hP, hD⟩⟩, hS.F ht⟩) hS.2.2 dX6_life_49

def f_X6_lifeOfAll (rf : Int32) (sz : Int32) (ac : Int32) (sp : Int32) (ou : Int32) (tx : Nat → Int32) (nw : gR) (tr : gR) (dy : Nat → Int32) (kp : Nat → Int32) (ik : Nat → Int32) : Int32 × Int32 × Int32 × Int32 × Int32 × Int32 × (Nat → Int32) × gR × gR × (Nat → Int32) × (Nat → Int32) × (Nat → Int32) :=
    if (nw 0) ≤ 0 then
    (0, 1, sz, ac, sp, ou, tx, nw, tr, dy, kp, ik)
  else
    gLet (f_X6_copyState 78 nw 78 tr 0 0) (fun (u11 : (Nat → Int32)) =>
      gLet (f_X6_allOn u11 4000) (fun (q15 : Int32 × gR) =>
        (q15.1, 0, sz, ac, sp, ou, tx, nw, q15.2, dy, kp, ik)))
theorem f_X6_lifeOfAll_s (rf : Int32) (sz : Int32) (ac : Int32) (sp : Int32) (ou : Int32) (tx : Nat → Int32) (nw : gR) (tr : gR) (dy : Nat → Int32) (kp : Nat → Int32) (ik : Nat → Int32) : f_X6_lifeOfAll rf sz ac sp ou tx nw tr dy kp ik =
    (if (nw 0) ≤ 0 then
    (0, 1, sz, ac, sp, ou, tx, nw, tr, dy, kp, ik)
  else
    gLet (f_X6_copyState 78 nw 78 tr 0 0) (fun (u11 : (Nat → Int32)) =>
      gLet (f_X6_allOn u11 4000) (fun (q15 : Int32 × gR) =>
        (q15.1, 0, sz, ac, sp, ou, tx, nw, q15.2, dy, kp, ik)))) := rfl
theorem hd_X6_lifeOfAll : yX6_lifeOfAll.cls = RX6 ∧ yX6_lifeOfAll.cls ≠ "java/lang/invoke/MethodHandle" ∧ yX6_lifeOfAll.cls ≠ "java/lang/invoke/VarHandle" ∧ (parseMethodDescriptor yX6_lifeOfAll.desc).map (fun d => d.parameters.length) = some 0 := by decide +kernel
set_option maxHeartbeats 4000000 in
set_option maxRecDepth 100000 in
theorem c_X6_lifeOfAll (l : Launch) (D : va_G) (y : Nat → ClassId) (a0 a1 a2 a3 a4 a5 a6 : Nat) (zh : Nat) (rf : Int32) (sz : Int32) (ac : Int32) (sp : Int32) (ou : Int32) (tx : Nat → Int32) (nw : gR) (tr : gR) (dy : Nat → Int32) (kp : Nat → Int32) (ik : Nat → Int32) (hm : okMd sz ac nw) : Met l yX6_lifeOfAll wsX6_lifeOfAll ({ frames := 4, cells := 0, slots := 0, locals := 91 }) (gP D y [.ref a0] zh [(a0, .inr (5, [.int rf, .ref a1, .int sz, .ref a2, .ref a3, .ref a4, .int ac, .ref a5, .ref a6, .int sp, .int ou])), (a1, .inl (y 0, 120, .inl tx)), (a2, .inl (y 0, 78, .inl nw)), (a3, .inl (y 0, 78, .inl tr)), (a4, .inl (y 0, 1092, .inl dy)), (a5, .inl (y 0, 156, .inl kp)), (a6, .inl (y 2, 2, .inl ik))]) (va_Qi (fun (v : Int32) (u : Int32 × Int32 × Int32 × Int32 × Int32 × (Nat → Int32) × gR × gR × (Nat → Int32) × (Nat → Int32) × (Nat → Int32)) => f_X6_lifeOfAll rf sz ac sp ou tx nw tr dy kp ik = (v, u)) (fun (u : Int32 × Int32 × Int32 × Int32 × Int32 × (Nat → Int32) × gR × gR × (Nat → Int32) × (Nat → Int32) × (Nat → Int32)) t => va_P D vwCl [(a0, .inr (5, [.int u.1, .ref a1, .int u.2.1, .ref a2, .ref a3, .ref a4, .int u.2.2.1, .ref a5, .ref a6, .int u.2.2.2.1, .int u.2.2.2.2.1])), (a1, .inl (y 0, 120, .inl u.2.2.2.2.2.1)), (a2, .inl (y 0, 78, .inl u.2.2.2.2.2.2.1)), (a3, .inl (y 0, 78, .inl u.2.2.2.2.2.2.2.1)), (a4, .inl (y 0, 1092, .inl u.2.2.2.2.2.2.2.2.1)), (a5, .inl (y 0, 156, .inl u.2.2.2.2.2.2.2.2.2.1)), (a6, .inl (y 2, 2, .inl u.2.2.2.2.2.2.2.2.2.2))] t.heap ∧ va_D (va_A [(a0, .inr (5, [.int rf, .ref a1, .int sz, .ref a2, .ref a3, .ref a4, .int ac, .ref a5, .ref a6, .int sp, .int ou])), (a1, .inl (y 0, 120, .inl tx)), (a2, .inl (y 0, 78, .inl nw)), (a3, .inl (y 0, 78, .inl tr)), (a4, .inl (y 0, 1092, .inl dy)), (a5, .inl (y 0, 156, .inl kp)), (a6, .inl (y 2, 2, .inl ik))] zh) [(a0, .inr (5, [.int u.1, .ref a1, .int u.2.1, .ref a2, .ref a3, .ref a4, .int u.2.2.1, .ref a5, .ref a6, .int u.2.2.2.1, .int u.2.2.2.2.1])), (a1, .inl (y 0, 120, .inl u.2.2.2.2.2.1)), (a2, .inl (y 0, 78, .inl u.2.2.2.2.2.2.1)), (a3, .inl (y 0, 78, .inl u.2.2.2.2.2.2.2.1)), (a4, .inl (y 0, 1092, .inl u.2.2.2.2.2.2.2.2.1)), (a5, .inl (y 0, 156, .inl u.2.2.2.2.2.2.2.2.2.1)), (a6, .inl (y 2, 2, .inl u.2.2.2.2.2.2.2.2.2.2))]) (va_A [(a0, .inr (5, [.int rf, .ref a1, .int sz, .ref a2, .ref a3, .ref a4, .int ac, .ref a5, .ref a6, .int sp, .int ou])), (a1, .inl (y 0, 120, .inl tx)), (a2, .inl (y 0, 78, .inl nw)), (a3, .inl (y 0, 78, .inl tr)), (a4, .inl (y 0, 1092, .inl dy)), (a5, .inl (y 0, 156, .inl kp)), (a6, .inl (y 2, 2, .inl ik))] zh)) 0 0 (va_A [(a0, .inr (5, [.int rf, .ref a1, .int sz, .ref a2, .ref a3, .ref a4, .int ac, .ref a5, .ref a6, .int sp, .int ou])), (a1, .inl (y 0, 120, .inl tx)), (a2, .inl (y 0, 78, .inl nw)), (a3, .inl (y 0, 78, .inl tr)), (a4, .inl (y 0, 1092, .inl dy)), (a5, .inl (y 0, 156, .inl kp)), (a6, .inl (y 2, 2, .inl ik))] zh) := by
  refine Met.ofW (cc := cX6_lifeOfAll) (maxL := 1) (ret := (some .int)) (by decide) rfl ?_
  intro p e s m args below meth c s₁ B hml hv
  obtain ⟨rfl, hsz, hP, hE, hD⟩ := hv
  have hx := B.exec
  have hb := B.bytes
  have hr := B.returns
  have hts := atoms_spec (ws := wsX6_lifeOfAll) B.pre
  have hown : s.vm.findClass RX6 = some m.cls := findClass_of_methodNamed B.named
  have hlocks := B.notSynchronized
  have w_0 := hts (.fieldLink RX6 13 "GapLinesModel" "now" "[I") (List.mem_cons_of_mem _ (List.mem_append_left _ (List.mem_append_left _ (List.mem_of_getElem? (i := 0) rfl))))
  have hi6 : ∀ w ∈ u_ws RX6 TX6 11, w ∈ wsX6_lifeOfAll := fun w h => (List.mem_cons_of_mem _ (List.mem_append_right _ h))
  have w_2 := hts (.fieldLink RX6 16 "GapLinesModel" "trial" "[I") (List.mem_cons_of_mem _ (List.mem_append_left _ (List.mem_append_left _ (List.mem_of_getElem? (i := 1) rfl))))
  subst hsz
  have hD := hD.self (sz := s.heap.size)
  generalize hAe : va_A [(a0, .inr (5, [.int rf, .ref a1, .int sz, .ref a2, .ref a3, .ref a4, .int ac, .ref a5, .ref a6, .int sp, .int ou])), (a1, .inl (y 0, 120, .inl tx)), (a2, .inl (y 0, 78, .inl nw)), (a3, .inl (y 0, 78, .inl tr)), (a4, .inl (y 0, 1092, .inl dy)), (a5, .inl (y 0, 156, .inl kp)), (a6, .inl (y 2, 2, .inl ik))] s.heap.size = A at hD ⊢
  have hA : ∀ q : Nat, s.heap.size ≤ q → A q := fun q h => by rw [← hAe]; exact Or.inr h
  have hS : va_S A s.heap s.heap [] := va_S.rf
  have hl := lv_entry ([.ref a0]) (n := 1) (Nat.le_of_ble_eq_true rfl)
  rw [lg_entry_eq]
  generalize (lg_sl ([.ref a0]) ++ List.replicate (1 - (lg_sl ([.ref a0])).length) Slot.unset).toArray = ls at hl ⊢
  have hl : lv_has ls 1 [(0, .ref a0)] := hl
  have hF := f_X6_lifeOfAll_s rf sz ac sp ou tx nw tr dy kp ik
  refine lv_aload_n hx hb dX6_lifeOfAll_0 rfl (lv_at hl 0 rfl) ?_
  refine lv_aload_n hx hb dX6_lifeOfAll_1 rfl (lv_at hl 0 rfl) ?_
  refine va_get (D := D) (ci := 5) (v := .ref a2) (C := RX6) (T := TX6) (N := 11) hx hb hts hi6 hown hE.1 hP 0 rfl rfl 3 (by decide) w_0 (fun _ h9 => h9) rfl dX6_lifeOfAll_2 ?_
  refine lv_iconst (v := 0) hx hb dX6_lifeOfAll_5 (by decide) ?_
  refine xa_iald (k := 0) (v := nw 0) hx hb hE.1 hP 2 0 rfl rfl (xin (by decide)) rfl rfl dX6_lifeOfAll_6 ?_
  refine lv_if_le (tgt := 14) hx hb dX6_lifeOfAll_7 (by decide) (fun c_1 => ?_) (fun c_1 => ?_)
  · have hF := hF.trans (if_pos c_1)
    refine lv_iconst (v := 1) hx hb dX6_lifeOfAll_14 (by decide) ?_
    refine xw_calli (va_runV (As := [.int 1]) (rest := []) ⟨hx, hb, hml, hown, hts⟩ (c_X6_refused l D y a0 a1 a2 a3 a4 a5 a6 s.heap.size rf sz ac sp ou 1) (cwV 1 hts gX6_lifeOfAll_X6_refused rfl rfl rfl hd_X6_refused ⟨Nat.le_of_ble_eq_true rfl, Nat.le_of_ble_eq_true rfl⟩) (gV (q := (RX6, TX6, 11)) hE (hP.sub [0] rfl) (hD.sub [0] (by decide) rfl) 0 rfl rfl) rfl rfl hl.1 rfl (lv_room (Nat.le_of_ble_eq_true rfl)) dX6_lifeOfAll_15 ⟨Nat.le_of_ble_eq_true rfl, Nat.le_of_ble_eq_true rfl⟩) hP hD hS hA [0] rfl (by decide) (fun _ => rfl) (fun v4 u3 H locs h2 hP hD hS => ?_)
    have h2 := (rfd1 rf sz ac sp ou).symm.trans h2
    obtain ⟨rfl, rfl⟩ := Prod.mk.inj h2
    have hP : va_P D vwCl [(a0, .inr (5, [.int 1, .ref a1, .int sz, .ref a2, .ref a3, .ref a4, .int ac, .ref a5, .ref a6, .int sp, .int ou])), (a1, .inl (y 0, 120, .inl tx)), (a2, .inl (y 0, 78, .inl nw)), (a3, .inl (y 0, 78, .inl tr)), (a4, .inl (y 0, 1092, .inl dy)), (a5, .inl (y 0, 156, .inl kp)), (a6, .inl (y 2, 2, .inl ik))] H := hP
    have hD : va_D A [(a0, .inr (5, [.int 1, .ref a1, .int sz, .ref a2, .ref a3, .ref a4, .int ac, .ref a5, .ref a6, .int sp, .int ou])), (a1, .inl (y 0, 120, .inl tx)), (a2, .inl (y 0, 78, .inl nw)), (a3, .inl (y 0, 78, .inl tr)), (a4, .inl (y 0, 1092, .inl dy)), (a5, .inl (y 0, 156, .inl kp)), (a6, .inl (y 2, 2, .inl ik))] := hD
    refine lv_if_eq (tgt := 23) hx hb dX6_lifeOfAll_18 (by decide) (fun c_5 => absurd c_5 (by decide)) (fun c_5 => ?_)
    refine lv_iconst (v := 0) hx hb dX6_lifeOfAll_21 (by decide) ?_
    exact W.iret (v := 0) hx hb hr (fun t ht hW => ⟨⟨0, ⟨1, sz, ac, sp, ou, tx, nw, tr, dy, kp, ik⟩, rfl, hF, ⟨by rw [ht]; exact hP, hD⟩⟩, hS.F ht⟩) hS.2.2 dX6_lifeOfAll_22
  · have hF := hF.trans (if_neg c_1)
    refine lv_iconst (v := 0) hx hb dX6_lifeOfAll_10 (by decide) ?_
    refine lv_goto (tgt := 15) hx hb dX6_lifeOfAll_11 (by decide) ?_
    refine xw_calli (va_runV (As := [.int 0]) (rest := []) ⟨hx, hb, hml, hown, hts⟩ (c_X6_refused l D y a0 a1 a2 a3 a4 a5 a6 s.heap.size rf sz ac sp ou 0) (cwV 1 hts gX6_lifeOfAll_X6_refused rfl rfl rfl hd_X6_refused ⟨Nat.le_of_ble_eq_true rfl, Nat.le_of_ble_eq_true rfl⟩) (gV (q := (RX6, TX6, 11)) hE (hP.sub [0] rfl) (hD.sub [0] (by decide) rfl) 0 rfl rfl) rfl rfl hl.1 rfl (lv_room (Nat.le_of_ble_eq_true rfl)) dX6_lifeOfAll_15 ⟨Nat.le_of_ble_eq_true rfl, Nat.le_of_ble_eq_true rfl⟩) hP hD hS hA [0] rfl (by decide) (fun _ => rfl) (fun v8 u7 H locs h6 hP hD hS => ?_)
    have h6 := (rfd0 rf sz ac sp ou).symm.trans h6
    obtain ⟨rfl, rfl⟩ := Prod.mk.inj h6
    have hP : va_P D vwCl [(a0, .inr (5, [.int 0, .ref a1, .int sz, .ref a2, .ref a3, .ref a4, .int ac, .ref a5, .ref a6, .int sp, .int ou])), (a1, .inl (y 0, 120, .inl tx)), (a2, .inl (y 0, 78, .inl nw)), (a3, .inl (y 0, 78, .inl tr)), (a4, .inl (y 0, 1092, .inl dy)), (a5, .inl (y 0, 156, .inl kp)), (a6, .inl (y 2, 2, .inl ik))] H := hP
    have hD : va_D A [(a0, .inr (5, [.int 0, .ref a1, .int sz, .ref a2, .ref a3, .ref a4, .int ac, .ref a5, .ref a6, .int sp, .int ou])), (a1, .inl (y 0, 120, .inl tx)), (a2, .inl (y 0, 78, .inl nw)), (a3, .inl (y 0, 78, .inl tr)), (a4, .inl (y 0, 1092, .inl dy)), (a5, .inl (y 0, 156, .inl kp)), (a6, .inl (y 2, 2, .inl ik))] := hD
    refine lv_if_eq (tgt := 23) hx hb dX6_lifeOfAll_18 (by decide) (fun c_9 => ?_) (fun c_9 => absurd (by decide) c_9)
    refine lv_aload_n hx hb dX6_lifeOfAll_23 rfl (lv_at hl 0 rfl) ?_
    refine va_get (D := D) (ci := 5) (v := .ref a2) (C := RX6) (T := TX6) (N := 11) hx hb hts hi6 hown hE.1 hP 0 rfl rfl 3 (by decide) w_0 (fun _ h9 => h9) rfl dX6_lifeOfAll_24 ?_
    refine lv_iconst (v := 0) hx hb dX6_lifeOfAll_27 (by decide) ?_
    refine lv_aload_n hx hb dX6_lifeOfAll_28 rfl (lv_at hl 0 rfl) ?_
    refine va_get (D := D) (ci := 5) (v := .ref a3) (C := RX6) (T := TX6) (N := 11) hx hb hts hi6 hown hE.1 hP 0 rfl rfl 4 (by decide) w_2 (fun _ h9 => h9) rfl dX6_lifeOfAll_29 ?_
    refine lv_iconst (v := 0) hx hb dX6_lifeOfAll_32 (by decide) ?_
    refine xw_callv (va_runS (As := [.ref a2, .int 0, .ref a3, .int 0]) (rest := []) ⟨hx, hb, hml, hown, hts⟩ (c_X6_copyState l D y a2 a3 H.size 78 nw 78 tr 0 0 okA0 okA0) (va_cwS 4 hts gX6_lifeOfAll_X6_copyState rfl rfl rfl hd_X6_copyState ⟨Nat.le_of_ble_eq_true rfl, Nat.le_of_ble_eq_true rfl⟩) (gS hE (hP.sub [2, 3] rfl) (hD.sub [2, 3] (by decide) rfl)) rfl rfl hl.1 rfl (lv_room (Nat.le_of_ble_eq_true rfl)) dX6_lifeOfAll_33 ⟨Nat.le_of_ble_eq_true rfl, Nat.le_of_ble_eq_true rfl⟩) hP hD hS hA [2, 3] rfl (by decide) (fun _ => rfl) (fun u11 H locs h10 hP hD hS => ?_)
    have hF := hF.trans (gLet_e h10)
    have hP : va_P D vwCl [(a0, .inr (5, [.int 0, .ref a1, .int sz, .ref a2, .ref a3, .ref a4, .int ac, .ref a5, .ref a6, .int sp, .int ou])), (a1, .inl (y 0, 120, .inl tx)), (a2, .inl (y 0, 78, .inl nw)), (a3, .inl (y 0, 78, .inl u11)), (a4, .inl (y 0, 1092, .inl dy)), (a5, .inl (y 0, 156, .inl kp)), (a6, .inl (y 2, 2, .inl ik))] H := hP
    have hD : va_D A [(a0, .inr (5, [.int 0, .ref a1, .int sz, .ref a2, .ref a3, .ref a4, .int ac, .ref a5, .ref a6, .int sp, .int ou])), (a1, .inl (y 0, 120, .inl tx)), (a2, .inl (y 0, 78, .inl nw)), (a3, .inl (y 0, 78, .inl u11)), (a4, .inl (y 0, 1092, .inl dy)), (a5, .inl (y 0, 156, .inl kp)), (a6, .inl (y 2, 2, .inl ik))] := hD
    refine lv_aload_n hx hb dX6_lifeOfAll_36 rfl (lv_at hl 0 rfl) ?_
    refine va_get (D := D) (ci := 5) (v := .ref a3) (C := RX6) (T := TX6) (N := 11) hx hb hts hi6 hown hE.1 hP 0 rfl rfl 4 (by decide) w_2 (fun _ h9 => h9) rfl dX6_lifeOfAll_37 ?_
    refine lv_sipush (v := 4000) hx hb dX6_lifeOfAll_40 (by decide) ?_
    refine xw_calli (va_runS (As := [.ref a3, .int 4000]) (rest := []) ⟨hx, hb, hml, hown, hts⟩ (c_X6_allOn l D y a3 H.size u11 4000 (by rw [← h10]; exact cp_okM _ (okM_of2 hm.2.2 (by assumption)))) (va_cwS 2 hts gX6_lifeOfAll_X6_allOn rfl rfl rfl hd_X6_allOn ⟨Nat.le_of_ble_eq_true rfl, Nat.le_of_ble_eq_true rfl⟩) (gS hE (hP.sub [3] rfl) (hD.sub [3] (by decide) rfl)) rfl rfl hl.1 rfl (lv_room (Nat.le_of_ble_eq_true rfl)) dX6_lifeOfAll_43 ⟨Nat.le_of_ble_eq_true rfl, Nat.le_of_ble_eq_true rfl⟩) hP hD hS hA [3] rfl (by decide) (fun _ => rfl) (fun v14 u13 H locs h12 hP hD hS => ?_)
    obtain ⟨q15, eq15⟩ : ∃ z : Int32 × gR, f_X6_allOn u11 4000 = z := ⟨_, rfl⟩
    obtain ⟨rfl, rfl⟩ : q15.1 = v14 ∧ q15.2 = u13 := ⟨by rw [← eq15, h12], by rw [← eq15, h12]⟩
    have hF := hF.trans (gLet_e eq15)
    have hP : va_P D vwCl [(a0, .inr (5, [.int 0, .ref a1, .int sz, .ref a2, .ref a3, .ref a4, .int ac, .ref a5, .ref a6, .int sp, .int ou])), (a1, .inl (y 0, 120, .inl tx)), (a2, .inl (y 0, 78, .inl nw)), (a3, .inl (y 0, 78, .inl q15.2)), (a4, .inl (y 0, 1092, .inl dy)), (a5, .inl (y 0, 156, .inl kp)), (a6, .inl (y 2, 2, .inl ik))] H := hP
    have hD : va_D A [(a0, .inr (5, [.int 0, .ref a1, .int sz, .ref a2, .ref a3, .ref a4, .int ac, .ref a5, .ref a6, .int sp, .int ou])), (a1, .inl (y 0, 120, .inl tx)), (a2, .inl (y 0, 78, .inl nw)), (a3, .inl (y 0, 78, .inl q15.2)), (a4, .inl (y 0, 1092, .inl dy)), (a5, .inl (y 0, 156, .inl kp)), (a6, .inl (y 2, 2, .inl ik))] := hD
    exact W.iret (v := q15.1) hx hb hr (fun t ht hW => ⟨⟨q15.1, ⟨0, sz, ac, sp, ou, tx, nw, q15.2, dy, kp, ik⟩, rfl, hF, ⟨by rw [ht]; exact hP, hD⟩⟩, hS.F ht⟩) hS.2.2 dX6_lifeOfAll_46

def f_X6_worst (rf : Int32) (sz : Int32) (ac : Int32) (sp : Int32) (ou : Int32) (nw : gR) (tr : gR) (p0 : Int32) (p1 : Int32) (p2 : Int32) : Int32 × gR :=
    gLet (f_X6_copyState 78 nw 78 tr 0 0) (fun (u2 : (Nat → Int32)) =>
    gLet (upd u2 12 p1) (fun (r3 : Nat → Int32) =>
      gLet (f_X6_hammerOn r3 p0 p2) (fun (q7 : Int32 × gR) =>
        gLet (f_X6_greatest q7.2) (fun (v9 : Int32) =>
          (v9, q7.2)))))
theorem f_X6_worst_s (rf : Int32) (sz : Int32) (ac : Int32) (sp : Int32) (ou : Int32) (nw : gR) (tr : gR) (p0 : Int32) (p1 : Int32) (p2 : Int32) : f_X6_worst rf sz ac sp ou nw tr p0 p1 p2 =
    (gLet (f_X6_copyState 78 nw 78 tr 0 0) (fun (u2 : (Nat → Int32)) =>
    gLet (upd u2 12 p1) (fun (r3 : Nat → Int32) =>
      gLet (f_X6_hammerOn r3 p0 p2) (fun (q7 : Int32 × gR) =>
        gLet (f_X6_greatest q7.2) (fun (v9 : Int32) =>
          (v9, q7.2)))))) := rfl
theorem hd_X6_worst : yX6_worst.cls = RX6 ∧ yX6_worst.cls ≠ "java/lang/invoke/MethodHandle" ∧ yX6_worst.cls ≠ "java/lang/invoke/VarHandle" ∧ (parseMethodDescriptor yX6_worst.desc).map (fun d => d.parameters.length) = some 3 := by decide +kernel
set_option maxHeartbeats 4000000 in
set_option maxRecDepth 100000 in
theorem c_X6_worst (l : Launch) (D : va_G) (y : Nat → ClassId) (a0 a1 a2 a3 a4 a5 a6 : Nat) (zh : Nat) (rf : Int32) (sz : Int32) (ac : Int32) (sp : Int32) (ou : Int32) (nw : gR) (tr : gR) (p0 : Int32) (p1 : Int32) (p2 : Int32) (on : okN nw) (ol : okL nw p0) : Met l yX6_worst wsX6_worst ({ frames := 4, cells := 0, slots := 0, locals := 91 }) (gP D y [.ref a0, .int p0, .int p1, .int p2] zh [(a0, .inr (5, [.int rf, .ref a1, .int sz, .ref a2, .ref a3, .ref a4, .int ac, .ref a5, .ref a6, .int sp, .int ou])), (a2, .inl (y 0, 78, .inl nw)), (a3, .inl (y 0, 78, .inl tr))]) (va_Qi (fun (v : Int32) (u : gR) => f_X6_worst rf sz ac sp ou nw tr p0 p1 p2 = (v, u)) (fun (u : gR) t => va_P D vwCl [(a0, .inr (5, [.int rf, .ref a1, .int sz, .ref a2, .ref a3, .ref a4, .int ac, .ref a5, .ref a6, .int sp, .int ou])), (a2, .inl (y 0, 78, .inl nw)), (a3, .inl (y 0, 78, .inl u))] t.heap ∧ va_D (va_A [(a0, .inr (5, [.int rf, .ref a1, .int sz, .ref a2, .ref a3, .ref a4, .int ac, .ref a5, .ref a6, .int sp, .int ou])), (a2, .inl (y 0, 78, .inl nw)), (a3, .inl (y 0, 78, .inl tr))] zh) [(a0, .inr (5, [.int rf, .ref a1, .int sz, .ref a2, .ref a3, .ref a4, .int ac, .ref a5, .ref a6, .int sp, .int ou])), (a2, .inl (y 0, 78, .inl nw)), (a3, .inl (y 0, 78, .inl u))]) (va_A [(a0, .inr (5, [.int rf, .ref a1, .int sz, .ref a2, .ref a3, .ref a4, .int ac, .ref a5, .ref a6, .int sp, .int ou])), (a2, .inl (y 0, 78, .inl nw)), (a3, .inl (y 0, 78, .inl tr))] zh)) 0 0 (va_A [(a0, .inr (5, [.int rf, .ref a1, .int sz, .ref a2, .ref a3, .ref a4, .int ac, .ref a5, .ref a6, .int sp, .int ou])), (a2, .inl (y 0, 78, .inl nw)), (a3, .inl (y 0, 78, .inl tr))] zh) := by
  refine Met.ofW (cc := cX6_worst) (maxL := 4) (ret := (some .int)) (by decide) rfl ?_
  intro p e s m args below meth c s₁ B hml hv
  obtain ⟨rfl, hsz, hP, hE, hD⟩ := hv
  have hx := B.exec
  have hb := B.bytes
  have hr := B.returns
  have hts := atoms_spec (ws := wsX6_worst) B.pre
  have hown : s.vm.findClass RX6 = some m.cls := findClass_of_methodNamed B.named
  have hlocks := B.notSynchronized
  have w_0 := hts (.fieldLink RX6 13 "GapLinesModel" "now" "[I") (List.mem_cons_of_mem _ (List.mem_append_left _ (List.mem_append_left _ (List.mem_of_getElem? (i := 0) rfl))))
  have hi6 : ∀ w ∈ u_ws RX6 TX6 11, w ∈ wsX6_worst := fun w h => (List.mem_cons_of_mem _ (List.mem_append_right _ h))
  have w_2 := hts (.fieldLink RX6 16 "GapLinesModel" "trial" "[I") (List.mem_cons_of_mem _ (List.mem_append_left _ (List.mem_append_left _ (List.mem_of_getElem? (i := 1) rfl))))
  subst hsz
  have hD := hD.self (sz := s.heap.size)
  generalize hAe : va_A [(a0, .inr (5, [.int rf, .ref a1, .int sz, .ref a2, .ref a3, .ref a4, .int ac, .ref a5, .ref a6, .int sp, .int ou])), (a2, .inl (y 0, 78, .inl nw)), (a3, .inl (y 0, 78, .inl tr))] s.heap.size = A at hD ⊢
  have hA : ∀ q : Nat, s.heap.size ≤ q → A q := fun q h => by rw [← hAe]; exact Or.inr h
  have hS : va_S A s.heap s.heap [] := va_S.rf
  have hl := lv_entry ([.ref a0, .int p0, .int p1, .int p2]) (n := 4) (Nat.le_of_ble_eq_true rfl)
  rw [lg_entry_eq]
  generalize (lg_sl ([.ref a0, .int p0, .int p1, .int p2]) ++ List.replicate (4 - (lg_sl ([.ref a0, .int p0, .int p1, .int p2])).length) Slot.unset).toArray = ls at hl ⊢
  have hl : lv_has ls 4 [(0, .ref a0), (1, .int p0), (2, .int p1), (3, .int p2)] := hl
  have hF := f_X6_worst_s rf sz ac sp ou nw tr p0 p1 p2
  refine lv_aload_n hx hb dX6_worst_0 rfl (lv_at hl 0 rfl) ?_
  refine va_get (D := D) (ci := 5) (v := .ref a2) (C := RX6) (T := TX6) (N := 11) hx hb hts hi6 hown hE.1 hP 0 rfl rfl 3 (by decide) w_0 (fun _ h9 => h9) rfl dX6_worst_1 ?_
  refine lv_iconst (v := 0) hx hb dX6_worst_4 (by decide) ?_
  refine lv_aload_n hx hb dX6_worst_5 rfl (lv_at hl 0 rfl) ?_
  refine va_get (D := D) (ci := 5) (v := .ref a3) (C := RX6) (T := TX6) (N := 11) hx hb hts hi6 hown hE.1 hP 0 rfl rfl 4 (by decide) w_2 (fun _ h9 => h9) rfl dX6_worst_6 ?_
  refine lv_iconst (v := 0) hx hb dX6_worst_9 (by decide) ?_
  refine xw_callv (va_runS (As := [.ref a2, .int 0, .ref a3, .int 0]) (rest := []) ⟨hx, hb, hml, hown, hts⟩ (c_X6_copyState l D y a2 a3 s.heap.size 78 nw 78 tr 0 0 okA0 okA0) (va_cwS 4 hts gX6_worst_X6_copyState rfl rfl rfl hd_X6_copyState ⟨Nat.le_of_ble_eq_true rfl, Nat.le_of_ble_eq_true rfl⟩) (gS hE (hP.sub [1, 2] rfl) (hD.sub [1, 2] (by decide) rfl)) rfl rfl hl.1 rfl (lv_room (Nat.le_of_ble_eq_true rfl)) dX6_worst_10 ⟨Nat.le_of_ble_eq_true rfl, Nat.le_of_ble_eq_true rfl⟩) hP hD hS hA [1, 2] rfl (by decide) (fun _ => rfl) (fun u2 H locs h1 hP hD hS => ?_)
  have hF := hF.trans (gLet_e h1)
  have hP : va_P D vwCl [(a0, .inr (5, [.int rf, .ref a1, .int sz, .ref a2, .ref a3, .ref a4, .int ac, .ref a5, .ref a6, .int sp, .int ou])), (a2, .inl (y 0, 78, .inl nw)), (a3, .inl (y 0, 78, .inl u2))] H := hP
  have hD : va_D A [(a0, .inr (5, [.int rf, .ref a1, .int sz, .ref a2, .ref a3, .ref a4, .int ac, .ref a5, .ref a6, .int sp, .int ou])), (a2, .inl (y 0, 78, .inl nw)), (a3, .inl (y 0, 78, .inl u2))] := hD
  refine lv_aload_n hx hb dX6_worst_13 rfl (lv_at hl 0 rfl) ?_
  refine va_get (D := D) (ci := 5) (v := .ref a3) (C := RX6) (T := TX6) (N := 11) hx hb hts hi6 hown hE.1 hP 0 rfl rfl 4 (by decide) w_2 (fun _ h9 => h9) rfl dX6_worst_14 ?_
  refine lv_bipush (v := 12) hx hb dX6_worst_17 (by decide) ?_
  refine lv_iload_n hx hb dX6_worst_19 rfl (lv_at hl 2 rfl) ?_
  refine xa_iast (k := 12) hx hb hE.1 hP hD hS 2 0 rfl rfl (xin (by decide)) rfl dX6_worst_20 (fun H locs hP hD hS => ?_)
  obtain ⟨r3, er3⟩ : ∃ z : Nat → Int32, upd u2 12 p1 = z := ⟨_, rfl⟩
  have hF := hF.trans (gLet_e er3)
  rw [er3] at hP hD
  have hP : va_P D vwCl [(a0, .inr (5, [.int rf, .ref a1, .int sz, .ref a2, .ref a3, .ref a4, .int ac, .ref a5, .ref a6, .int sp, .int ou])), (a2, .inl (y 0, 78, .inl nw)), (a3, .inl (y 0, 78, .inl r3))] H := hP
  have hD : va_D A [(a0, .inr (5, [.int rf, .ref a1, .int sz, .ref a2, .ref a3, .ref a4, .int ac, .ref a5, .ref a6, .int sp, .int ou])), (a2, .inl (y 0, 78, .inl nw)), (a3, .inl (y 0, 78, .inl r3))] := hD
  refine lv_aload_n hx hb dX6_worst_21 rfl (lv_at hl 0 rfl) ?_
  refine va_get (D := D) (ci := 5) (v := .ref a3) (C := RX6) (T := TX6) (N := 11) hx hb hts hi6 hown hE.1 hP 0 rfl rfl 4 (by decide) w_2 (fun _ h9 => h9) rfl dX6_worst_22 ?_
  refine lv_iload_n hx hb dX6_worst_25 rfl (lv_at hl 1 rfl) ?_
  refine lv_iload_n hx hb dX6_worst_26 rfl (lv_at hl 3 rfl) ?_
  refine xw_calli (va_runS (As := [.ref a3, .int p0, .int p2]) (rest := []) ⟨hx, hb, hml, hown, hts⟩ (c_X6_hammerOn l D y a3 H.size r3 p0 p2 (by rw [← er3]; exact okM_upd (by omega) (by rw [← h1]; exact cp_okM _ (okM_of on ol))) (by rw [← er3]; exact okL_upd (by omega) (by rw [← h1]; exact cp_okL _ ol))) (va_cwS 3 hts gX6_worst_X6_hammerOn rfl rfl rfl hd_X6_hammerOn ⟨Nat.le_of_ble_eq_true rfl, Nat.le_of_ble_eq_true rfl⟩) (gS hE (hP.sub [2] rfl) (hD.sub [2] (by decide) rfl)) rfl rfl hl.1 rfl (lv_room (Nat.le_of_ble_eq_true rfl)) dX6_worst_27 ⟨Nat.le_of_ble_eq_true rfl, Nat.le_of_ble_eq_true rfl⟩) hP hD hS hA [2] rfl (by decide) (fun _ => rfl) (fun v6 u5 H locs h4 hP hD hS => ?_)
  obtain ⟨q7, eq7⟩ : ∃ z : Int32 × gR, f_X6_hammerOn r3 p0 p2 = z := ⟨_, rfl⟩
  obtain ⟨rfl, rfl⟩ : q7.1 = v6 ∧ q7.2 = u5 := ⟨by rw [← eq7, h4], by rw [← eq7, h4]⟩
  have hF := hF.trans (gLet_e eq7)
  have hP : va_P D vwCl [(a0, .inr (5, [.int rf, .ref a1, .int sz, .ref a2, .ref a3, .ref a4, .int ac, .ref a5, .ref a6, .int sp, .int ou])), (a2, .inl (y 0, 78, .inl nw)), (a3, .inl (y 0, 78, .inl q7.2))] H := hP
  have hD : va_D A [(a0, .inr (5, [.int rf, .ref a1, .int sz, .ref a2, .ref a3, .ref a4, .int ac, .ref a5, .ref a6, .int sp, .int ou])), (a2, .inl (y 0, 78, .inl nw)), (a3, .inl (y 0, 78, .inl q7.2))] := hD
  refine lv_pop hx hb dX6_worst_30 rfl ?_
  refine lv_aload_n hx hb dX6_worst_31 rfl (lv_at hl 0 rfl) ?_
  refine va_get (D := D) (ci := 5) (v := .ref a3) (C := RX6) (T := TX6) (N := 11) hx hb hts hi6 hown hE.1 hP 0 rfl rfl 4 (by decide) w_2 (fun _ h9 => h9) rfl dX6_worst_32 ?_
  refine xs_calli (va_runS (As := [.ref a3]) (rest := []) ⟨hx, hb, hml, hown, hts⟩ (c_X6_greatest l D y a3 H.size q7.2 (by rw [← eq7]; exact (okM_X6_hammerOn _ _ _ (by rw [← er3]; exact okM_upd (by omega) (by rw [← h1]; exact cp_okM _ (okM_of on ol))) (by rw [← er3]; exact okL_upd (by omega) (by rw [← h1]; exact cp_okL _ ol))).2.1)) (va_cwS 1 hts gX6_worst_X6_greatest rfl rfl rfl hd_X6_greatest ⟨Nat.le_of_ble_eq_true rfl, Nat.le_of_ble_eq_true rfl⟩) (gS hE (hP.sub [2] rfl) (hD.sub [2] (by decide) rfl)) rfl rfl hl.1 rfl (lv_room (Nat.le_of_ble_eq_true rfl)) dX6_worst_35 ⟨Nat.le_of_ble_eq_true rfl, Nat.le_of_ble_eq_true rfl⟩) (fun v9 h8 => ?_)
  have hF := hF.trans (gLet_e h8)
  exact W.iret (v := v9) hx hb hr (fun t ht hW => ⟨⟨v9, q7.2, rfl, hF, ⟨by rw [ht]; exact hP, hD⟩⟩, hS.F ht⟩) hS.2.2 dX6_worst_38

def f_X6_ifEvery (rf : Int32) (sz : Int32) (ac : Int32) (sp : Int32) (ou : Int32) (tx : Nat → Int32) (nw : gR) (tr : gR) (dy : Nat → Int32) (kp : Nat → Int32) (ik : Nat → Int32) (p0 : Int32) (p1 : Int32) (p2 : Int32) : Int32 × Int32 × Int32 × Int32 × Int32 × Int32 × (Nat → Int32) × gR × gR × (Nat → Int32) × (Nat → Int32) × (Nat → Int32) :=
    gLet (f_X6_isLine nw p0) (fun (v2 : Int32) =>
    if v2 = 0 then
      (0, 1, sz, ac, sp, ou, tx, nw, tr, dy, kp, ik)
    else
      gLet (f_X6_in p1.toInt64 1 50) (fun (v5 : Int32) =>
        if v5 = 0 then
          (0, 2, sz, ac, sp, ou, tx, nw, tr, dy, kp, ik)
        else
          gLet (f_X6_in p2.toInt64 1 500) (fun (v12 : Int32) =>
            if v12 = 0 then
              (0, 2, sz, ac, sp, ou, tx, nw, tr, dy, kp, ik)
            else
              gLet (f_X6_worst 0 sz ac sp ou nw tr p0 p1 p2) (fun (q25 : Int32 × gR) =>
                (q25.1, 0, sz, ac, sp, ou, tx, nw, q25.2, dy, kp, ik)))))
theorem f_X6_ifEvery_s (rf : Int32) (sz : Int32) (ac : Int32) (sp : Int32) (ou : Int32) (tx : Nat → Int32) (nw : gR) (tr : gR) (dy : Nat → Int32) (kp : Nat → Int32) (ik : Nat → Int32) (p0 : Int32) (p1 : Int32) (p2 : Int32) : f_X6_ifEvery rf sz ac sp ou tx nw tr dy kp ik p0 p1 p2 =
    (gLet (f_X6_isLine nw p0) (fun (v2 : Int32) =>
    if v2 = 0 then
      (0, 1, sz, ac, sp, ou, tx, nw, tr, dy, kp, ik)
    else
      gLet (f_X6_in p1.toInt64 1 50) (fun (v5 : Int32) =>
        if v5 = 0 then
          (0, 2, sz, ac, sp, ou, tx, nw, tr, dy, kp, ik)
        else
          gLet (f_X6_in p2.toInt64 1 500) (fun (v12 : Int32) =>
            if v12 = 0 then
              (0, 2, sz, ac, sp, ou, tx, nw, tr, dy, kp, ik)
            else
              gLet (f_X6_worst 0 sz ac sp ou nw tr p0 p1 p2) (fun (q25 : Int32 × gR) =>
                (q25.1, 0, sz, ac, sp, ou, tx, nw, q25.2, dy, kp, ik)))))) := rfl
theorem hd_X6_ifEvery : yX6_ifEvery.cls = RX6 ∧ yX6_ifEvery.cls ≠ "java/lang/invoke/MethodHandle" ∧ yX6_ifEvery.cls ≠ "java/lang/invoke/VarHandle" ∧ (parseMethodDescriptor yX6_ifEvery.desc).map (fun d => d.parameters.length) = some 3 := by decide +kernel
set_option maxHeartbeats 4000000 in
set_option maxRecDepth 100000 in
theorem c_X6_ifEvery (l : Launch) (D : va_G) (y : Nat → ClassId) (a0 a1 a2 a3 a4 a5 a6 : Nat) (zh : Nat) (rf : Int32) (sz : Int32) (ac : Int32) (sp : Int32) (ou : Int32) (tx : Nat → Int32) (nw : gR) (tr : gR) (dy : Nat → Int32) (kp : Nat → Int32) (ik : Nat → Int32) (p0 : Int32) (p1 : Int32) (p2 : Int32) (hm : okMd sz ac nw) : Met l yX6_ifEvery wsX6_ifEvery ({ frames := 5, cells := 0, slots := 0, locals := 114 }) (gP D y [.ref a0, .int p0, .int p1, .int p2] zh [(a0, .inr (5, [.int rf, .ref a1, .int sz, .ref a2, .ref a3, .ref a4, .int ac, .ref a5, .ref a6, .int sp, .int ou])), (a1, .inl (y 0, 120, .inl tx)), (a2, .inl (y 0, 78, .inl nw)), (a3, .inl (y 0, 78, .inl tr)), (a4, .inl (y 0, 1092, .inl dy)), (a5, .inl (y 0, 156, .inl kp)), (a6, .inl (y 2, 2, .inl ik))]) (va_Qi (fun (v : Int32) (u : Int32 × Int32 × Int32 × Int32 × Int32 × (Nat → Int32) × gR × gR × (Nat → Int32) × (Nat → Int32) × (Nat → Int32)) => f_X6_ifEvery rf sz ac sp ou tx nw tr dy kp ik p0 p1 p2 = (v, u)) (fun (u : Int32 × Int32 × Int32 × Int32 × Int32 × (Nat → Int32) × gR × gR × (Nat → Int32) × (Nat → Int32) × (Nat → Int32)) t => va_P D vwCl [(a0, .inr (5, [.int u.1, .ref a1, .int u.2.1, .ref a2, .ref a3, .ref a4, .int u.2.2.1, .ref a5, .ref a6, .int u.2.2.2.1, .int u.2.2.2.2.1])), (a1, .inl (y 0, 120, .inl u.2.2.2.2.2.1)), (a2, .inl (y 0, 78, .inl u.2.2.2.2.2.2.1)), (a3, .inl (y 0, 78, .inl u.2.2.2.2.2.2.2.1)), (a4, .inl (y 0, 1092, .inl u.2.2.2.2.2.2.2.2.1)), (a5, .inl (y 0, 156, .inl u.2.2.2.2.2.2.2.2.2.1)), (a6, .inl (y 2, 2, .inl u.2.2.2.2.2.2.2.2.2.2))] t.heap ∧ va_D (va_A [(a0, .inr (5, [.int rf, .ref a1, .int sz, .ref a2, .ref a3, .ref a4, .int ac, .ref a5, .ref a6, .int sp, .int ou])), (a1, .inl (y 0, 120, .inl tx)), (a2, .inl (y 0, 78, .inl nw)), (a3, .inl (y 0, 78, .inl tr)), (a4, .inl (y 0, 1092, .inl dy)), (a5, .inl (y 0, 156, .inl kp)), (a6, .inl (y 2, 2, .inl ik))] zh) [(a0, .inr (5, [.int u.1, .ref a1, .int u.2.1, .ref a2, .ref a3, .ref a4, .int u.2.2.1, .ref a5, .ref a6, .int u.2.2.2.1, .int u.2.2.2.2.1])), (a1, .inl (y 0, 120, .inl u.2.2.2.2.2.1)), (a2, .inl (y 0, 78, .inl u.2.2.2.2.2.2.1)), (a3, .inl (y 0, 78, .inl u.2.2.2.2.2.2.2.1)), (a4, .inl (y 0, 1092, .inl u.2.2.2.2.2.2.2.2.1)), (a5, .inl (y 0, 156, .inl u.2.2.2.2.2.2.2.2.2.1)), (a6, .inl (y 2, 2, .inl u.2.2.2.2.2.2.2.2.2.2))]) (va_A [(a0, .inr (5, [.int rf, .ref a1, .int sz, .ref a2, .ref a3, .ref a4, .int ac, .ref a5, .ref a6, .int sp, .int ou])), (a1, .inl (y 0, 120, .inl tx)), (a2, .inl (y 0, 78, .inl nw)), (a3, .inl (y 0, 78, .inl tr)), (a4, .inl (y 0, 1092, .inl dy)), (a5, .inl (y 0, 156, .inl kp)), (a6, .inl (y 2, 2, .inl ik))] zh)) 0 0 (va_A [(a0, .inr (5, [.int rf, .ref a1, .int sz, .ref a2, .ref a3, .ref a4, .int ac, .ref a5, .ref a6, .int sp, .int ou])), (a1, .inl (y 0, 120, .inl tx)), (a2, .inl (y 0, 78, .inl nw)), (a3, .inl (y 0, 78, .inl tr)), (a4, .inl (y 0, 1092, .inl dy)), (a5, .inl (y 0, 156, .inl kp)), (a6, .inl (y 2, 2, .inl ik))] zh) := by
  refine Met.ofW (cc := cX6_ifEvery) (maxL := 4) (ret := (some .int)) (by decide) rfl ?_
  intro p e s m args below meth c s₁ B hml hv
  obtain ⟨rfl, hsz, hP, hE, hD⟩ := hv
  have hx := B.exec
  have hb := B.bytes
  have hr := B.returns
  have hts := atoms_spec (ws := wsX6_ifEvery) B.pre
  have hown : s.vm.findClass RX6 = some m.cls := findClass_of_methodNamed B.named
  have hlocks := B.notSynchronized
  have w_0 := hts (.fieldLink RX6 13 "GapLinesModel" "now" "[I") (List.mem_cons_of_mem _ (List.mem_append_left _ (List.mem_append_left _ (List.mem_of_getElem? (i := 0) rfl))))
  have hi6 : ∀ w ∈ u_ws RX6 TX6 11, w ∈ wsX6_ifEvery := fun w h => (List.mem_cons_of_mem _ (List.mem_append_right _ h))
  have w_2 := hts (.constantLong RX6 76 (50)) (List.mem_cons_of_mem _ (List.mem_append_left _ (List.mem_append_left _ (List.mem_of_getElem? (i := 1) rfl))))
  have w_3 := hts (.constantLong RX6 151 (500)) (List.mem_cons_of_mem _ (List.mem_append_left _ (List.mem_append_left _ (List.mem_of_getElem? (i := 2) rfl))))
  subst hsz
  have hD := hD.self (sz := s.heap.size)
  generalize hAe : va_A [(a0, .inr (5, [.int rf, .ref a1, .int sz, .ref a2, .ref a3, .ref a4, .int ac, .ref a5, .ref a6, .int sp, .int ou])), (a1, .inl (y 0, 120, .inl tx)), (a2, .inl (y 0, 78, .inl nw)), (a3, .inl (y 0, 78, .inl tr)), (a4, .inl (y 0, 1092, .inl dy)), (a5, .inl (y 0, 156, .inl kp)), (a6, .inl (y 2, 2, .inl ik))] s.heap.size = A at hD ⊢
  have hA : ∀ q : Nat, s.heap.size ≤ q → A q := fun q h => by rw [← hAe]; exact Or.inr h
  have hS : va_S A s.heap s.heap [] := va_S.rf
  have hl := lv_entry ([.ref a0, .int p0, .int p1, .int p2]) (n := 4) (Nat.le_of_ble_eq_true rfl)
  rw [lg_entry_eq]
  generalize (lg_sl ([.ref a0, .int p0, .int p1, .int p2]) ++ List.replicate (4 - (lg_sl ([.ref a0, .int p0, .int p1, .int p2])).length) Slot.unset).toArray = ls at hl ⊢
  have hl : lv_has ls 4 [(0, .ref a0), (1, .int p0), (2, .int p1), (3, .int p2)] := hl
  have hF := f_X6_ifEvery_s rf sz ac sp ou tx nw tr dy kp ik p0 p1 p2
  refine lv_aload_n hx hb dX6_ifEvery_0 rfl (lv_at hl 0 rfl) ?_
  refine lv_aload_n hx hb dX6_ifEvery_1 rfl (lv_at hl 0 rfl) ?_
  refine va_get (D := D) (ci := 5) (v := .ref a2) (C := RX6) (T := TX6) (N := 11) hx hb hts hi6 hown hE.1 hP 0 rfl rfl 3 (by decide) w_0 (fun _ h9 => h9) rfl dX6_ifEvery_2 ?_
  refine lv_iload_n hx hb dX6_ifEvery_5 rfl (lv_at hl 1 rfl) ?_
  refine xs_calli (va_runS (As := [.ref a2, .int p0]) (rest := [.ref a0]) ⟨hx, hb, hml, hown, hts⟩ (c_X6_isLine l D y a2 s.heap.size nw p0) (va_cwS 2 hts gX6_ifEvery_X6_isLine rfl rfl rfl hd_X6_isLine ⟨Nat.le_of_ble_eq_true rfl, Nat.le_of_ble_eq_true rfl⟩) (gS hE (hP.sub [2] rfl) (hD.sub [2] (by decide) rfl)) rfl rfl hl.1 rfl (lv_room (Nat.le_of_ble_eq_true rfl)) dX6_ifEvery_6 ⟨Nat.le_of_ble_eq_true rfl, Nat.le_of_ble_eq_true rfl⟩) (fun v2 h1 => ?_)
  have hF := hF.trans (gLet_e h1)
  refine lv_if_ne (tgt := 16) hx hb dX6_ifEvery_9 (by decide) (fun c_3 => ?_) (fun c_3 => ?_)
  · have hF := hF.trans (if_neg c_3)
    refine lv_iload_n hx hb dX6_ifEvery_16 rfl (lv_at hl 2 rfl) ?_
    refine lv_i2l (v := p1.toInt64) hx hb dX6_ifEvery_17 rfl ?_
    refine lv_lconst (v := 1) hx hb dX6_ifEvery_18 (by decide) ?_
    refine lv_ldc2 (v := 50) hx hb hown w_2 dX6_ifEvery_19 ?_
    refine xs_calli (va_runS (As := [.long p1.toInt64, .long 1, .long 50]) (rest := [.ref a0]) ⟨hx, hb, hml, hown, hts⟩ (c_X6_in l D y s.heap.size p1.toInt64 1 50) (va_cwS 3 hts gX6_ifEvery_X6_in rfl rfl rfl hd_X6_in ⟨Nat.le_of_ble_eq_true rfl, Nat.le_of_ble_eq_true rfl⟩) (gS hE (hP.sub [] rfl) (hD.sub [] (by decide) rfl)) rfl rfl hl.1 rfl (lv_room (Nat.le_of_ble_eq_true rfl)) dX6_ifEvery_22 ⟨Nat.le_of_ble_eq_true rfl, Nat.le_of_ble_eq_true rfl⟩) (fun v5 h4 => ?_)
    have hF := hF.trans (gLet_e h4)
    refine lv_if_eq (tgt := 44) hx hb dX6_ifEvery_25 (by decide) (fun c_6 => ?_) (fun c_6 => ?_)
    · have hF := hF.trans (if_pos c_6)
      refine lv_iconst (v := 2) hx hb dX6_ifEvery_44 (by decide) ?_
      refine xw_calli (va_runV (As := [.int 2]) (rest := []) ⟨hx, hb, hml, hown, hts⟩ (c_X6_refused l D y a0 a1 a2 a3 a4 a5 a6 s.heap.size rf sz ac sp ou 2) (cwV 1 hts gX6_ifEvery_X6_refused rfl rfl rfl hd_X6_refused ⟨Nat.le_of_ble_eq_true rfl, Nat.le_of_ble_eq_true rfl⟩) (gV (q := (RX6, TX6, 11)) hE (hP.sub [0] rfl) (hD.sub [0] (by decide) rfl) 0 rfl rfl) rfl rfl hl.1 rfl (lv_room (Nat.le_of_ble_eq_true rfl)) dX6_ifEvery_45 ⟨Nat.le_of_ble_eq_true rfl, Nat.le_of_ble_eq_true rfl⟩) hP hD hS hA [0] rfl (by decide) (fun _ => rfl) (fun v9 u8 H locs h7 hP hD hS => ?_)
      have h7 := (rfd2 rf sz ac sp ou).symm.trans h7
      obtain ⟨rfl, rfl⟩ := Prod.mk.inj h7
      have hP : va_P D vwCl [(a0, .inr (5, [.int 2, .ref a1, .int sz, .ref a2, .ref a3, .ref a4, .int ac, .ref a5, .ref a6, .int sp, .int ou])), (a1, .inl (y 0, 120, .inl tx)), (a2, .inl (y 0, 78, .inl nw)), (a3, .inl (y 0, 78, .inl tr)), (a4, .inl (y 0, 1092, .inl dy)), (a5, .inl (y 0, 156, .inl kp)), (a6, .inl (y 2, 2, .inl ik))] H := hP
      have hD : va_D A [(a0, .inr (5, [.int 2, .ref a1, .int sz, .ref a2, .ref a3, .ref a4, .int ac, .ref a5, .ref a6, .int sp, .int ou])), (a1, .inl (y 0, 120, .inl tx)), (a2, .inl (y 0, 78, .inl nw)), (a3, .inl (y 0, 78, .inl tr)), (a4, .inl (y 0, 1092, .inl dy)), (a5, .inl (y 0, 156, .inl kp)), (a6, .inl (y 2, 2, .inl ik))] := hD
      refine lv_if_eq (tgt := 53) hx hb dX6_ifEvery_48 (by decide) (fun c_10 => absurd c_10 (by decide)) (fun c_10 => ?_)
      refine lv_iconst (v := 0) hx hb dX6_ifEvery_51 (by decide) ?_
      exact W.iret (v := 0) hx hb hr (fun t ht hW => ⟨⟨0, ⟨2, sz, ac, sp, ou, tx, nw, tr, dy, kp, ik⟩, rfl, hF, ⟨by rw [ht]; exact hP, hD⟩⟩, hS.F ht⟩) hS.2.2 dX6_ifEvery_52
    · have hF := hF.trans (if_neg c_6)
      refine lv_iload_n hx hb dX6_ifEvery_28 rfl (lv_at hl 3 rfl) ?_
      refine lv_i2l (v := p2.toInt64) hx hb dX6_ifEvery_29 rfl ?_
      refine lv_lconst (v := 1) hx hb dX6_ifEvery_30 (by decide) ?_
      refine lv_ldc2 (v := 500) hx hb hown w_3 dX6_ifEvery_31 ?_
      refine xs_calli (va_runS (As := [.long p2.toInt64, .long 1, .long 500]) (rest := [.ref a0]) ⟨hx, hb, hml, hown, hts⟩ (c_X6_in l D y s.heap.size p2.toInt64 1 500) (va_cwS 3 hts gX6_ifEvery_X6_in rfl rfl rfl hd_X6_in ⟨Nat.le_of_ble_eq_true rfl, Nat.le_of_ble_eq_true rfl⟩) (gS hE (hP.sub [] rfl) (hD.sub [] (by decide) rfl)) rfl rfl hl.1 rfl (lv_room (Nat.le_of_ble_eq_true rfl)) dX6_ifEvery_34 ⟨Nat.le_of_ble_eq_true rfl, Nat.le_of_ble_eq_true rfl⟩) (fun v12 h11 => ?_)
      have hF := hF.trans (gLet_e h11)
      refine lv_if_eq (tgt := 44) hx hb dX6_ifEvery_37 (by decide) (fun c_13 => ?_) (fun c_13 => ?_)
      · have hF := hF.trans (if_pos c_13)
        refine lv_iconst (v := 2) hx hb dX6_ifEvery_44 (by decide) ?_
        refine xw_calli (va_runV (As := [.int 2]) (rest := []) ⟨hx, hb, hml, hown, hts⟩ (c_X6_refused l D y a0 a1 a2 a3 a4 a5 a6 s.heap.size rf sz ac sp ou 2) (cwV 1 hts gX6_ifEvery_X6_refused rfl rfl rfl hd_X6_refused ⟨Nat.le_of_ble_eq_true rfl, Nat.le_of_ble_eq_true rfl⟩) (gV (q := (RX6, TX6, 11)) hE (hP.sub [0] rfl) (hD.sub [0] (by decide) rfl) 0 rfl rfl) rfl rfl hl.1 rfl (lv_room (Nat.le_of_ble_eq_true rfl)) dX6_ifEvery_45 ⟨Nat.le_of_ble_eq_true rfl, Nat.le_of_ble_eq_true rfl⟩) hP hD hS hA [0] rfl (by decide) (fun _ => rfl) (fun v16 u15 H locs h14 hP hD hS => ?_)
        have h14 := (rfd2 rf sz ac sp ou).symm.trans h14
        obtain ⟨rfl, rfl⟩ := Prod.mk.inj h14
        have hP : va_P D vwCl [(a0, .inr (5, [.int 2, .ref a1, .int sz, .ref a2, .ref a3, .ref a4, .int ac, .ref a5, .ref a6, .int sp, .int ou])), (a1, .inl (y 0, 120, .inl tx)), (a2, .inl (y 0, 78, .inl nw)), (a3, .inl (y 0, 78, .inl tr)), (a4, .inl (y 0, 1092, .inl dy)), (a5, .inl (y 0, 156, .inl kp)), (a6, .inl (y 2, 2, .inl ik))] H := hP
        have hD : va_D A [(a0, .inr (5, [.int 2, .ref a1, .int sz, .ref a2, .ref a3, .ref a4, .int ac, .ref a5, .ref a6, .int sp, .int ou])), (a1, .inl (y 0, 120, .inl tx)), (a2, .inl (y 0, 78, .inl nw)), (a3, .inl (y 0, 78, .inl tr)), (a4, .inl (y 0, 1092, .inl dy)), (a5, .inl (y 0, 156, .inl kp)), (a6, .inl (y 2, 2, .inl ik))] := hD
        refine lv_if_eq (tgt := 53) hx hb dX6_ifEvery_48 (by decide) (fun c_17 => absurd c_17 (by decide)) (fun c_17 => ?_)
        refine lv_iconst (v := 0) hx hb dX6_ifEvery_51 (by decide) ?_
        exact W.iret (v := 0) hx hb hr (fun t ht hW => ⟨⟨0, ⟨2, sz, ac, sp, ou, tx, nw, tr, dy, kp, ik⟩, rfl, hF, ⟨by rw [ht]; exact hP, hD⟩⟩, hS.F ht⟩) hS.2.2 dX6_ifEvery_52
      · have hF := hF.trans (if_neg c_13)
        refine lv_iconst (v := 0) hx hb dX6_ifEvery_40 (by decide) ?_
        refine lv_goto (tgt := 45) hx hb dX6_ifEvery_41 (by decide) ?_
        refine xw_calli (va_runV (As := [.int 0]) (rest := []) ⟨hx, hb, hml, hown, hts⟩ (c_X6_refused l D y a0 a1 a2 a3 a4 a5 a6 s.heap.size rf sz ac sp ou 0) (cwV 1 hts gX6_ifEvery_X6_refused rfl rfl rfl hd_X6_refused ⟨Nat.le_of_ble_eq_true rfl, Nat.le_of_ble_eq_true rfl⟩) (gV (q := (RX6, TX6, 11)) hE (hP.sub [0] rfl) (hD.sub [0] (by decide) rfl) 0 rfl rfl) rfl rfl hl.1 rfl (lv_room (Nat.le_of_ble_eq_true rfl)) dX6_ifEvery_45 ⟨Nat.le_of_ble_eq_true rfl, Nat.le_of_ble_eq_true rfl⟩) hP hD hS hA [0] rfl (by decide) (fun _ => rfl) (fun v20 u19 H locs h18 hP hD hS => ?_)
        have h18 := (rfd0 rf sz ac sp ou).symm.trans h18
        obtain ⟨rfl, rfl⟩ := Prod.mk.inj h18
        have hP : va_P D vwCl [(a0, .inr (5, [.int 0, .ref a1, .int sz, .ref a2, .ref a3, .ref a4, .int ac, .ref a5, .ref a6, .int sp, .int ou])), (a1, .inl (y 0, 120, .inl tx)), (a2, .inl (y 0, 78, .inl nw)), (a3, .inl (y 0, 78, .inl tr)), (a4, .inl (y 0, 1092, .inl dy)), (a5, .inl (y 0, 156, .inl kp)), (a6, .inl (y 2, 2, .inl ik))] H := hP
        have hD : va_D A [(a0, .inr (5, [.int 0, .ref a1, .int sz, .ref a2, .ref a3, .ref a4, .int ac, .ref a5, .ref a6, .int sp, .int ou])), (a1, .inl (y 0, 120, .inl tx)), (a2, .inl (y 0, 78, .inl nw)), (a3, .inl (y 0, 78, .inl tr)), (a4, .inl (y 0, 1092, .inl dy)), (a5, .inl (y 0, 156, .inl kp)), (a6, .inl (y 2, 2, .inl ik))] := hD
        refine lv_if_eq (tgt := 53) hx hb dX6_ifEvery_48 (by decide) (fun c_21 => ?_) (fun c_21 => absurd (by decide) c_21)
        refine lv_aload_n hx hb dX6_ifEvery_53 rfl (lv_at hl 0 rfl) ?_
        refine lv_iload_n hx hb dX6_ifEvery_54 rfl (lv_at hl 1 rfl) ?_
        refine lv_iload_n hx hb dX6_ifEvery_55 rfl (lv_at hl 2 rfl) ?_
        refine lv_iload_n hx hb dX6_ifEvery_56 rfl (lv_at hl 3 rfl) ?_
        refine xw_calli (va_runV (As := [.int p0, .int p1, .int p2]) (rest := []) ⟨hx, hb, hml, hown, hts⟩ (c_X6_worst l D y a0 a1 a2 a3 a4 a5 a6 H.size 0 sz ac sp ou nw tr p0 p1 p2 hm.2.2 (il_okL (r := nw) (l := p0) h1 (by assumption) hm.2.2.1)) (cwV 3 hts gX6_ifEvery_X6_worst rfl rfl rfl hd_X6_worst ⟨Nat.le_of_ble_eq_true rfl, Nat.le_of_ble_eq_true rfl⟩) (gV (q := (RX6, TX6, 11)) hE (hP.sub [0, 2, 3] rfl) (hD.sub [0, 2, 3] (by decide) rfl) 0 rfl rfl) rfl rfl hl.1 rfl (lv_room (Nat.le_of_ble_eq_true rfl)) dX6_ifEvery_57 ⟨Nat.le_of_ble_eq_true rfl, Nat.le_of_ble_eq_true rfl⟩) hP hD hS hA [0, 2, 3] rfl (by decide) (fun _ => rfl) (fun v24 u23 H locs h22 hP hD hS => ?_)
        obtain ⟨q25, eq25⟩ : ∃ z : Int32 × gR, f_X6_worst 0 sz ac sp ou nw tr p0 p1 p2 = z := ⟨_, rfl⟩
        obtain ⟨rfl, rfl⟩ : q25.1 = v24 ∧ q25.2 = u23 := ⟨by rw [← eq25, h22], by rw [← eq25, h22]⟩
        have hF := hF.trans (gLet_e eq25)
        have hP : va_P D vwCl [(a0, .inr (5, [.int 0, .ref a1, .int sz, .ref a2, .ref a3, .ref a4, .int ac, .ref a5, .ref a6, .int sp, .int ou])), (a1, .inl (y 0, 120, .inl tx)), (a2, .inl (y 0, 78, .inl nw)), (a3, .inl (y 0, 78, .inl q25.2)), (a4, .inl (y 0, 1092, .inl dy)), (a5, .inl (y 0, 156, .inl kp)), (a6, .inl (y 2, 2, .inl ik))] H := hP
        have hD : va_D A [(a0, .inr (5, [.int 0, .ref a1, .int sz, .ref a2, .ref a3, .ref a4, .int ac, .ref a5, .ref a6, .int sp, .int ou])), (a1, .inl (y 0, 120, .inl tx)), (a2, .inl (y 0, 78, .inl nw)), (a3, .inl (y 0, 78, .inl q25.2)), (a4, .inl (y 0, 1092, .inl dy)), (a5, .inl (y 0, 156, .inl kp)), (a6, .inl (y 2, 2, .inl ik))] := hD
        exact W.iret (v := q25.1) hx hb hr (fun t ht hW => ⟨⟨q25.1, ⟨0, sz, ac, sp, ou, tx, nw, q25.2, dy, kp, ik⟩, rfl, hF, ⟨by rw [ht]; exact hP, hD⟩⟩, hS.F ht⟩) hS.2.2 dX6_ifEvery_60
  · have hF := hF.trans (if_pos c_3)
    refine lv_iconst (v := 1) hx hb dX6_ifEvery_12 (by decide) ?_
    refine lv_goto (tgt := 45) hx hb dX6_ifEvery_13 (by decide) ?_
    refine xw_calli (va_runV (As := [.int 1]) (rest := []) ⟨hx, hb, hml, hown, hts⟩ (c_X6_refused l D y a0 a1 a2 a3 a4 a5 a6 s.heap.size rf sz ac sp ou 1) (cwV 1 hts gX6_ifEvery_X6_refused rfl rfl rfl hd_X6_refused ⟨Nat.le_of_ble_eq_true rfl, Nat.le_of_ble_eq_true rfl⟩) (gV (q := (RX6, TX6, 11)) hE (hP.sub [0] rfl) (hD.sub [0] (by decide) rfl) 0 rfl rfl) rfl rfl hl.1 rfl (lv_room (Nat.le_of_ble_eq_true rfl)) dX6_ifEvery_45 ⟨Nat.le_of_ble_eq_true rfl, Nat.le_of_ble_eq_true rfl⟩) hP hD hS hA [0] rfl (by decide) (fun _ => rfl) (fun v28 u27 H locs h26 hP hD hS => ?_)
    have h26 := (rfd1 rf sz ac sp ou).symm.trans h26
    obtain ⟨rfl, rfl⟩ := Prod.mk.inj h26
    have hP : va_P D vwCl [(a0, .inr (5, [.int 1, .ref a1, .int sz, .ref a2, .ref a3, .ref a4, .int ac, .ref a5, .ref a6, .int sp, .int ou])), (a1, .inl (y 0, 120, .inl tx)), (a2, .inl (y 0, 78, .inl nw)), (a3, .inl (y 0, 78, .inl tr)), (a4, .inl (y 0, 1092, .inl dy)), (a5, .inl (y 0, 156, .inl kp)), (a6, .inl (y 2, 2, .inl ik))] H := hP
    have hD : va_D A [(a0, .inr (5, [.int 1, .ref a1, .int sz, .ref a2, .ref a3, .ref a4, .int ac, .ref a5, .ref a6, .int sp, .int ou])), (a1, .inl (y 0, 120, .inl tx)), (a2, .inl (y 0, 78, .inl nw)), (a3, .inl (y 0, 78, .inl tr)), (a4, .inl (y 0, 1092, .inl dy)), (a5, .inl (y 0, 156, .inl kp)), (a6, .inl (y 2, 2, .inl ik))] := hD
    refine lv_if_eq (tgt := 53) hx hb dX6_ifEvery_48 (by decide) (fun c_29 => absurd c_29 (by decide)) (fun c_29 => ?_)
    refine lv_iconst (v := 0) hx hb dX6_ifEvery_51 (by decide) ?_
    exact W.iret (v := 0) hx hb hr (fun t ht hW => ⟨⟨0, ⟨1, sz, ac, sp, ou, tx, nw, tr, dy, kp, ik⟩, rfl, hF, ⟨by rw [ht]; exact hP, hD⟩⟩, hS.F ht⟩) hS.2.2 dX6_ifEvery_52

def f_X6_bestEvery_L58 (sz : Int32) (ac : Int32) (sp : Int32) (ou : Int32) (tx : Nat → Int32) (nw : gR) (dy : Nat → Int32) (kp : Nat → Int32) (ik : Nat → Int32) (p0 : Int32) (p1 : Int32) : Nat → Int32 → Int32 → Int32 → Int32 → gR → Int32 × Int32 × Int32 × Int32 × Int32 × Int32 × (Nat → Int32) × gR × gR × (Nat → Int32) × (Nat → Int32) × (Nat → Int32)
  | 0, _, _, _, rf_, tr_ => (0, rf_, sz, ac, sp, ou, tx, nw, tr_, dy, kp, ik)
  | n + 1, x3, x4, x5, rf_, tr_ =>
    if x5 ≤ 0 then
    (x3, rf_, sz, ac, sp, ou, tx, nw, tr_, dy, kp, ik)
  else
    gLet (f_X6_worst rf_ sz ac sp ou nw tr_ p0 x5 p1) (fun (q5 : Int32 × gR) =>
      if x4 ≤ q5.1 then
        if x4 ≤ q5.1 then
          f_X6_bestEvery_L58 sz ac sp ou tx nw dy kp ik p0 p1 n x3 x4 (x5 + (-1)) rf_ q5.2
        else
          f_X6_bestEvery_L58 sz ac sp ou tx nw dy kp ik p0 p1 n x3 q5.1 (x5 + (-1)) rf_ q5.2
      else
        if x4 ≤ q5.1 then
          f_X6_bestEvery_L58 sz ac sp ou tx nw dy kp ik p0 p1 n x5 x4 (x5 + (-1)) rf_ q5.2
        else
          f_X6_bestEvery_L58 sz ac sp ou tx nw dy kp ik p0 p1 n x5 q5.1 (x5 + (-1)) rf_ q5.2)
theorem f_X6_bestEvery_L58_s (sz : Int32) (ac : Int32) (sp : Int32) (ou : Int32) (tx : Nat → Int32) (nw : gR) (dy : Nat → Int32) (kp : Nat → Int32) (ik : Nat → Int32) (p0 : Int32) (p1 : Int32) (n : Nat) (x3 : Int32) (x4 : Int32) (x5 : Int32) (rf_ : Int32) (tr_ : gR) : f_X6_bestEvery_L58 sz ac sp ou tx nw dy kp ik p0 p1 (n + 1) x3 x4 x5 rf_ tr_ =
    (if x5 ≤ 0 then
    (x3, rf_, sz, ac, sp, ou, tx, nw, tr_, dy, kp, ik)
  else
    gLet (f_X6_worst rf_ sz ac sp ou nw tr_ p0 x5 p1) (fun (q5 : Int32 × gR) =>
      if x4 ≤ q5.1 then
        if x4 ≤ q5.1 then
          f_X6_bestEvery_L58 sz ac sp ou tx nw dy kp ik p0 p1 n x3 x4 (x5 + (-1)) rf_ q5.2
        else
          f_X6_bestEvery_L58 sz ac sp ou tx nw dy kp ik p0 p1 n x3 q5.1 (x5 + (-1)) rf_ q5.2
      else
        if x4 ≤ q5.1 then
          f_X6_bestEvery_L58 sz ac sp ou tx nw dy kp ik p0 p1 n x5 x4 (x5 + (-1)) rf_ q5.2
        else
          f_X6_bestEvery_L58 sz ac sp ou tx nw dy kp ik p0 p1 n x5 q5.1 (x5 + (-1)) rf_ q5.2)) := rfl
def f_X6_bestEvery (rf : Int32) (sz : Int32) (ac : Int32) (sp : Int32) (ou : Int32) (tx : Nat → Int32) (nw : gR) (tr : gR) (dy : Nat → Int32) (kp : Nat → Int32) (ik : Nat → Int32) (p0 : Int32) (p1 : Int32) : Int32 × Int32 × Int32 × Int32 × Int32 × Int32 × (Nat → Int32) × gR × gR × (Nat → Int32) × (Nat → Int32) × (Nat → Int32) :=
    gLet (f_X6_isLine nw p0) (fun (v10 : Int32) =>
    if v10 = 0 then
      (0, 1, sz, ac, sp, ou, tx, nw, tr, dy, kp, ik)
    else
      gLet (f_X6_in p1.toInt64 1 500) (fun (v13 : Int32) =>
        if v13 = 0 then
          (0, 2, sz, ac, sp, ou, tx, nw, tr, dy, kp, ik)
        else
          gLet (f_X6_worst 0 sz ac sp ou nw tr p0 50 p1) (fun (q26 : Int32 × gR) =>
            f_X6_bestEvery_L58 sz ac sp ou tx nw dy kp ik p0 p1 ((49 : Int32).toInt.toNat + 1) 50 q26.1 49 0 q26.2)))
theorem f_X6_bestEvery_s (rf : Int32) (sz : Int32) (ac : Int32) (sp : Int32) (ou : Int32) (tx : Nat → Int32) (nw : gR) (tr : gR) (dy : Nat → Int32) (kp : Nat → Int32) (ik : Nat → Int32) (p0 : Int32) (p1 : Int32) : f_X6_bestEvery rf sz ac sp ou tx nw tr dy kp ik p0 p1 =
    (gLet (f_X6_isLine nw p0) (fun (v10 : Int32) =>
    if v10 = 0 then
      (0, 1, sz, ac, sp, ou, tx, nw, tr, dy, kp, ik)
    else
      gLet (f_X6_in p1.toInt64 1 500) (fun (v13 : Int32) =>
        if v13 = 0 then
          (0, 2, sz, ac, sp, ou, tx, nw, tr, dy, kp, ik)
        else
          gLet (f_X6_worst 0 sz ac sp ou nw tr p0 50 p1) (fun (q26 : Int32 × gR) =>
            f_X6_bestEvery_L58 sz ac sp ou tx nw dy kp ik p0 p1 ((49 : Int32).toInt.toNat + 1) 50 q26.1 49 0 q26.2)))) := rfl
theorem hd_X6_bestEvery : yX6_bestEvery.cls = RX6 ∧ yX6_bestEvery.cls ≠ "java/lang/invoke/MethodHandle" ∧ yX6_bestEvery.cls ≠ "java/lang/invoke/VarHandle" ∧ (parseMethodDescriptor yX6_bestEvery.desc).map (fun d => d.parameters.length) = some 2 := by decide +kernel
set_option maxHeartbeats 4000000 in
set_option maxRecDepth 100000 in
theorem c_X6_bestEvery (l : Launch) (D : va_G) (y : Nat → ClassId) (a0 a1 a2 a3 a4 a5 a6 : Nat) (zh : Nat) (rf : Int32) (sz : Int32) (ac : Int32) (sp : Int32) (ou : Int32) (tx : Nat → Int32) (nw : gR) (tr : gR) (dy : Nat → Int32) (kp : Nat → Int32) (ik : Nat → Int32) (p0 : Int32) (p1 : Int32) (hm : okMd sz ac nw) : Met l yX6_bestEvery wsX6_bestEvery ({ frames := 5, cells := 0, slots := 0, locals := 114 }) (gP D y [.ref a0, .int p0, .int p1] zh [(a0, .inr (5, [.int rf, .ref a1, .int sz, .ref a2, .ref a3, .ref a4, .int ac, .ref a5, .ref a6, .int sp, .int ou])), (a1, .inl (y 0, 120, .inl tx)), (a2, .inl (y 0, 78, .inl nw)), (a3, .inl (y 0, 78, .inl tr)), (a4, .inl (y 0, 1092, .inl dy)), (a5, .inl (y 0, 156, .inl kp)), (a6, .inl (y 2, 2, .inl ik))]) (va_Qi (fun (v : Int32) (u : Int32 × Int32 × Int32 × Int32 × Int32 × (Nat → Int32) × gR × gR × (Nat → Int32) × (Nat → Int32) × (Nat → Int32)) => f_X6_bestEvery rf sz ac sp ou tx nw tr dy kp ik p0 p1 = (v, u)) (fun (u : Int32 × Int32 × Int32 × Int32 × Int32 × (Nat → Int32) × gR × gR × (Nat → Int32) × (Nat → Int32) × (Nat → Int32)) t => va_P D vwCl [(a0, .inr (5, [.int u.1, .ref a1, .int u.2.1, .ref a2, .ref a3, .ref a4, .int u.2.2.1, .ref a5, .ref a6, .int u.2.2.2.1, .int u.2.2.2.2.1])), (a1, .inl (y 0, 120, .inl u.2.2.2.2.2.1)), (a2, .inl (y 0, 78, .inl u.2.2.2.2.2.2.1)), (a3, .inl (y 0, 78, .inl u.2.2.2.2.2.2.2.1)), (a4, .inl (y 0, 1092, .inl u.2.2.2.2.2.2.2.2.1)), (a5, .inl (y 0, 156, .inl u.2.2.2.2.2.2.2.2.2.1)), (a6, .inl (y 2, 2, .inl u.2.2.2.2.2.2.2.2.2.2))] t.heap ∧ va_D (va_A [(a0, .inr (5, [.int rf, .ref a1, .int sz, .ref a2, .ref a3, .ref a4, .int ac, .ref a5, .ref a6, .int sp, .int ou])), (a1, .inl (y 0, 120, .inl tx)), (a2, .inl (y 0, 78, .inl nw)), (a3, .inl (y 0, 78, .inl tr)), (a4, .inl (y 0, 1092, .inl dy)), (a5, .inl (y 0, 156, .inl kp)), (a6, .inl (y 2, 2, .inl ik))] zh) [(a0, .inr (5, [.int u.1, .ref a1, .int u.2.1, .ref a2, .ref a3, .ref a4, .int u.2.2.1, .ref a5, .ref a6, .int u.2.2.2.1, .int u.2.2.2.2.1])), (a1, .inl (y 0, 120, .inl u.2.2.2.2.2.1)), (a2, .inl (y 0, 78, .inl u.2.2.2.2.2.2.1)), (a3, .inl (y 0, 78, .inl u.2.2.2.2.2.2.2.1)), (a4, .inl (y 0, 1092, .inl u.2.2.2.2.2.2.2.2.1)), (a5, .inl (y 0, 156, .inl u.2.2.2.2.2.2.2.2.2.1)), (a6, .inl (y 2, 2, .inl u.2.2.2.2.2.2.2.2.2.2))]) (va_A [(a0, .inr (5, [.int rf, .ref a1, .int sz, .ref a2, .ref a3, .ref a4, .int ac, .ref a5, .ref a6, .int sp, .int ou])), (a1, .inl (y 0, 120, .inl tx)), (a2, .inl (y 0, 78, .inl nw)), (a3, .inl (y 0, 78, .inl tr)), (a4, .inl (y 0, 1092, .inl dy)), (a5, .inl (y 0, 156, .inl kp)), (a6, .inl (y 2, 2, .inl ik))] zh)) 0 0 (va_A [(a0, .inr (5, [.int rf, .ref a1, .int sz, .ref a2, .ref a3, .ref a4, .int ac, .ref a5, .ref a6, .int sp, .int ou])), (a1, .inl (y 0, 120, .inl tx)), (a2, .inl (y 0, 78, .inl nw)), (a3, .inl (y 0, 78, .inl tr)), (a4, .inl (y 0, 1092, .inl dy)), (a5, .inl (y 0, 156, .inl kp)), (a6, .inl (y 2, 2, .inl ik))] zh) := by
  refine Met.ofW (cc := cX6_bestEvery) (maxL := 7) (ret := (some .int)) (by decide) rfl ?_
  intro p e s m args below meth c s₁ B hml hv
  obtain ⟨rfl, hsz, hP, hE, hD⟩ := hv
  have hx := B.exec
  have hb := B.bytes
  have hr := B.returns
  have hts := atoms_spec (ws := wsX6_bestEvery) B.pre
  have hown : s.vm.findClass RX6 = some m.cls := findClass_of_methodNamed B.named
  have hlocks := B.notSynchronized
  have w_0 := hts (.fieldLink RX6 13 "GapLinesModel" "now" "[I") (List.mem_cons_of_mem _ (List.mem_append_left _ (List.mem_append_left _ (List.mem_of_getElem? (i := 0) rfl))))
  have hi6 : ∀ w ∈ u_ws RX6 TX6 11, w ∈ wsX6_bestEvery := fun w h => (List.mem_cons_of_mem _ (List.mem_append_right _ h))
  have w_2 := hts (.constantLong RX6 151 (500)) (List.mem_cons_of_mem _ (List.mem_append_left _ (List.mem_append_left _ (List.mem_of_getElem? (i := 1) rfl))))
  subst hsz
  have hD := hD.self (sz := s.heap.size)
  generalize hAe : va_A [(a0, .inr (5, [.int rf, .ref a1, .int sz, .ref a2, .ref a3, .ref a4, .int ac, .ref a5, .ref a6, .int sp, .int ou])), (a1, .inl (y 0, 120, .inl tx)), (a2, .inl (y 0, 78, .inl nw)), (a3, .inl (y 0, 78, .inl tr)), (a4, .inl (y 0, 1092, .inl dy)), (a5, .inl (y 0, 156, .inl kp)), (a6, .inl (y 2, 2, .inl ik))] s.heap.size = A at hD ⊢
  have hA : ∀ q : Nat, s.heap.size ≤ q → A q := fun q h => by rw [← hAe]; exact Or.inr h
  have hS : va_S A s.heap s.heap [] := va_S.rf
  have hl := lv_entry ([.ref a0, .int p0, .int p1]) (n := 7) (Nat.le_of_ble_eq_true rfl)
  rw [lg_entry_eq]
  generalize (lg_sl ([.ref a0, .int p0, .int p1]) ++ List.replicate (7 - (lg_sl ([.ref a0, .int p0, .int p1])).length) Slot.unset).toArray = ls at hl ⊢
  have hl : lv_has ls 7 [(0, .ref a0), (1, .int p0), (2, .int p1)] := hl
  have loop_58 : ∀ (n : Nat) (x3 : Int32) (x4 : Int32) (x5 : Int32) (rf_ : Int32) (tr_ : gR) (ol : okL nw p0), x5.toInt.toNat < n → f_X6_bestEvery rf sz ac sp ou tx nw tr dy kp ik p0 p1 = f_X6_bestEvery_L58 sz ac sp ou tx nw dy kp ik p0 p1 n x3 x4 x5 rf_ tr_ → ∀ (H : Heap) (locs : List Loc), va_P D vwCl [(a0, .inr (5, [.int rf_, .ref a1, .int sz, .ref a2, .ref a3, .ref a4, .int ac, .ref a5, .ref a6, .int sp, .int ou])), (a1, .inl (y 0, 120, .inl tx)), (a2, .inl (y 0, 78, .inl nw)), (a3, .inl (y 0, 78, .inl tr_)), (a4, .inl (y 0, 1092, .inl dy)), (a5, .inl (y 0, 156, .inl kp)), (a6, .inl (y 2, 2, .inl ik))] H → va_D A [(a0, .inr (5, [.int rf_, .ref a1, .int sz, .ref a2, .ref a3, .ref a4, .int ac, .ref a5, .ref a6, .int sp, .int ou])), (a1, .inl (y 0, 120, .inl tx)), (a2, .inl (y 0, 78, .inl nw)), (a3, .inl (y 0, 78, .inl tr_)), (a4, .inl (y 0, 1092, .inl dy)), (a5, .inl (y 0, 156, .inl kp)), (a6, .inl (y 2, 2, .inl ik))] → va_S A s.heap H locs → ∀ (ls : Array Slot), lv_has ls 7 [(0, .ref a0), (1, .int p0), (2, .int p1), (3, .int x3), (4, .int x4), (5, .int x5)] → W p l e (headSpec wsX6_bestEvery ({ frames := 5, cells := 0, slots := 0, locals := 114 })).room s m ([.ref a0, .int p0, .int p1] : List Value).toArray below meth c H locs 0 0 (MQ below (va_Qi (fun (v : Int32) (u : Int32 × Int32 × Int32 × Int32 × Int32 × (Nat → Int32) × gR × gR × (Nat → Int32) × (Nat → Int32) × (Nat → Int32)) => f_X6_bestEvery rf sz ac sp ou tx nw tr dy kp ik p0 p1 = (v, u)) (fun (u : Int32 × Int32 × Int32 × Int32 × Int32 × (Nat → Int32) × gR × gR × (Nat → Int32) × (Nat → Int32) × (Nat → Int32)) t => va_P D vwCl [(a0, .inr (5, [.int u.1, .ref a1, .int u.2.1, .ref a2, .ref a3, .ref a4, .int u.2.2.1, .ref a5, .ref a6, .int u.2.2.2.1, .int u.2.2.2.2.1])), (a1, .inl (y 0, 120, .inl u.2.2.2.2.2.1)), (a2, .inl (y 0, 78, .inl u.2.2.2.2.2.2.1)), (a3, .inl (y 0, 78, .inl u.2.2.2.2.2.2.2.1)), (a4, .inl (y 0, 1092, .inl u.2.2.2.2.2.2.2.2.1)), (a5, .inl (y 0, 156, .inl u.2.2.2.2.2.2.2.2.2.1)), (a6, .inl (y 2, 2, .inl u.2.2.2.2.2.2.2.2.2.2))] t.heap ∧ va_D (A) [(a0, .inr (5, [.int u.1, .ref a1, .int u.2.1, .ref a2, .ref a3, .ref a4, .int u.2.2.1, .ref a5, .ref a6, .int u.2.2.2.1, .int u.2.2.2.2.1])), (a1, .inl (y 0, 120, .inl u.2.2.2.2.2.1)), (a2, .inl (y 0, 78, .inl u.2.2.2.2.2.2.1)), (a3, .inl (y 0, 78, .inl u.2.2.2.2.2.2.2.1)), (a4, .inl (y 0, 1092, .inl u.2.2.2.2.2.2.2.2.1)), (a5, .inl (y 0, 156, .inl u.2.2.2.2.2.2.2.2.2.1)), (a6, .inl (y 2, 2, .inl u.2.2.2.2.2.2.2.2.2.2))]) A) ([.ref a0, .int p0, .int p1] : List Value).toArray s 0 0 A) (F0 m 58 ls []) := by
    intro n
    induction n with
    | zero =>
      intro x3 x4 x5 rf_ tr_ ol hμ
      exact absurd hμ (Nat.not_lt_zero _)
    | succ n ih =>
      intro x3 x4 x5 rf_ tr_ ol hμ hF H locs hP hD hS ls hl
      have hF := hF.trans (f_X6_bestEvery_L58_s sz ac sp ou tx nw dy kp ik p0 p1 n x3 x4 x5 rf_ tr_)
      refine lv_iload hx hb dX6_bestEvery_58 (lv_at hl 5 rfl) ?_
      refine lv_if_le (tgt := 109) hx hb dX6_bestEvery_60 (by decide) (fun c_1 => ?_) (fun c_1 => ?_)
      · have hF := hF.trans (if_pos c_1)
        refine lv_iload_n hx hb dX6_bestEvery_109 rfl (lv_at hl 3 rfl) ?_
        exact W.iret (v := x3) hx hb hr (fun t ht hW => ⟨⟨x3, ⟨rf_, sz, ac, sp, ou, tx, nw, tr_, dy, kp, ik⟩, rfl, hF, ⟨by rw [ht]; exact hP, hD⟩⟩, hS.F ht⟩) hS.2.2 dX6_bestEvery_110
      · have hF := hF.trans (if_neg c_1)
        refine lv_aload_n hx hb dX6_bestEvery_63 rfl (lv_at hl 0 rfl) ?_
        refine lv_iload_n hx hb dX6_bestEvery_64 rfl (lv_at hl 1 rfl) ?_
        refine lv_iload hx hb dX6_bestEvery_65 (lv_at hl 5 rfl) ?_
        refine lv_iload_n hx hb dX6_bestEvery_67 rfl (lv_at hl 2 rfl) ?_
        refine xw_calli (va_runV (As := [.int p0, .int x5, .int p1]) (rest := []) ⟨hx, hb, hml, hown, hts⟩ (c_X6_worst l D y a0 a1 a2 a3 a4 a5 a6 H.size rf_ sz ac sp ou nw tr_ p0 x5 p1 hm.2.2 ol) (cwV 3 hts gX6_bestEvery_X6_worst rfl rfl rfl hd_X6_worst ⟨Nat.le_of_ble_eq_true rfl, Nat.le_of_ble_eq_true rfl⟩) (gV (q := (RX6, TX6, 11)) hE (hP.sub [0, 2, 3] rfl) (hD.sub [0, 2, 3] (by decide) rfl) 0 rfl rfl) rfl rfl hl.1 rfl (lv_room (Nat.le_of_ble_eq_true rfl)) dX6_bestEvery_68 ⟨Nat.le_of_ble_eq_true rfl, Nat.le_of_ble_eq_true rfl⟩) hP hD hS hA [0, 2, 3] rfl (by decide) (fun _ => rfl) (fun v4 u3 H locs h2 hP hD hS => ?_)
        obtain ⟨q5, eq5⟩ : ∃ z : Int32 × gR, f_X6_worst rf_ sz ac sp ou nw tr_ p0 x5 p1 = z := ⟨_, rfl⟩
        obtain ⟨rfl, rfl⟩ : q5.1 = v4 ∧ q5.2 = u3 := ⟨by rw [← eq5, h2], by rw [← eq5, h2]⟩
        have hF := hF.trans (gLet_e eq5)
        have hP : va_P D vwCl [(a0, .inr (5, [.int rf_, .ref a1, .int sz, .ref a2, .ref a3, .ref a4, .int ac, .ref a5, .ref a6, .int sp, .int ou])), (a1, .inl (y 0, 120, .inl tx)), (a2, .inl (y 0, 78, .inl nw)), (a3, .inl (y 0, 78, .inl q5.2)), (a4, .inl (y 0, 1092, .inl dy)), (a5, .inl (y 0, 156, .inl kp)), (a6, .inl (y 2, 2, .inl ik))] H := hP
        have hD : va_D A [(a0, .inr (5, [.int rf_, .ref a1, .int sz, .ref a2, .ref a3, .ref a4, .int ac, .ref a5, .ref a6, .int sp, .int ou])), (a1, .inl (y 0, 120, .inl tx)), (a2, .inl (y 0, 78, .inl nw)), (a3, .inl (y 0, 78, .inl q5.2)), (a4, .inl (y 0, 1092, .inl dy)), (a5, .inl (y 0, 156, .inl kp)), (a6, .inl (y 2, 2, .inl ik))] := hD
        refine lv_istore (lv' := [(6, .int q5.1), (0, .ref a0), (1, .int p0), (2, .int p1), (3, .int x3), (4, .int x4), (5, .int x5)]) hx hb dX6_bestEvery_71 hl (by decide) rfl (fun ls hl => ?_)
        refine lv_iload hx hb dX6_bestEvery_73 (lv_at hl 0 rfl) ?_
        refine lv_iload hx hb dX6_bestEvery_75 (lv_at hl 5 rfl) ?_
        refine lv_icmp_ge (tgt := 85) hx hb dX6_bestEvery_77 (by decide) (fun c_6 => ?_) (fun c_6 => ?_)
        · have hF := hF.trans (if_pos c_6)
          refine lv_iload_n hx hb dX6_bestEvery_85 rfl (lv_at hl 4 rfl) ?_
          refine lv_istore_n (lv' := [(3, .int x3), (6, .int q5.1), (0, .ref a0), (1, .int p0), (2, .int p1), (4, .int x4), (5, .int x5)]) hx hb dX6_bestEvery_86 rfl hl (by decide) rfl (fun ls hl => ?_)
          refine lv_iload hx hb dX6_bestEvery_87 (lv_at hl 1 rfl) ?_
          refine lv_iload hx hb dX6_bestEvery_89 (lv_at hl 5 rfl) ?_
          refine lv_icmp_ge (tgt := 99) hx hb dX6_bestEvery_91 (by decide) (fun c_7 => ?_) (fun c_7 => ?_)
          · have hF := hF.trans (if_pos c_7)
            refine lv_iload hx hb dX6_bestEvery_99 (lv_at hl 5 rfl) ?_
            refine lv_istore (lv' := [(4, .int x4), (3, .int x3), (6, .int q5.1), (0, .ref a0), (1, .int p0), (2, .int p1), (5, .int x5)]) hx hb dX6_bestEvery_101 hl (by decide) rfl (fun ls hl => ?_)
            refine lv_iinc (v := (x5 + (-1))) (lv' := [(5, .int (x5 + (-1))), (4, .int x4), (3, .int x3), (6, .int q5.1), (0, .ref a0), (1, .int p0), (2, .int p1)]) hx hb dX6_bestEvery_103 hl (k := 6) rfl rfl (by decide) rfl (fun ls hl => ?_)
            refine lv_goto (tgt := 58) hx hb dX6_bestEvery_106 (by decide) ?_
            exact ih x3 x4 (x5 + (-1)) rf_ q5.2 (ol) (dn_dec (by assumption) hμ) hF _ _ hP hD hS ls (lv_sub hl [4, 5, 6, 2, 1, 0] rfl)
          · have hF := hF.trans (if_neg c_7)
            refine lv_iload hx hb dX6_bestEvery_94 (lv_at hl 1 rfl) ?_
            refine lv_goto (tgt := 101) hx hb dX6_bestEvery_96 (by decide) ?_
            refine lv_istore (lv' := [(4, .int q5.1), (3, .int x3), (6, .int q5.1), (0, .ref a0), (1, .int p0), (2, .int p1), (5, .int x5)]) hx hb dX6_bestEvery_101 hl (by decide) rfl (fun ls hl => ?_)
            refine lv_iinc (v := (x5 + (-1))) (lv' := [(5, .int (x5 + (-1))), (4, .int q5.1), (3, .int x3), (6, .int q5.1), (0, .ref a0), (1, .int p0), (2, .int p1)]) hx hb dX6_bestEvery_103 hl (k := 6) rfl rfl (by decide) rfl (fun ls hl => ?_)
            refine lv_goto (tgt := 58) hx hb dX6_bestEvery_106 (by decide) ?_
            exact ih x3 q5.1 (x5 + (-1)) rf_ q5.2 (ol) (dn_dec (by assumption) hμ) hF _ _ hP hD hS ls (lv_sub hl [4, 5, 6, 2, 1, 0] rfl)
        · have hF := hF.trans (if_neg c_6)
          refine lv_iload hx hb dX6_bestEvery_80 (lv_at hl 6 rfl) ?_
          refine lv_goto (tgt := 86) hx hb dX6_bestEvery_82 (by decide) ?_
          refine lv_istore_n (lv' := [(3, .int x5), (6, .int q5.1), (0, .ref a0), (1, .int p0), (2, .int p1), (4, .int x4), (5, .int x5)]) hx hb dX6_bestEvery_86 rfl hl (by decide) rfl (fun ls hl => ?_)
          refine lv_iload hx hb dX6_bestEvery_87 (lv_at hl 1 rfl) ?_
          refine lv_iload hx hb dX6_bestEvery_89 (lv_at hl 5 rfl) ?_
          refine lv_icmp_ge (tgt := 99) hx hb dX6_bestEvery_91 (by decide) (fun c_8 => ?_) (fun c_8 => ?_)
          · have hF := hF.trans (if_pos c_8)
            refine lv_iload hx hb dX6_bestEvery_99 (lv_at hl 5 rfl) ?_
            refine lv_istore (lv' := [(4, .int x4), (3, .int x5), (6, .int q5.1), (0, .ref a0), (1, .int p0), (2, .int p1), (5, .int x5)]) hx hb dX6_bestEvery_101 hl (by decide) rfl (fun ls hl => ?_)
            refine lv_iinc (v := (x5 + (-1))) (lv' := [(5, .int (x5 + (-1))), (4, .int x4), (3, .int x5), (6, .int q5.1), (0, .ref a0), (1, .int p0), (2, .int p1)]) hx hb dX6_bestEvery_103 hl (k := 6) rfl rfl (by decide) rfl (fun ls hl => ?_)
            refine lv_goto (tgt := 58) hx hb dX6_bestEvery_106 (by decide) ?_
            exact ih x5 x4 (x5 + (-1)) rf_ q5.2 (ol) (dn_dec (by assumption) hμ) hF _ _ hP hD hS ls (lv_sub hl [4, 5, 6, 2, 1, 0] rfl)
          · have hF := hF.trans (if_neg c_8)
            refine lv_iload hx hb dX6_bestEvery_94 (lv_at hl 1 rfl) ?_
            refine lv_goto (tgt := 101) hx hb dX6_bestEvery_96 (by decide) ?_
            refine lv_istore (lv' := [(4, .int q5.1), (3, .int x5), (6, .int q5.1), (0, .ref a0), (1, .int p0), (2, .int p1), (5, .int x5)]) hx hb dX6_bestEvery_101 hl (by decide) rfl (fun ls hl => ?_)
            refine lv_iinc (v := (x5 + (-1))) (lv' := [(5, .int (x5 + (-1))), (4, .int q5.1), (3, .int x5), (6, .int q5.1), (0, .ref a0), (1, .int p0), (2, .int p1)]) hx hb dX6_bestEvery_103 hl (k := 6) rfl rfl (by decide) rfl (fun ls hl => ?_)
            refine lv_goto (tgt := 58) hx hb dX6_bestEvery_106 (by decide) ?_
            exact ih x5 q5.1 (x5 + (-1)) rf_ q5.2 (ol) (dn_dec (by assumption) hμ) hF _ _ hP hD hS ls (lv_sub hl [4, 5, 6, 2, 1, 0] rfl)
  have hF := f_X6_bestEvery_s rf sz ac sp ou tx nw tr dy kp ik p0 p1
  refine lv_aload_n hx hb dX6_bestEvery_0 rfl (lv_at hl 0 rfl) ?_
  refine lv_aload_n hx hb dX6_bestEvery_1 rfl (lv_at hl 0 rfl) ?_
  refine va_get (D := D) (ci := 5) (v := .ref a2) (C := RX6) (T := TX6) (N := 11) hx hb hts hi6 hown hE.1 hP 0 rfl rfl 3 (by decide) w_0 (fun _ h9 => h9) rfl dX6_bestEvery_2 ?_
  refine lv_iload_n hx hb dX6_bestEvery_5 rfl (lv_at hl 1 rfl) ?_
  refine xs_calli (va_runS (As := [.ref a2, .int p0]) (rest := [.ref a0]) ⟨hx, hb, hml, hown, hts⟩ (c_X6_isLine l D y a2 s.heap.size nw p0) (va_cwS 2 hts gX6_bestEvery_X6_isLine rfl rfl rfl hd_X6_isLine ⟨Nat.le_of_ble_eq_true rfl, Nat.le_of_ble_eq_true rfl⟩) (gS hE (hP.sub [2] rfl) (hD.sub [2] (by decide) rfl)) rfl rfl hl.1 rfl (lv_room (Nat.le_of_ble_eq_true rfl)) dX6_bestEvery_6 ⟨Nat.le_of_ble_eq_true rfl, Nat.le_of_ble_eq_true rfl⟩) (fun v10 h9 => ?_)
  have hF := hF.trans (gLet_e h9)
  refine lv_if_ne (tgt := 16) hx hb dX6_bestEvery_9 (by decide) (fun c_11 => ?_) (fun c_11 => ?_)
  · have hF := hF.trans (if_neg c_11)
    refine lv_iload_n hx hb dX6_bestEvery_16 rfl (lv_at hl 2 rfl) ?_
    refine lv_i2l (v := p1.toInt64) hx hb dX6_bestEvery_17 rfl ?_
    refine lv_lconst (v := 1) hx hb dX6_bestEvery_18 (by decide) ?_
    refine lv_ldc2 (v := 500) hx hb hown w_2 dX6_bestEvery_19 ?_
    refine xs_calli (va_runS (As := [.long p1.toInt64, .long 1, .long 500]) (rest := [.ref a0]) ⟨hx, hb, hml, hown, hts⟩ (c_X6_in l D y s.heap.size p1.toInt64 1 500) (va_cwS 3 hts gX6_bestEvery_X6_in rfl rfl rfl hd_X6_in ⟨Nat.le_of_ble_eq_true rfl, Nat.le_of_ble_eq_true rfl⟩) (gS hE (hP.sub [] rfl) (hD.sub [] (by decide) rfl)) rfl rfl hl.1 rfl (lv_room (Nat.le_of_ble_eq_true rfl)) dX6_bestEvery_22 ⟨Nat.le_of_ble_eq_true rfl, Nat.le_of_ble_eq_true rfl⟩) (fun v13 h12 => ?_)
    have hF := hF.trans (gLet_e h12)
    refine lv_if_eq (tgt := 32) hx hb dX6_bestEvery_25 (by decide) (fun c_14 => ?_) (fun c_14 => ?_)
    · have hF := hF.trans (if_pos c_14)
      refine lv_iconst (v := 2) hx hb dX6_bestEvery_32 (by decide) ?_
      refine xw_calli (va_runV (As := [.int 2]) (rest := []) ⟨hx, hb, hml, hown, hts⟩ (c_X6_refused l D y a0 a1 a2 a3 a4 a5 a6 s.heap.size rf sz ac sp ou 2) (cwV 1 hts gX6_bestEvery_X6_refused rfl rfl rfl hd_X6_refused ⟨Nat.le_of_ble_eq_true rfl, Nat.le_of_ble_eq_true rfl⟩) (gV (q := (RX6, TX6, 11)) hE (hP.sub [0] rfl) (hD.sub [0] (by decide) rfl) 0 rfl rfl) rfl rfl hl.1 rfl (lv_room (Nat.le_of_ble_eq_true rfl)) dX6_bestEvery_33 ⟨Nat.le_of_ble_eq_true rfl, Nat.le_of_ble_eq_true rfl⟩) hP hD hS hA [0] rfl (by decide) (fun _ => rfl) (fun v17 u16 H locs h15 hP hD hS => ?_)
      have h15 := (rfd2 rf sz ac sp ou).symm.trans h15
      obtain ⟨rfl, rfl⟩ := Prod.mk.inj h15
      have hP : va_P D vwCl [(a0, .inr (5, [.int 2, .ref a1, .int sz, .ref a2, .ref a3, .ref a4, .int ac, .ref a5, .ref a6, .int sp, .int ou])), (a1, .inl (y 0, 120, .inl tx)), (a2, .inl (y 0, 78, .inl nw)), (a3, .inl (y 0, 78, .inl tr)), (a4, .inl (y 0, 1092, .inl dy)), (a5, .inl (y 0, 156, .inl kp)), (a6, .inl (y 2, 2, .inl ik))] H := hP
      have hD : va_D A [(a0, .inr (5, [.int 2, .ref a1, .int sz, .ref a2, .ref a3, .ref a4, .int ac, .ref a5, .ref a6, .int sp, .int ou])), (a1, .inl (y 0, 120, .inl tx)), (a2, .inl (y 0, 78, .inl nw)), (a3, .inl (y 0, 78, .inl tr)), (a4, .inl (y 0, 1092, .inl dy)), (a5, .inl (y 0, 156, .inl kp)), (a6, .inl (y 2, 2, .inl ik))] := hD
      refine lv_if_eq (tgt := 41) hx hb dX6_bestEvery_36 (by decide) (fun c_18 => absurd c_18 (by decide)) (fun c_18 => ?_)
      refine lv_iconst (v := 0) hx hb dX6_bestEvery_39 (by decide) ?_
      exact W.iret (v := 0) hx hb hr (fun t ht hW => ⟨⟨0, ⟨2, sz, ac, sp, ou, tx, nw, tr, dy, kp, ik⟩, rfl, hF, ⟨by rw [ht]; exact hP, hD⟩⟩, hS.F ht⟩) hS.2.2 dX6_bestEvery_40
    · have hF := hF.trans (if_neg c_14)
      refine lv_iconst (v := 0) hx hb dX6_bestEvery_28 (by decide) ?_
      refine lv_goto (tgt := 33) hx hb dX6_bestEvery_29 (by decide) ?_
      refine xw_calli (va_runV (As := [.int 0]) (rest := []) ⟨hx, hb, hml, hown, hts⟩ (c_X6_refused l D y a0 a1 a2 a3 a4 a5 a6 s.heap.size rf sz ac sp ou 0) (cwV 1 hts gX6_bestEvery_X6_refused rfl rfl rfl hd_X6_refused ⟨Nat.le_of_ble_eq_true rfl, Nat.le_of_ble_eq_true rfl⟩) (gV (q := (RX6, TX6, 11)) hE (hP.sub [0] rfl) (hD.sub [0] (by decide) rfl) 0 rfl rfl) rfl rfl hl.1 rfl (lv_room (Nat.le_of_ble_eq_true rfl)) dX6_bestEvery_33 ⟨Nat.le_of_ble_eq_true rfl, Nat.le_of_ble_eq_true rfl⟩) hP hD hS hA [0] rfl (by decide) (fun _ => rfl) (fun v21 u20 H locs h19 hP hD hS => ?_)
      have h19 := (rfd0 rf sz ac sp ou).symm.trans h19
      obtain ⟨rfl, rfl⟩ := Prod.mk.inj h19
      have hP : va_P D vwCl [(a0, .inr (5, [.int 0, .ref a1, .int sz, .ref a2, .ref a3, .ref a4, .int ac, .ref a5, .ref a6, .int sp, .int ou])), (a1, .inl (y 0, 120, .inl tx)), (a2, .inl (y 0, 78, .inl nw)), (a3, .inl (y 0, 78, .inl tr)), (a4, .inl (y 0, 1092, .inl dy)), (a5, .inl (y 0, 156, .inl kp)), (a6, .inl (y 2, 2, .inl ik))] H := hP
      have hD : va_D A [(a0, .inr (5, [.int 0, .ref a1, .int sz, .ref a2, .ref a3, .ref a4, .int ac, .ref a5, .ref a6, .int sp, .int ou])), (a1, .inl (y 0, 120, .inl tx)), (a2, .inl (y 0, 78, .inl nw)), (a3, .inl (y 0, 78, .inl tr)), (a4, .inl (y 0, 1092, .inl dy)), (a5, .inl (y 0, 156, .inl kp)), (a6, .inl (y 2, 2, .inl ik))] := hD
      refine lv_if_eq (tgt := 41) hx hb dX6_bestEvery_36 (by decide) (fun c_22 => ?_) (fun c_22 => absurd (by decide) c_22)
      refine lv_bipush (v := 50) hx hb dX6_bestEvery_41 (by decide) ?_
      refine lv_istore_n (lv' := [(3, .int 50), (0, .ref a0), (1, .int p0), (2, .int p1)]) hx hb dX6_bestEvery_43 rfl hl (by decide) rfl (fun ls hl => ?_)
      refine lv_aload_n hx hb dX6_bestEvery_44 rfl (lv_at hl 1 rfl) ?_
      refine lv_iload_n hx hb dX6_bestEvery_45 rfl (lv_at hl 2 rfl) ?_
      refine lv_bipush (v := 50) hx hb dX6_bestEvery_46 (by decide) ?_
      refine lv_iload_n hx hb dX6_bestEvery_48 rfl (lv_at hl 3 rfl) ?_
      refine xw_calli (va_runV (As := [.int p0, .int 50, .int p1]) (rest := []) ⟨hx, hb, hml, hown, hts⟩ (c_X6_worst l D y a0 a1 a2 a3 a4 a5 a6 H.size 0 sz ac sp ou nw tr p0 50 p1 hm.2.2 (il_okL (r := nw) (l := p0) h9 (by assumption) hm.2.2.1)) (cwV 3 hts gX6_bestEvery_X6_worst rfl rfl rfl hd_X6_worst ⟨Nat.le_of_ble_eq_true rfl, Nat.le_of_ble_eq_true rfl⟩) (gV (q := (RX6, TX6, 11)) hE (hP.sub [0, 2, 3] rfl) (hD.sub [0, 2, 3] (by decide) rfl) 0 rfl rfl) rfl rfl hl.1 rfl (lv_room (Nat.le_of_ble_eq_true rfl)) dX6_bestEvery_49 ⟨Nat.le_of_ble_eq_true rfl, Nat.le_of_ble_eq_true rfl⟩) hP hD hS hA [0, 2, 3] rfl (by decide) (fun _ => rfl) (fun v25 u24 H locs h23 hP hD hS => ?_)
      obtain ⟨q26, eq26⟩ : ∃ z : Int32 × gR, f_X6_worst 0 sz ac sp ou nw tr p0 50 p1 = z := ⟨_, rfl⟩
      obtain ⟨rfl, rfl⟩ : q26.1 = v25 ∧ q26.2 = u24 := ⟨by rw [← eq26, h23], by rw [← eq26, h23]⟩
      have hF := hF.trans (gLet_e eq26)
      have hP : va_P D vwCl [(a0, .inr (5, [.int 0, .ref a1, .int sz, .ref a2, .ref a3, .ref a4, .int ac, .ref a5, .ref a6, .int sp, .int ou])), (a1, .inl (y 0, 120, .inl tx)), (a2, .inl (y 0, 78, .inl nw)), (a3, .inl (y 0, 78, .inl q26.2)), (a4, .inl (y 0, 1092, .inl dy)), (a5, .inl (y 0, 156, .inl kp)), (a6, .inl (y 2, 2, .inl ik))] H := hP
      have hD : va_D A [(a0, .inr (5, [.int 0, .ref a1, .int sz, .ref a2, .ref a3, .ref a4, .int ac, .ref a5, .ref a6, .int sp, .int ou])), (a1, .inl (y 0, 120, .inl tx)), (a2, .inl (y 0, 78, .inl nw)), (a3, .inl (y 0, 78, .inl q26.2)), (a4, .inl (y 0, 1092, .inl dy)), (a5, .inl (y 0, 156, .inl kp)), (a6, .inl (y 2, 2, .inl ik))] := hD
      refine lv_istore (lv' := [(4, .int q26.1), (3, .int 50), (0, .ref a0), (1, .int p0), (2, .int p1)]) hx hb dX6_bestEvery_52 hl (by decide) rfl (fun ls hl => ?_)
      refine lv_bipush (v := 49) hx hb dX6_bestEvery_54 (by decide) ?_
      refine lv_istore (lv' := [(5, .int 49), (4, .int q26.1), (3, .int 50), (0, .ref a0), (1, .int p0), (2, .int p1)]) hx hb dX6_bestEvery_56 hl (by decide) rfl (fun ls hl => ?_)
      exact loop_58 _ 50 q26.1 49 0 q26.2 ((il_okL (r := nw) (l := p0) h9 (by assumption) hm.2.2.1)) (Nat.lt_succ_self _) hF _ _ hP hD hS ls (lv_sub hl [3, 4, 5, 2, 1, 0] rfl)
  · have hF := hF.trans (if_pos c_11)
    refine lv_iconst (v := 1) hx hb dX6_bestEvery_12 (by decide) ?_
    refine lv_goto (tgt := 33) hx hb dX6_bestEvery_13 (by decide) ?_
    refine xw_calli (va_runV (As := [.int 1]) (rest := []) ⟨hx, hb, hml, hown, hts⟩ (c_X6_refused l D y a0 a1 a2 a3 a4 a5 a6 s.heap.size rf sz ac sp ou 1) (cwV 1 hts gX6_bestEvery_X6_refused rfl rfl rfl hd_X6_refused ⟨Nat.le_of_ble_eq_true rfl, Nat.le_of_ble_eq_true rfl⟩) (gV (q := (RX6, TX6, 11)) hE (hP.sub [0] rfl) (hD.sub [0] (by decide) rfl) 0 rfl rfl) rfl rfl hl.1 rfl (lv_room (Nat.le_of_ble_eq_true rfl)) dX6_bestEvery_33 ⟨Nat.le_of_ble_eq_true rfl, Nat.le_of_ble_eq_true rfl⟩) hP hD hS hA [0] rfl (by decide) (fun _ => rfl) (fun v29 u28 H locs h27 hP hD hS => ?_)
    have h27 := (rfd1 rf sz ac sp ou).symm.trans h27
    obtain ⟨rfl, rfl⟩ := Prod.mk.inj h27
    have hP : va_P D vwCl [(a0, .inr (5, [.int 1, .ref a1, .int sz, .ref a2, .ref a3, .ref a4, .int ac, .ref a5, .ref a6, .int sp, .int ou])), (a1, .inl (y 0, 120, .inl tx)), (a2, .inl (y 0, 78, .inl nw)), (a3, .inl (y 0, 78, .inl tr)), (a4, .inl (y 0, 1092, .inl dy)), (a5, .inl (y 0, 156, .inl kp)), (a6, .inl (y 2, 2, .inl ik))] H := hP
    have hD : va_D A [(a0, .inr (5, [.int 1, .ref a1, .int sz, .ref a2, .ref a3, .ref a4, .int ac, .ref a5, .ref a6, .int sp, .int ou])), (a1, .inl (y 0, 120, .inl tx)), (a2, .inl (y 0, 78, .inl nw)), (a3, .inl (y 0, 78, .inl tr)), (a4, .inl (y 0, 1092, .inl dy)), (a5, .inl (y 0, 156, .inl kp)), (a6, .inl (y 2, 2, .inl ik))] := hD
    refine lv_if_eq (tgt := 41) hx hb dX6_bestEvery_36 (by decide) (fun c_30 => absurd c_30 (by decide)) (fun c_30 => ?_)
    refine lv_iconst (v := 0) hx hb dX6_bestEvery_39 (by decide) ?_
    exact W.iret (v := 0) hx hb hr (fun t ht hW => ⟨⟨0, ⟨1, sz, ac, sp, ou, tx, nw, tr, dy, kp, ik⟩, rfl, hF, ⟨by rw [ht]; exact hP, hD⟩⟩, hS.F ht⟩) hS.2.2 dX6_bestEvery_40

def f_X6_placeBehind_L59 (sz : Int32) (ac : Int32) (sp : Int32) (ou : Int32) (tx : Nat → Int32) (nw : gR) (tr : gR) (dy : Nat → Int32) (kp : Nat → Int32) (ik : Nat → Int32) (p0 : Int32) (p1 : Int32) : Nat → Int32 → Int32 → Int32 → Int32 → Int32 × Int32 × Int32 × Int32 × Int32 × Int32 × (Nat → Int32) × gR × gR × (Nat → Int32) × (Nat → Int32) × (Nat → Int32)
  | 0, _, _, _, rf_ => (0, rf_, sz, ac, sp, ou, tx, nw, tr, dy, kp, ik)
  | n + 1, x3, x4, x5, rf_ =>
    if p1 ≤ x5 then
    gLet (f_X6_placeWith nw p0 x3 x4) (fun (v3 : Int32) =>
      (v3, rf_, sz, ac, sp, ou, tx, nw, tr, dy, kp, ik))
  else
    if x4 ≤ 0 then
      gLet ((x3 + 1) - (x3 + 1) / (nw 0) * (nw 0)) (fun (v5 : Int32) =>
        if x4 ≤ 0 then
          f_X6_placeBehind_L59 sz ac sp ou tx nw tr dy kp ik p0 p1 n v5 (nw 0) (x5 + 1) rf_
        else
          f_X6_placeBehind_L59 sz ac sp ou tx nw tr dy kp ik p0 p1 n v5 (x4 - 1) (x5 + 1) rf_)
    else
      if x4 ≤ 0 then
        f_X6_placeBehind_L59 sz ac sp ou tx nw tr dy kp ik p0 p1 n x3 (nw 0) (x5 + 1) rf_
      else
        f_X6_placeBehind_L59 sz ac sp ou tx nw tr dy kp ik p0 p1 n x3 (x4 - 1) (x5 + 1) rf_
theorem f_X6_placeBehind_L59_s (sz : Int32) (ac : Int32) (sp : Int32) (ou : Int32) (tx : Nat → Int32) (nw : gR) (tr : gR) (dy : Nat → Int32) (kp : Nat → Int32) (ik : Nat → Int32) (p0 : Int32) (p1 : Int32) (n : Nat) (x3 : Int32) (x4 : Int32) (x5 : Int32) (rf_ : Int32) : f_X6_placeBehind_L59 sz ac sp ou tx nw tr dy kp ik p0 p1 (n + 1) x3 x4 x5 rf_ =
    (if p1 ≤ x5 then
    gLet (f_X6_placeWith nw p0 x3 x4) (fun (v3 : Int32) =>
      (v3, rf_, sz, ac, sp, ou, tx, nw, tr, dy, kp, ik))
  else
    if x4 ≤ 0 then
      gLet ((x3 + 1) - (x3 + 1) / (nw 0) * (nw 0)) (fun (v5 : Int32) =>
        if x4 ≤ 0 then
          f_X6_placeBehind_L59 sz ac sp ou tx nw tr dy kp ik p0 p1 n v5 (nw 0) (x5 + 1) rf_
        else
          f_X6_placeBehind_L59 sz ac sp ou tx nw tr dy kp ik p0 p1 n v5 (x4 - 1) (x5 + 1) rf_)
    else
      if x4 ≤ 0 then
        f_X6_placeBehind_L59 sz ac sp ou tx nw tr dy kp ik p0 p1 n x3 (nw 0) (x5 + 1) rf_
      else
        f_X6_placeBehind_L59 sz ac sp ou tx nw tr dy kp ik p0 p1 n x3 (x4 - 1) (x5 + 1) rf_) := rfl
def f_X6_placeBehind (rf : Int32) (sz : Int32) (ac : Int32) (sp : Int32) (ou : Int32) (tx : Nat → Int32) (nw : gR) (tr : gR) (dy : Nat → Int32) (kp : Nat → Int32) (ik : Nat → Int32) (p0 : Int32) (p1 : Int32) : Int32 × Int32 × Int32 × Int32 × Int32 × Int32 × (Nat → Int32) × gR × gR × (Nat → Int32) × (Nat → Int32) × (Nat → Int32) :=
    gLet (f_X6_isLine nw p0) (fun (v9 : Int32) =>
    if v9 = 0 then
      (0, 1, sz, ac, sp, ou, tx, nw, tr, dy, kp, ik)
    else
      gLet (f_X6_in p1.toInt64 0 9999) (fun (v12 : Int32) =>
        if v12 = 0 then
          (0, 2, sz, ac, sp, ou, tx, nw, tr, dy, kp, ik)
        else
          f_X6_placeBehind_L59 sz ac sp ou tx nw tr dy kp ik p0 p1 ((p1.toInt - (0 : Int32).toInt).toNat + 1) (nw 2) (nw 3) 0 0))
theorem f_X6_placeBehind_s (rf : Int32) (sz : Int32) (ac : Int32) (sp : Int32) (ou : Int32) (tx : Nat → Int32) (nw : gR) (tr : gR) (dy : Nat → Int32) (kp : Nat → Int32) (ik : Nat → Int32) (p0 : Int32) (p1 : Int32) : f_X6_placeBehind rf sz ac sp ou tx nw tr dy kp ik p0 p1 =
    (gLet (f_X6_isLine nw p0) (fun (v9 : Int32) =>
    if v9 = 0 then
      (0, 1, sz, ac, sp, ou, tx, nw, tr, dy, kp, ik)
    else
      gLet (f_X6_in p1.toInt64 0 9999) (fun (v12 : Int32) =>
        if v12 = 0 then
          (0, 2, sz, ac, sp, ou, tx, nw, tr, dy, kp, ik)
        else
          f_X6_placeBehind_L59 sz ac sp ou tx nw tr dy kp ik p0 p1 ((p1.toInt - (0 : Int32).toInt).toNat + 1) (nw 2) (nw 3) 0 0))) := rfl
theorem hd_X6_placeBehind : yX6_placeBehind.cls = RX6 ∧ yX6_placeBehind.cls ≠ "java/lang/invoke/MethodHandle" ∧ yX6_placeBehind.cls ≠ "java/lang/invoke/VarHandle" ∧ (parseMethodDescriptor yX6_placeBehind.desc).map (fun d => d.parameters.length) = some 2 := by decide +kernel
set_option maxHeartbeats 4000000 in
set_option maxRecDepth 100000 in
theorem c_X6_placeBehind (l : Launch) (D : va_G) (y : Nat → ClassId) (a0 a1 a2 a3 a4 a5 a6 : Nat) (zh : Nat) (rf : Int32) (sz : Int32) (ac : Int32) (sp : Int32) (ou : Int32) (tx : Nat → Int32) (nw : gR) (tr : gR) (dy : Nat → Int32) (kp : Nat → Int32) (ik : Nat → Int32) (p0 : Int32) (p1 : Int32) (hm : okMd sz ac nw) : Met l yX6_placeBehind wsX6_placeBehind ({ frames := 2, cells := 0, slots := 0, locals := 46 }) (gP D y [.ref a0, .int p0, .int p1] zh [(a0, .inr (5, [.int rf, .ref a1, .int sz, .ref a2, .ref a3, .ref a4, .int ac, .ref a5, .ref a6, .int sp, .int ou])), (a1, .inl (y 0, 120, .inl tx)), (a2, .inl (y 0, 78, .inl nw)), (a3, .inl (y 0, 78, .inl tr)), (a4, .inl (y 0, 1092, .inl dy)), (a5, .inl (y 0, 156, .inl kp)), (a6, .inl (y 2, 2, .inl ik))]) (va_Qi (fun (v : Int32) (u : Int32 × Int32 × Int32 × Int32 × Int32 × (Nat → Int32) × gR × gR × (Nat → Int32) × (Nat → Int32) × (Nat → Int32)) => f_X6_placeBehind rf sz ac sp ou tx nw tr dy kp ik p0 p1 = (v, u)) (fun (u : Int32 × Int32 × Int32 × Int32 × Int32 × (Nat → Int32) × gR × gR × (Nat → Int32) × (Nat → Int32) × (Nat → Int32)) t => va_P D vwCl [(a0, .inr (5, [.int u.1, .ref a1, .int u.2.1, .ref a2, .ref a3, .ref a4, .int u.2.2.1, .ref a5, .ref a6, .int u.2.2.2.1, .int u.2.2.2.2.1])), (a1, .inl (y 0, 120, .inl u.2.2.2.2.2.1)), (a2, .inl (y 0, 78, .inl u.2.2.2.2.2.2.1)), (a3, .inl (y 0, 78, .inl u.2.2.2.2.2.2.2.1)), (a4, .inl (y 0, 1092, .inl u.2.2.2.2.2.2.2.2.1)), (a5, .inl (y 0, 156, .inl u.2.2.2.2.2.2.2.2.2.1)), (a6, .inl (y 2, 2, .inl u.2.2.2.2.2.2.2.2.2.2))] t.heap ∧ va_D (va_A [(a0, .inr (5, [.int rf, .ref a1, .int sz, .ref a2, .ref a3, .ref a4, .int ac, .ref a5, .ref a6, .int sp, .int ou])), (a1, .inl (y 0, 120, .inl tx)), (a2, .inl (y 0, 78, .inl nw)), (a3, .inl (y 0, 78, .inl tr)), (a4, .inl (y 0, 1092, .inl dy)), (a5, .inl (y 0, 156, .inl kp)), (a6, .inl (y 2, 2, .inl ik))] zh) [(a0, .inr (5, [.int u.1, .ref a1, .int u.2.1, .ref a2, .ref a3, .ref a4, .int u.2.2.1, .ref a5, .ref a6, .int u.2.2.2.1, .int u.2.2.2.2.1])), (a1, .inl (y 0, 120, .inl u.2.2.2.2.2.1)), (a2, .inl (y 0, 78, .inl u.2.2.2.2.2.2.1)), (a3, .inl (y 0, 78, .inl u.2.2.2.2.2.2.2.1)), (a4, .inl (y 0, 1092, .inl u.2.2.2.2.2.2.2.2.1)), (a5, .inl (y 0, 156, .inl u.2.2.2.2.2.2.2.2.2.1)), (a6, .inl (y 2, 2, .inl u.2.2.2.2.2.2.2.2.2.2))]) (va_A [(a0, .inr (5, [.int rf, .ref a1, .int sz, .ref a2, .ref a3, .ref a4, .int ac, .ref a5, .ref a6, .int sp, .int ou])), (a1, .inl (y 0, 120, .inl tx)), (a2, .inl (y 0, 78, .inl nw)), (a3, .inl (y 0, 78, .inl tr)), (a4, .inl (y 0, 1092, .inl dy)), (a5, .inl (y 0, 156, .inl kp)), (a6, .inl (y 2, 2, .inl ik))] zh)) 0 0 (va_A [(a0, .inr (5, [.int rf, .ref a1, .int sz, .ref a2, .ref a3, .ref a4, .int ac, .ref a5, .ref a6, .int sp, .int ou])), (a1, .inl (y 0, 120, .inl tx)), (a2, .inl (y 0, 78, .inl nw)), (a3, .inl (y 0, 78, .inl tr)), (a4, .inl (y 0, 1092, .inl dy)), (a5, .inl (y 0, 156, .inl kp)), (a6, .inl (y 2, 2, .inl ik))] zh) := by
  refine Met.ofW (cc := cX6_placeBehind) (maxL := 6) (ret := (some .int)) (by decide) rfl ?_
  intro p e s m args below meth c s₁ B hml hv
  obtain ⟨rfl, hsz, hP, hE, hD⟩ := hv
  have hx := B.exec
  have hb := B.bytes
  have hr := B.returns
  have hts := atoms_spec (ws := wsX6_placeBehind) B.pre
  have hown : s.vm.findClass RX6 = some m.cls := findClass_of_methodNamed B.named
  have hlocks := B.notSynchronized
  have w_0 := hts (.fieldLink RX6 13 "GapLinesModel" "now" "[I") (List.mem_cons_of_mem _ (List.mem_append_left _ (List.mem_of_getElem? (i := 0) rfl)))
  have hi6 : ∀ w ∈ u_ws RX6 TX6 11, w ∈ wsX6_placeBehind := fun w h => (List.mem_cons_of_mem _ (List.mem_append_right _ h))
  have w_2 := hts (.constantLong RX6 160 (9999)) (List.mem_cons_of_mem _ (List.mem_append_left _ (List.mem_of_getElem? (i := 1) rfl)))
  subst hsz
  have hD := hD.self (sz := s.heap.size)
  generalize hAe : va_A [(a0, .inr (5, [.int rf, .ref a1, .int sz, .ref a2, .ref a3, .ref a4, .int ac, .ref a5, .ref a6, .int sp, .int ou])), (a1, .inl (y 0, 120, .inl tx)), (a2, .inl (y 0, 78, .inl nw)), (a3, .inl (y 0, 78, .inl tr)), (a4, .inl (y 0, 1092, .inl dy)), (a5, .inl (y 0, 156, .inl kp)), (a6, .inl (y 2, 2, .inl ik))] s.heap.size = A at hD ⊢
  have hA : ∀ q : Nat, s.heap.size ≤ q → A q := fun q h => by rw [← hAe]; exact Or.inr h
  have hS : va_S A s.heap s.heap [] := va_S.rf
  have hl := lv_entry ([.ref a0, .int p0, .int p1]) (n := 6) (Nat.le_of_ble_eq_true rfl)
  rw [lg_entry_eq]
  generalize (lg_sl ([.ref a0, .int p0, .int p1]) ++ List.replicate (6 - (lg_sl ([.ref a0, .int p0, .int p1])).length) Slot.unset).toArray = ls at hl ⊢
  have hl : lv_has ls 6 [(0, .ref a0), (1, .int p0), (2, .int p1)] := hl
  have loop_59 : ∀ (n : Nat) (x3 : Int32) (x4 : Int32) (x5 : Int32) (rf_ : Int32) (ol : okL nw p0), (p1.toInt - x5.toInt).toNat < n → f_X6_placeBehind rf sz ac sp ou tx nw tr dy kp ik p0 p1 = f_X6_placeBehind_L59 sz ac sp ou tx nw tr dy kp ik p0 p1 n x3 x4 x5 rf_ → ∀ (H : Heap) (locs : List Loc), va_P D vwCl [(a0, .inr (5, [.int rf_, .ref a1, .int sz, .ref a2, .ref a3, .ref a4, .int ac, .ref a5, .ref a6, .int sp, .int ou])), (a1, .inl (y 0, 120, .inl tx)), (a2, .inl (y 0, 78, .inl nw)), (a3, .inl (y 0, 78, .inl tr)), (a4, .inl (y 0, 1092, .inl dy)), (a5, .inl (y 0, 156, .inl kp)), (a6, .inl (y 2, 2, .inl ik))] H → va_D A [(a0, .inr (5, [.int rf_, .ref a1, .int sz, .ref a2, .ref a3, .ref a4, .int ac, .ref a5, .ref a6, .int sp, .int ou])), (a1, .inl (y 0, 120, .inl tx)), (a2, .inl (y 0, 78, .inl nw)), (a3, .inl (y 0, 78, .inl tr)), (a4, .inl (y 0, 1092, .inl dy)), (a5, .inl (y 0, 156, .inl kp)), (a6, .inl (y 2, 2, .inl ik))] → va_S A s.heap H locs → ∀ (ls : Array Slot), lv_has ls 6 [(0, .ref a0), (1, .int p0), (2, .int p1), (3, .int x3), (4, .int x4), (5, .int x5)] → W p l e (headSpec wsX6_placeBehind ({ frames := 2, cells := 0, slots := 0, locals := 46 })).room s m ([.ref a0, .int p0, .int p1] : List Value).toArray below meth c H locs 0 0 (MQ below (va_Qi (fun (v : Int32) (u : Int32 × Int32 × Int32 × Int32 × Int32 × (Nat → Int32) × gR × gR × (Nat → Int32) × (Nat → Int32) × (Nat → Int32)) => f_X6_placeBehind rf sz ac sp ou tx nw tr dy kp ik p0 p1 = (v, u)) (fun (u : Int32 × Int32 × Int32 × Int32 × Int32 × (Nat → Int32) × gR × gR × (Nat → Int32) × (Nat → Int32) × (Nat → Int32)) t => va_P D vwCl [(a0, .inr (5, [.int u.1, .ref a1, .int u.2.1, .ref a2, .ref a3, .ref a4, .int u.2.2.1, .ref a5, .ref a6, .int u.2.2.2.1, .int u.2.2.2.2.1])), (a1, .inl (y 0, 120, .inl u.2.2.2.2.2.1)), (a2, .inl (y 0, 78, .inl u.2.2.2.2.2.2.1)), (a3, .inl (y 0, 78, .inl u.2.2.2.2.2.2.2.1)), (a4, .inl (y 0, 1092, .inl u.2.2.2.2.2.2.2.2.1)), (a5, .inl (y 0, 156, .inl u.2.2.2.2.2.2.2.2.2.1)), (a6, .inl (y 2, 2, .inl u.2.2.2.2.2.2.2.2.2.2))] t.heap ∧ va_D (A) [(a0, .inr (5, [.int u.1, .ref a1, .int u.2.1, .ref a2, .ref a3, .ref a4, .int u.2.2.1, .ref a5, .ref a6, .int u.2.2.2.1, .int u.2.2.2.2.1])), (a1, .inl (y 0, 120, .inl u.2.2.2.2.2.1)), (a2, .inl (y 0, 78, .inl u.2.2.2.2.2.2.1)), (a3, .inl (y 0, 78, .inl u.2.2.2.2.2.2.2.1)), (a4, .inl (y 0, 1092, .inl u.2.2.2.2.2.2.2.2.1)), (a5, .inl (y 0, 156, .inl u.2.2.2.2.2.2.2.2.2.1)), (a6, .inl (y 2, 2, .inl u.2.2.2.2.2.2.2.2.2.2))]) A) ([.ref a0, .int p0, .int p1] : List Value).toArray s 0 0 A) (F0 m 59 ls []) := by
    intro n
    induction n with
    | zero =>
      intro x3 x4 x5 rf_ ol hμ
      exact absurd hμ (Nat.not_lt_zero _)
    | succ n ih =>
      intro x3 x4 x5 rf_ ol hμ hF H locs hP hD hS ls hl
      have hF := hF.trans (f_X6_placeBehind_L59_s sz ac sp ou tx nw tr dy kp ik p0 p1 n x3 x4 x5 rf_)
      refine lv_iload hx hb dX6_placeBehind_59 (lv_at hl 5 rfl) ?_
      refine lv_iload_n hx hb dX6_placeBehind_61 rfl (lv_at hl 2 rfl) ?_
      refine lv_icmp_ge (tgt := 111) hx hb dX6_placeBehind_62 (by decide) (fun c_1 => ?_) (fun c_1 => ?_)
      · have hF := hF.trans (if_pos c_1)
        refine lv_aload_n hx hb dX6_placeBehind_111 rfl (lv_at hl 0 rfl) ?_
        refine va_get (D := D) (ci := 5) (v := .ref a2) (C := RX6) (T := TX6) (N := 11) hx hb hts hi6 hown hE.1 hP 0 rfl rfl 3 (by decide) w_0 (fun _ h9 => h9) rfl dX6_placeBehind_112 ?_
        refine lv_iload_n hx hb dX6_placeBehind_115 rfl (lv_at hl 1 rfl) ?_
        refine lv_iload_n hx hb dX6_placeBehind_116 rfl (lv_at hl 3 rfl) ?_
        refine lv_iload hx hb dX6_placeBehind_117 (lv_at hl 4 rfl) ?_
        refine xs_calli (va_runS (As := [.ref a2, .int p0, .int x3, .int x4]) (rest := []) ⟨hx, hb, hml, hown, hts⟩ (c_X6_placeWith l D y a2 H.size nw p0 x3 x4 (okM_ne (okM_of hm.2.2 ol))) (va_cwS 4 hts gX6_placeBehind_X6_placeWith rfl rfl rfl hd_X6_placeWith ⟨Nat.le_of_ble_eq_true rfl, Nat.le_of_ble_eq_true rfl⟩) (gS hE (hP.sub [2] rfl) (hD.sub [2] (by decide) rfl)) rfl rfl hl.1 rfl (lv_room (Nat.le_of_ble_eq_true rfl)) dX6_placeBehind_119 ⟨Nat.le_of_ble_eq_true rfl, Nat.le_of_ble_eq_true rfl⟩) (fun v3 h2 => ?_)
        have hF := hF.trans (gLet_e h2)
        exact W.iret (v := v3) hx hb hr (fun t ht hW => ⟨⟨v3, ⟨rf_, sz, ac, sp, ou, tx, nw, tr, dy, kp, ik⟩, rfl, hF, ⟨by rw [ht]; exact hP, hD⟩⟩, hS.F ht⟩) hS.2.2 dX6_placeBehind_122
      · have hF := hF.trans (if_neg c_1)
        refine lv_iload hx hb dX6_placeBehind_65 (lv_at hl 4 rfl) ?_
        refine lv_if_le (tgt := 74) hx hb dX6_placeBehind_67 (by decide) (fun c_4 => ?_) (fun c_4 => ?_)
        · have hF := hF.trans (if_pos c_4)
          refine lv_iload_n hx hb dX6_placeBehind_74 rfl (lv_at hl 3 rfl) ?_
          refine lv_iconst (v := 1) hx hb dX6_placeBehind_75 (by decide) ?_
          refine lv_iadd hx hb dX6_placeBehind_76 ?_
          refine lv_aload_n hx hb dX6_placeBehind_77 rfl (lv_at hl 0 rfl) ?_
          refine va_get (D := D) (ci := 5) (v := .ref a2) (C := RX6) (T := TX6) (N := 11) hx hb hts hi6 hown hE.1 hP 0 rfl rfl 3 (by decide) w_0 (fun _ h9 => h9) rfl dX6_placeBehind_78 ?_
          refine lv_iconst (v := 0) hx hb dX6_placeBehind_81 (by decide) ?_
          refine xa_iald (k := 0) (v := nw 0) hx hb hE.1 hP 2 0 rfl rfl (xin (by decide)) rfl rfl dX6_placeBehind_82 ?_
          refine lv_irem hx hb dX6_placeBehind_83 (okM_ne (okM_of hm.2.2 ol)) ?_
          obtain ⟨v5, ev5⟩ : ∃ z : Int32, (x3 + 1) - (x3 + 1) / (nw 0) * (nw 0) = z := ⟨_, rfl⟩
          rw [ev5]
          have hF := hF.trans (gLet_e ev5)
          refine lv_istore_n (lv' := [(3, .int v5), (0, .ref a0), (1, .int p0), (2, .int p1), (4, .int x4), (5, .int x5)]) hx hb dX6_placeBehind_84 rfl hl (by decide) rfl (fun ls hl => ?_)
          refine lv_iload hx hb dX6_placeBehind_85 (lv_at hl 4 rfl) ?_
          refine lv_if_le (tgt := 97) hx hb dX6_placeBehind_87 (by decide) (fun c_6 => ?_) (fun c_6 => ?_)
          · have hF := hF.trans (if_pos c_6)
            refine lv_aload_n hx hb dX6_placeBehind_97 rfl (lv_at hl 1 rfl) ?_
            refine va_get (D := D) (ci := 5) (v := .ref a2) (C := RX6) (T := TX6) (N := 11) hx hb hts hi6 hown hE.1 hP 0 rfl rfl 3 (by decide) w_0 (fun _ h9 => h9) rfl dX6_placeBehind_98 ?_
            refine lv_iconst (v := 0) hx hb dX6_placeBehind_101 (by decide) ?_
            refine xa_iald (k := 0) (v := nw 0) hx hb hE.1 hP 2 0 rfl rfl (xin (by decide)) rfl rfl dX6_placeBehind_102 ?_
            refine lv_istore (lv' := [(4, .int (nw 0)), (3, .int v5), (0, .ref a0), (1, .int p0), (2, .int p1), (5, .int x5)]) hx hb dX6_placeBehind_103 hl (by decide) rfl (fun ls hl => ?_)
            refine lv_iinc (v := (x5 + 1)) (lv' := [(5, .int (x5 + 1)), (4, .int (nw 0)), (3, .int v5), (0, .ref a0), (1, .int p0), (2, .int p1)]) hx hb dX6_placeBehind_105 hl (k := 5) rfl rfl (by decide) rfl (fun ls hl => ?_)
            refine lv_goto (tgt := 59) hx hb dX6_placeBehind_108 (by decide) ?_
            exact ih v5 (nw 0) (x5 + 1) rf_ (ol) (lp_up (by assumption) hμ) hF _ _ hP hD hS ls (lv_sub hl [3, 4, 5, 2, 1, 0] rfl)
          · have hF := hF.trans (if_neg c_6)
            refine lv_iload hx hb dX6_placeBehind_90 (lv_at hl 4 rfl) ?_
            refine lv_iconst (v := 1) hx hb dX6_placeBehind_92 (by decide) ?_
            refine lv_isub hx hb dX6_placeBehind_93 ?_
            refine lv_goto (tgt := 103) hx hb dX6_placeBehind_94 (by decide) ?_
            refine lv_istore (lv' := [(4, .int (x4 - 1)), (3, .int v5), (0, .ref a0), (1, .int p0), (2, .int p1), (5, .int x5)]) hx hb dX6_placeBehind_103 hl (by decide) rfl (fun ls hl => ?_)
            refine lv_iinc (v := (x5 + 1)) (lv' := [(5, .int (x5 + 1)), (4, .int (x4 - 1)), (3, .int v5), (0, .ref a0), (1, .int p0), (2, .int p1)]) hx hb dX6_placeBehind_105 hl (k := 5) rfl rfl (by decide) rfl (fun ls hl => ?_)
            refine lv_goto (tgt := 59) hx hb dX6_placeBehind_108 (by decide) ?_
            exact ih v5 (x4 - 1) (x5 + 1) rf_ (ol) (lp_up (by assumption) hμ) hF _ _ hP hD hS ls (lv_sub hl [3, 4, 5, 2, 1, 0] rfl)
        · have hF := hF.trans (if_neg c_4)
          refine lv_iload_n hx hb dX6_placeBehind_70 rfl (lv_at hl 3 rfl) ?_
          refine lv_goto (tgt := 84) hx hb dX6_placeBehind_71 (by decide) ?_
          refine lv_istore_n (lv' := [(3, .int x3), (0, .ref a0), (1, .int p0), (2, .int p1), (4, .int x4), (5, .int x5)]) hx hb dX6_placeBehind_84 rfl hl (by decide) rfl (fun ls hl => ?_)
          refine lv_iload hx hb dX6_placeBehind_85 (lv_at hl 4 rfl) ?_
          refine lv_if_le (tgt := 97) hx hb dX6_placeBehind_87 (by decide) (fun c_7 => ?_) (fun c_7 => ?_)
          · have hF := hF.trans (if_pos c_7)
            refine lv_aload_n hx hb dX6_placeBehind_97 rfl (lv_at hl 1 rfl) ?_
            refine va_get (D := D) (ci := 5) (v := .ref a2) (C := RX6) (T := TX6) (N := 11) hx hb hts hi6 hown hE.1 hP 0 rfl rfl 3 (by decide) w_0 (fun _ h9 => h9) rfl dX6_placeBehind_98 ?_
            refine lv_iconst (v := 0) hx hb dX6_placeBehind_101 (by decide) ?_
            refine xa_iald (k := 0) (v := nw 0) hx hb hE.1 hP 2 0 rfl rfl (xin (by decide)) rfl rfl dX6_placeBehind_102 ?_
            refine lv_istore (lv' := [(4, .int (nw 0)), (3, .int x3), (0, .ref a0), (1, .int p0), (2, .int p1), (5, .int x5)]) hx hb dX6_placeBehind_103 hl (by decide) rfl (fun ls hl => ?_)
            refine lv_iinc (v := (x5 + 1)) (lv' := [(5, .int (x5 + 1)), (4, .int (nw 0)), (3, .int x3), (0, .ref a0), (1, .int p0), (2, .int p1)]) hx hb dX6_placeBehind_105 hl (k := 5) rfl rfl (by decide) rfl (fun ls hl => ?_)
            refine lv_goto (tgt := 59) hx hb dX6_placeBehind_108 (by decide) ?_
            exact ih x3 (nw 0) (x5 + 1) rf_ (ol) (lp_up (by assumption) hμ) hF _ _ hP hD hS ls (lv_sub hl [3, 4, 5, 2, 1, 0] rfl)
          · have hF := hF.trans (if_neg c_7)
            refine lv_iload hx hb dX6_placeBehind_90 (lv_at hl 4 rfl) ?_
            refine lv_iconst (v := 1) hx hb dX6_placeBehind_92 (by decide) ?_
            refine lv_isub hx hb dX6_placeBehind_93 ?_
            refine lv_goto (tgt := 103) hx hb dX6_placeBehind_94 (by decide) ?_
            refine lv_istore (lv' := [(4, .int (x4 - 1)), (3, .int x3), (0, .ref a0), (1, .int p0), (2, .int p1), (5, .int x5)]) hx hb dX6_placeBehind_103 hl (by decide) rfl (fun ls hl => ?_)
            refine lv_iinc (v := (x5 + 1)) (lv' := [(5, .int (x5 + 1)), (4, .int (x4 - 1)), (3, .int x3), (0, .ref a0), (1, .int p0), (2, .int p1)]) hx hb dX6_placeBehind_105 hl (k := 5) rfl rfl (by decide) rfl (fun ls hl => ?_)
            refine lv_goto (tgt := 59) hx hb dX6_placeBehind_108 (by decide) ?_
            exact ih x3 (x4 - 1) (x5 + 1) rf_ (ol) (lp_up (by assumption) hμ) hF _ _ hP hD hS ls (lv_sub hl [3, 4, 5, 2, 1, 0] rfl)
  have hF := f_X6_placeBehind_s rf sz ac sp ou tx nw tr dy kp ik p0 p1
  refine lv_aload_n hx hb dX6_placeBehind_0 rfl (lv_at hl 0 rfl) ?_
  refine lv_aload_n hx hb dX6_placeBehind_1 rfl (lv_at hl 0 rfl) ?_
  refine va_get (D := D) (ci := 5) (v := .ref a2) (C := RX6) (T := TX6) (N := 11) hx hb hts hi6 hown hE.1 hP 0 rfl rfl 3 (by decide) w_0 (fun _ h9 => h9) rfl dX6_placeBehind_2 ?_
  refine lv_iload_n hx hb dX6_placeBehind_5 rfl (lv_at hl 1 rfl) ?_
  refine xs_calli (va_runS (As := [.ref a2, .int p0]) (rest := [.ref a0]) ⟨hx, hb, hml, hown, hts⟩ (c_X6_isLine l D y a2 s.heap.size nw p0) (va_cwS 2 hts gX6_placeBehind_X6_isLine rfl rfl rfl hd_X6_isLine ⟨Nat.le_of_ble_eq_true rfl, Nat.le_of_ble_eq_true rfl⟩) (gS hE (hP.sub [2] rfl) (hD.sub [2] (by decide) rfl)) rfl rfl hl.1 rfl (lv_room (Nat.le_of_ble_eq_true rfl)) dX6_placeBehind_6 ⟨Nat.le_of_ble_eq_true rfl, Nat.le_of_ble_eq_true rfl⟩) (fun v9 h8 => ?_)
  have hF := hF.trans (gLet_e h8)
  refine lv_if_ne (tgt := 16) hx hb dX6_placeBehind_9 (by decide) (fun c_10 => ?_) (fun c_10 => ?_)
  · have hF := hF.trans (if_neg c_10)
    refine lv_iload_n hx hb dX6_placeBehind_16 rfl (lv_at hl 2 rfl) ?_
    refine lv_i2l (v := p1.toInt64) hx hb dX6_placeBehind_17 rfl ?_
    refine lv_lconst (v := 0) hx hb dX6_placeBehind_18 (by decide) ?_
    refine lv_ldc2 (v := 9999) hx hb hown w_2 dX6_placeBehind_19 ?_
    refine xs_calli (va_runS (As := [.long p1.toInt64, .long 0, .long 9999]) (rest := [.ref a0]) ⟨hx, hb, hml, hown, hts⟩ (c_X6_in l D y s.heap.size p1.toInt64 0 9999) (va_cwS 3 hts gX6_placeBehind_X6_in rfl rfl rfl hd_X6_in ⟨Nat.le_of_ble_eq_true rfl, Nat.le_of_ble_eq_true rfl⟩) (gS hE (hP.sub [] rfl) (hD.sub [] (by decide) rfl)) rfl rfl hl.1 rfl (lv_room (Nat.le_of_ble_eq_true rfl)) dX6_placeBehind_22 ⟨Nat.le_of_ble_eq_true rfl, Nat.le_of_ble_eq_true rfl⟩) (fun v12 h11 => ?_)
    have hF := hF.trans (gLet_e h11)
    refine lv_if_eq (tgt := 32) hx hb dX6_placeBehind_25 (by decide) (fun c_13 => ?_) (fun c_13 => ?_)
    · have hF := hF.trans (if_pos c_13)
      refine lv_iconst (v := 2) hx hb dX6_placeBehind_32 (by decide) ?_
      refine xw_calli (va_runV (As := [.int 2]) (rest := []) ⟨hx, hb, hml, hown, hts⟩ (c_X6_refused l D y a0 a1 a2 a3 a4 a5 a6 s.heap.size rf sz ac sp ou 2) (cwV 1 hts gX6_placeBehind_X6_refused rfl rfl rfl hd_X6_refused ⟨Nat.le_of_ble_eq_true rfl, Nat.le_of_ble_eq_true rfl⟩) (gV (q := (RX6, TX6, 11)) hE (hP.sub [0] rfl) (hD.sub [0] (by decide) rfl) 0 rfl rfl) rfl rfl hl.1 rfl (lv_room (Nat.le_of_ble_eq_true rfl)) dX6_placeBehind_33 ⟨Nat.le_of_ble_eq_true rfl, Nat.le_of_ble_eq_true rfl⟩) hP hD hS hA [0] rfl (by decide) (fun _ => rfl) (fun v16 u15 H locs h14 hP hD hS => ?_)
      have h14 := (rfd2 rf sz ac sp ou).symm.trans h14
      obtain ⟨rfl, rfl⟩ := Prod.mk.inj h14
      have hP : va_P D vwCl [(a0, .inr (5, [.int 2, .ref a1, .int sz, .ref a2, .ref a3, .ref a4, .int ac, .ref a5, .ref a6, .int sp, .int ou])), (a1, .inl (y 0, 120, .inl tx)), (a2, .inl (y 0, 78, .inl nw)), (a3, .inl (y 0, 78, .inl tr)), (a4, .inl (y 0, 1092, .inl dy)), (a5, .inl (y 0, 156, .inl kp)), (a6, .inl (y 2, 2, .inl ik))] H := hP
      have hD : va_D A [(a0, .inr (5, [.int 2, .ref a1, .int sz, .ref a2, .ref a3, .ref a4, .int ac, .ref a5, .ref a6, .int sp, .int ou])), (a1, .inl (y 0, 120, .inl tx)), (a2, .inl (y 0, 78, .inl nw)), (a3, .inl (y 0, 78, .inl tr)), (a4, .inl (y 0, 1092, .inl dy)), (a5, .inl (y 0, 156, .inl kp)), (a6, .inl (y 2, 2, .inl ik))] := hD
      refine lv_if_eq (tgt := 41) hx hb dX6_placeBehind_36 (by decide) (fun c_17 => absurd c_17 (by decide)) (fun c_17 => ?_)
      refine lv_iconst (v := 0) hx hb dX6_placeBehind_39 (by decide) ?_
      exact W.iret (v := 0) hx hb hr (fun t ht hW => ⟨⟨0, ⟨2, sz, ac, sp, ou, tx, nw, tr, dy, kp, ik⟩, rfl, hF, ⟨by rw [ht]; exact hP, hD⟩⟩, hS.F ht⟩) hS.2.2 dX6_placeBehind_40
    · have hF := hF.trans (if_neg c_13)
      refine lv_iconst (v := 0) hx hb dX6_placeBehind_28 (by decide) ?_
      refine lv_goto (tgt := 33) hx hb dX6_placeBehind_29 (by decide) ?_
      refine xw_calli (va_runV (As := [.int 0]) (rest := []) ⟨hx, hb, hml, hown, hts⟩ (c_X6_refused l D y a0 a1 a2 a3 a4 a5 a6 s.heap.size rf sz ac sp ou 0) (cwV 1 hts gX6_placeBehind_X6_refused rfl rfl rfl hd_X6_refused ⟨Nat.le_of_ble_eq_true rfl, Nat.le_of_ble_eq_true rfl⟩) (gV (q := (RX6, TX6, 11)) hE (hP.sub [0] rfl) (hD.sub [0] (by decide) rfl) 0 rfl rfl) rfl rfl hl.1 rfl (lv_room (Nat.le_of_ble_eq_true rfl)) dX6_placeBehind_33 ⟨Nat.le_of_ble_eq_true rfl, Nat.le_of_ble_eq_true rfl⟩) hP hD hS hA [0] rfl (by decide) (fun _ => rfl) (fun v20 u19 H locs h18 hP hD hS => ?_)
      have h18 := (rfd0 rf sz ac sp ou).symm.trans h18
      obtain ⟨rfl, rfl⟩ := Prod.mk.inj h18
      have hP : va_P D vwCl [(a0, .inr (5, [.int 0, .ref a1, .int sz, .ref a2, .ref a3, .ref a4, .int ac, .ref a5, .ref a6, .int sp, .int ou])), (a1, .inl (y 0, 120, .inl tx)), (a2, .inl (y 0, 78, .inl nw)), (a3, .inl (y 0, 78, .inl tr)), (a4, .inl (y 0, 1092, .inl dy)), (a5, .inl (y 0, 156, .inl kp)), (a6, .inl (y 2, 2, .inl ik))] H := hP
      have hD : va_D A [(a0, .inr (5, [.int 0, .ref a1, .int sz, .ref a2, .ref a3, .ref a4, .int ac, .ref a5, .ref a6, .int sp, .int ou])), (a1, .inl (y 0, 120, .inl tx)), (a2, .inl (y 0, 78, .inl nw)), (a3, .inl (y 0, 78, .inl tr)), (a4, .inl (y 0, 1092, .inl dy)), (a5, .inl (y 0, 156, .inl kp)), (a6, .inl (y 2, 2, .inl ik))] := hD
      refine lv_if_eq (tgt := 41) hx hb dX6_placeBehind_36 (by decide) (fun c_21 => ?_) (fun c_21 => absurd (by decide) c_21)
      refine lv_aload_n hx hb dX6_placeBehind_41 rfl (lv_at hl 0 rfl) ?_
      refine va_get (D := D) (ci := 5) (v := .ref a2) (C := RX6) (T := TX6) (N := 11) hx hb hts hi6 hown hE.1 hP 0 rfl rfl 3 (by decide) w_0 (fun _ h9 => h9) rfl dX6_placeBehind_42 ?_
      refine lv_iconst (v := 2) hx hb dX6_placeBehind_45 (by decide) ?_
      refine xa_iald (k := 2) (v := nw 2) hx hb hE.1 hP 2 0 rfl rfl (xin (by decide)) rfl rfl dX6_placeBehind_46 ?_
      refine lv_istore_n (lv' := [(3, .int (nw 2)), (0, .ref a0), (1, .int p0), (2, .int p1)]) hx hb dX6_placeBehind_47 rfl hl (by decide) rfl (fun ls hl => ?_)
      refine lv_aload_n hx hb dX6_placeBehind_48 rfl (lv_at hl 1 rfl) ?_
      refine va_get (D := D) (ci := 5) (v := .ref a2) (C := RX6) (T := TX6) (N := 11) hx hb hts hi6 hown hE.1 hP 0 rfl rfl 3 (by decide) w_0 (fun _ h9 => h9) rfl dX6_placeBehind_49 ?_
      refine lv_iconst (v := 3) hx hb dX6_placeBehind_52 (by decide) ?_
      refine xa_iald (k := 3) (v := nw 3) hx hb hE.1 hP 2 0 rfl rfl (xin (by decide)) rfl rfl dX6_placeBehind_53 ?_
      refine lv_istore (lv' := [(4, .int (nw 3)), (3, .int (nw 2)), (0, .ref a0), (1, .int p0), (2, .int p1)]) hx hb dX6_placeBehind_54 hl (by decide) rfl (fun ls hl => ?_)
      refine lv_iconst (v := 0) hx hb dX6_placeBehind_56 (by decide) ?_
      refine lv_istore (lv' := [(5, .int 0), (4, .int (nw 3)), (3, .int (nw 2)), (0, .ref a0), (1, .int p0), (2, .int p1)]) hx hb dX6_placeBehind_57 hl (by decide) rfl (fun ls hl => ?_)
      exact loop_59 _ (nw 2) (nw 3) 0 0 ((il_okL (r := nw) (l := p0) h8 (by assumption) hm.2.2.1)) (Nat.lt_succ_self _) hF _ _ hP hD hS ls (lv_sub hl [3, 4, 5, 2, 1, 0] rfl)
  · have hF := hF.trans (if_pos c_10)
    refine lv_iconst (v := 1) hx hb dX6_placeBehind_12 (by decide) ?_
    refine lv_goto (tgt := 33) hx hb dX6_placeBehind_13 (by decide) ?_
    refine xw_calli (va_runV (As := [.int 1]) (rest := []) ⟨hx, hb, hml, hown, hts⟩ (c_X6_refused l D y a0 a1 a2 a3 a4 a5 a6 s.heap.size rf sz ac sp ou 1) (cwV 1 hts gX6_placeBehind_X6_refused rfl rfl rfl hd_X6_refused ⟨Nat.le_of_ble_eq_true rfl, Nat.le_of_ble_eq_true rfl⟩) (gV (q := (RX6, TX6, 11)) hE (hP.sub [0] rfl) (hD.sub [0] (by decide) rfl) 0 rfl rfl) rfl rfl hl.1 rfl (lv_room (Nat.le_of_ble_eq_true rfl)) dX6_placeBehind_33 ⟨Nat.le_of_ble_eq_true rfl, Nat.le_of_ble_eq_true rfl⟩) hP hD hS hA [0] rfl (by decide) (fun _ => rfl) (fun v24 u23 H locs h22 hP hD hS => ?_)
    have h22 := (rfd1 rf sz ac sp ou).symm.trans h22
    obtain ⟨rfl, rfl⟩ := Prod.mk.inj h22
    have hP : va_P D vwCl [(a0, .inr (5, [.int 1, .ref a1, .int sz, .ref a2, .ref a3, .ref a4, .int ac, .ref a5, .ref a6, .int sp, .int ou])), (a1, .inl (y 0, 120, .inl tx)), (a2, .inl (y 0, 78, .inl nw)), (a3, .inl (y 0, 78, .inl tr)), (a4, .inl (y 0, 1092, .inl dy)), (a5, .inl (y 0, 156, .inl kp)), (a6, .inl (y 2, 2, .inl ik))] H := hP
    have hD : va_D A [(a0, .inr (5, [.int 1, .ref a1, .int sz, .ref a2, .ref a3, .ref a4, .int ac, .ref a5, .ref a6, .int sp, .int ou])), (a1, .inl (y 0, 120, .inl tx)), (a2, .inl (y 0, 78, .inl nw)), (a3, .inl (y 0, 78, .inl tr)), (a4, .inl (y 0, 1092, .inl dy)), (a5, .inl (y 0, 156, .inl kp)), (a6, .inl (y 2, 2, .inl ik))] := hD
    refine lv_if_eq (tgt := 41) hx hb dX6_placeBehind_36 (by decide) (fun c_25 => absurd c_25 (by decide)) (fun c_25 => ?_)
    refine lv_iconst (v := 0) hx hb dX6_placeBehind_39 (by decide) ?_
    exact W.iret (v := 0) hx hb hr (fun t ht hW => ⟨⟨0, ⟨1, sz, ac, sp, ou, tx, nw, tr, dy, kp, ik⟩, rfl, hF, ⟨by rw [ht]; exact hP, hD⟩⟩, hS.F ht⟩) hS.2.2 dX6_placeBehind_40

def f_X6_command (rf : Int32) (sz : Int32) (ac : Int32) (sp : Int32) (ou : Int32) (tr : gR) (p0 : Int32) (p1 : Int32) : Int32 × gR :=
    gLet (p1 - p1 / 1000 * 1000) (fun (v1 : Int32) =>
    gLet (f_X6_isLine tr (p1 / 1000)) (fun (v3 : Int32) =>
      if p0 = 1 then
        gLet (f_X6_canWrite tr (p1 / 1000)) (fun (v6 : Int32) =>
          if v6 = 0 then
            (0, tr)
          else
            gLet (f_X6_writeOn tr (p1 / 1000) v1) (fun (q11 : Int32 × gR) =>
              if q11.1 < 0 then
                (0, q11.2)
              else
                (1, q11.2)))
      else
        if p0 = 2 then
          if v3 = 0 then
            (0, tr)
          else
            gLet (f_X6_in v1.toInt64 1 500) (fun (v16 : Int32) =>
              if v16 = 0 then
                (0, tr)
              else
                gLet (f_X6_hammerOn tr (p1 / 1000) v1) (fun (q21 : Int32 × gR) =>
                  if q21.1 < 0 then
                    (0, q21.2)
                  else
                    (1, q21.2)))
        else
          if p0 = 3 then
            if (tr 0) ≤ 0 then
              (0, tr)
            else
              gLet (f_X6_in p1.toInt64 1 50) (fun (v26 : Int32) =>
                if v26 = 0 then
                  (0, tr)
                else
                  gLet (f_X6_allOn tr (p1 * (tr 0))) (fun (q31 : Int32 × gR) =>
                    if q31.1 < 0 then
                      (0, q31.2)
                    else
                      (1, q31.2)))
          else
            if p0 = 4 then
              gLet (p1 - p1 / 10 * 10) (fun (v34 : Int32) =>
                if 0 < v34 then
                  (0, tr)
                else
                  gLet ((p1 / 10) - (p1 / 10) / 1000 * 1000) (fun (v36 : Int32) =>
                    gLet (f_X6_isSetting (p1 / 10000) v36) (fun (v38 : Int32) =>
                      if v38 = 0 then
                        (0, tr)
                      else
                        gLet ((p1 / 10) - (p1 / 10) / 1000 * 1000) (fun (v40 : Int32) =>
                          gLet (upd tr ((11 + (p1 / 10000)).toNatClampNeg) v40) (fun (r41 : Nat → Int32) =>
                            (1, r41))))))
            else
              if p0 = 5 then
                if v3 = 0 then
                  (0, tr)
                else
                  if (tr ((13 + (p1 / 1000)).toNatClampNeg)) = v1 then
                    (1, tr)
                  else
                    (0, tr)
              else
                if p0 = 6 then
                  if v3 = 0 then
                    (0, tr)
                  else
                    if 100 ≤ v1 then
                      (0, tr)
                    else
                      gLet (f_X6_isPlace tr v1) (fun (v49 : Int32) =>
                        if v49 = 0 then
                          (0, tr)
                        else
                          gLet (f_X6_placeOf tr (p1 / 1000)) (fun (v52 : Int32) =>
                            if v52 = v1 then
                              (1, tr)
                            else
                              (0, tr)))
                else
                  if p0 = 7 then
                    gLet (f_X6_isPlace tr (p1 / 1000)) (fun (v56 : Int32) =>
                      if v56 = 0 then
                        (0, tr)
                      else
                        if v1 < (tr ((45 + (p1 / 1000)).toNatClampNeg)) then
                          (0, tr)
                        else
                          (1, tr))
                  else
                    if p0 = 8 then
                      if 2 ≤ p1 then
                        (0, tr)
                      else
                        if (tr 0) ≤ 0 then
                          (0, tr)
                        else
                          if (tr 8) = p1 then
                            (1, tr)
                          else
                            (0, tr)
                    else
                      if p0 = 9 then
                        if 100 ≤ p1 then
                          (0, tr)
                        else
                          if (tr 0) ≤ 0 then
                            (0, tr)
                          else
                            if (tr 3) = p1 then
                              (1, tr)
                            else
                              (0, tr)
                      else
                        (0, tr)))
theorem f_X6_command_s (rf : Int32) (sz : Int32) (ac : Int32) (sp : Int32) (ou : Int32) (tr : gR) (p0 : Int32) (p1 : Int32) : f_X6_command rf sz ac sp ou tr p0 p1 =
    (gLet (p1 - p1 / 1000 * 1000) (fun (v1 : Int32) =>
    gLet (f_X6_isLine tr (p1 / 1000)) (fun (v3 : Int32) =>
      if p0 = 1 then
        gLet (f_X6_canWrite tr (p1 / 1000)) (fun (v6 : Int32) =>
          if v6 = 0 then
            (0, tr)
          else
            gLet (f_X6_writeOn tr (p1 / 1000) v1) (fun (q11 : Int32 × gR) =>
              if q11.1 < 0 then
                (0, q11.2)
              else
                (1, q11.2)))
      else
        if p0 = 2 then
          if v3 = 0 then
            (0, tr)
          else
            gLet (f_X6_in v1.toInt64 1 500) (fun (v16 : Int32) =>
              if v16 = 0 then
                (0, tr)
              else
                gLet (f_X6_hammerOn tr (p1 / 1000) v1) (fun (q21 : Int32 × gR) =>
                  if q21.1 < 0 then
                    (0, q21.2)
                  else
                    (1, q21.2)))
        else
          if p0 = 3 then
            if (tr 0) ≤ 0 then
              (0, tr)
            else
              gLet (f_X6_in p1.toInt64 1 50) (fun (v26 : Int32) =>
                if v26 = 0 then
                  (0, tr)
                else
                  gLet (f_X6_allOn tr (p1 * (tr 0))) (fun (q31 : Int32 × gR) =>
                    if q31.1 < 0 then
                      (0, q31.2)
                    else
                      (1, q31.2)))
          else
            if p0 = 4 then
              gLet (p1 - p1 / 10 * 10) (fun (v34 : Int32) =>
                if 0 < v34 then
                  (0, tr)
                else
                  gLet ((p1 / 10) - (p1 / 10) / 1000 * 1000) (fun (v36 : Int32) =>
                    gLet (f_X6_isSetting (p1 / 10000) v36) (fun (v38 : Int32) =>
                      if v38 = 0 then
                        (0, tr)
                      else
                        gLet ((p1 / 10) - (p1 / 10) / 1000 * 1000) (fun (v40 : Int32) =>
                          gLet (upd tr ((11 + (p1 / 10000)).toNatClampNeg) v40) (fun (r41 : Nat → Int32) =>
                            (1, r41))))))
            else
              if p0 = 5 then
                if v3 = 0 then
                  (0, tr)
                else
                  if (tr ((13 + (p1 / 1000)).toNatClampNeg)) = v1 then
                    (1, tr)
                  else
                    (0, tr)
              else
                if p0 = 6 then
                  if v3 = 0 then
                    (0, tr)
                  else
                    if 100 ≤ v1 then
                      (0, tr)
                    else
                      gLet (f_X6_isPlace tr v1) (fun (v49 : Int32) =>
                        if v49 = 0 then
                          (0, tr)
                        else
                          gLet (f_X6_placeOf tr (p1 / 1000)) (fun (v52 : Int32) =>
                            if v52 = v1 then
                              (1, tr)
                            else
                              (0, tr)))
                else
                  if p0 = 7 then
                    gLet (f_X6_isPlace tr (p1 / 1000)) (fun (v56 : Int32) =>
                      if v56 = 0 then
                        (0, tr)
                      else
                        if v1 < (tr ((45 + (p1 / 1000)).toNatClampNeg)) then
                          (0, tr)
                        else
                          (1, tr))
                  else
                    if p0 = 8 then
                      if 2 ≤ p1 then
                        (0, tr)
                      else
                        if (tr 0) ≤ 0 then
                          (0, tr)
                        else
                          if (tr 8) = p1 then
                            (1, tr)
                          else
                            (0, tr)
                    else
                      if p0 = 9 then
                        if 100 ≤ p1 then
                          (0, tr)
                        else
                          if (tr 0) ≤ 0 then
                            (0, tr)
                          else
                            if (tr 3) = p1 then
                              (1, tr)
                            else
                              (0, tr)
                      else
                        (0, tr)))) := rfl
theorem bo_X6_command (rf : Int32) (sz : Int32) (ac : Int32) (sp : Int32) (ou : Int32) (tr : gR) (p0 : Int32) (p1 : Int32) : (f_X6_command rf sz ac sp ou tr p0 p1).1 = 0 ∨ (f_X6_command rf sz ac sp ou tr p0 p1).1 = 1 := by
  unfold f_X6_command
  refine gLet_i (P := fun z : Int32 × gR => z.1 = 0 ∨ z.1 = 1) (fun v1 ev1 => ?_)
  refine gLet_i (P := fun z : Int32 × gR => z.1 = 0 ∨ z.1 = 1) (fun v3 ev3 => ?_)
  refine gIf_i (P := fun z : Int32 × gR => z.1 = 0 ∨ z.1 = 1) (fun _ => ?_) (fun _ => ?_)
  · refine gLet_i (P := fun z : Int32 × gR => z.1 = 0 ∨ z.1 = 1) (fun v6 ev6 => ?_)
    refine gIf_i (P := fun z : Int32 × gR => z.1 = 0 ∨ z.1 = 1) (fun _ => ?_) (fun _ => ?_)
    · exact Or.inl rfl
    · refine gLet_i (P := fun z : Int32 × gR => z.1 = 0 ∨ z.1 = 1) (fun q11 eq11 => ?_)
      refine gIf_i (P := fun z : Int32 × gR => z.1 = 0 ∨ z.1 = 1) (fun _ => ?_) (fun _ => ?_)
      · exact Or.inl rfl
      · exact Or.inr rfl
  · refine gIf_i (P := fun z : Int32 × gR => z.1 = 0 ∨ z.1 = 1) (fun _ => ?_) (fun _ => ?_)
    · refine gIf_i (P := fun z : Int32 × gR => z.1 = 0 ∨ z.1 = 1) (fun _ => ?_) (fun _ => ?_)
      · exact Or.inl rfl
      · refine gLet_i (P := fun z : Int32 × gR => z.1 = 0 ∨ z.1 = 1) (fun v16 ev16 => ?_)
        refine gIf_i (P := fun z : Int32 × gR => z.1 = 0 ∨ z.1 = 1) (fun _ => ?_) (fun _ => ?_)
        · exact Or.inl rfl
        · refine gLet_i (P := fun z : Int32 × gR => z.1 = 0 ∨ z.1 = 1) (fun q21 eq21 => ?_)
          refine gIf_i (P := fun z : Int32 × gR => z.1 = 0 ∨ z.1 = 1) (fun _ => ?_) (fun _ => ?_)
          · exact Or.inl rfl
          · exact Or.inr rfl
    · refine gIf_i (P := fun z : Int32 × gR => z.1 = 0 ∨ z.1 = 1) (fun _ => ?_) (fun _ => ?_)
      · refine gIf_i (P := fun z : Int32 × gR => z.1 = 0 ∨ z.1 = 1) (fun _ => ?_) (fun _ => ?_)
        · exact Or.inl rfl
        · refine gLet_i (P := fun z : Int32 × gR => z.1 = 0 ∨ z.1 = 1) (fun v26 ev26 => ?_)
          refine gIf_i (P := fun z : Int32 × gR => z.1 = 0 ∨ z.1 = 1) (fun _ => ?_) (fun _ => ?_)
          · exact Or.inl rfl
          · refine gLet_i (P := fun z : Int32 × gR => z.1 = 0 ∨ z.1 = 1) (fun q31 eq31 => ?_)
            refine gIf_i (P := fun z : Int32 × gR => z.1 = 0 ∨ z.1 = 1) (fun _ => ?_) (fun _ => ?_)
            · exact Or.inl rfl
            · exact Or.inr rfl
      · refine gIf_i (P := fun z : Int32 × gR => z.1 = 0 ∨ z.1 = 1) (fun _ => ?_) (fun _ => ?_)
        · refine gLet_i (P := fun z : Int32 × gR => z.1 = 0 ∨ z.1 = 1) (fun v34 ev34 => ?_)
          refine gIf_i (P := fun z : Int32 × gR => z.1 = 0 ∨ z.1 = 1) (fun _ => ?_) (fun _ => ?_)
          · exact Or.inl rfl
          · refine gLet_i (P := fun z : Int32 × gR => z.1 = 0 ∨ z.1 = 1) (fun v36 ev36 => ?_)
            refine gLet_i (P := fun z : Int32 × gR => z.1 = 0 ∨ z.1 = 1) (fun v38 ev38 => ?_)
            refine gIf_i (P := fun z : Int32 × gR => z.1 = 0 ∨ z.1 = 1) (fun _ => ?_) (fun _ => ?_)
            · exact Or.inl rfl
            · refine gLet_i (P := fun z : Int32 × gR => z.1 = 0 ∨ z.1 = 1) (fun v40 ev40 => ?_)
              refine gLet_i (P := fun z : Int32 × gR => z.1 = 0 ∨ z.1 = 1) (fun r41 er41 => ?_)
              exact Or.inr rfl
        · refine gIf_i (P := fun z : Int32 × gR => z.1 = 0 ∨ z.1 = 1) (fun _ => ?_) (fun _ => ?_)
          · refine gIf_i (P := fun z : Int32 × gR => z.1 = 0 ∨ z.1 = 1) (fun _ => ?_) (fun _ => ?_)
            · exact Or.inl rfl
            · refine gIf_i (P := fun z : Int32 × gR => z.1 = 0 ∨ z.1 = 1) (fun _ => ?_) (fun _ => ?_)
              · exact Or.inr rfl
              · exact Or.inl rfl
          · refine gIf_i (P := fun z : Int32 × gR => z.1 = 0 ∨ z.1 = 1) (fun _ => ?_) (fun _ => ?_)
            · refine gIf_i (P := fun z : Int32 × gR => z.1 = 0 ∨ z.1 = 1) (fun _ => ?_) (fun _ => ?_)
              · exact Or.inl rfl
              · refine gIf_i (P := fun z : Int32 × gR => z.1 = 0 ∨ z.1 = 1) (fun _ => ?_) (fun _ => ?_)
                · exact Or.inl rfl
                · refine gLet_i (P := fun z : Int32 × gR => z.1 = 0 ∨ z.1 = 1) (fun v49 ev49 => ?_)
                  refine gIf_i (P := fun z : Int32 × gR => z.1 = 0 ∨ z.1 = 1) (fun _ => ?_) (fun _ => ?_)
                  · exact Or.inl rfl
                  · refine gLet_i (P := fun z : Int32 × gR => z.1 = 0 ∨ z.1 = 1) (fun v52 ev52 => ?_)
                    refine gIf_i (P := fun z : Int32 × gR => z.1 = 0 ∨ z.1 = 1) (fun _ => ?_) (fun _ => ?_)
                    · exact Or.inr rfl
                    · exact Or.inl rfl
            · refine gIf_i (P := fun z : Int32 × gR => z.1 = 0 ∨ z.1 = 1) (fun _ => ?_) (fun _ => ?_)
              · refine gLet_i (P := fun z : Int32 × gR => z.1 = 0 ∨ z.1 = 1) (fun v56 ev56 => ?_)
                refine gIf_i (P := fun z : Int32 × gR => z.1 = 0 ∨ z.1 = 1) (fun _ => ?_) (fun _ => ?_)
                · exact Or.inl rfl
                · refine gIf_i (P := fun z : Int32 × gR => z.1 = 0 ∨ z.1 = 1) (fun _ => ?_) (fun _ => ?_)
                  · exact Or.inl rfl
                  · exact Or.inr rfl
              · refine gIf_i (P := fun z : Int32 × gR => z.1 = 0 ∨ z.1 = 1) (fun _ => ?_) (fun _ => ?_)
                · refine gIf_i (P := fun z : Int32 × gR => z.1 = 0 ∨ z.1 = 1) (fun _ => ?_) (fun _ => ?_)
                  · exact Or.inl rfl
                  · refine gIf_i (P := fun z : Int32 × gR => z.1 = 0 ∨ z.1 = 1) (fun _ => ?_) (fun _ => ?_)
                    · exact Or.inl rfl
                    · refine gIf_i (P := fun z : Int32 × gR => z.1 = 0 ∨ z.1 = 1) (fun _ => ?_) (fun _ => ?_)
                      · exact Or.inr rfl
                      · exact Or.inl rfl
                · refine gIf_i (P := fun z : Int32 × gR => z.1 = 0 ∨ z.1 = 1) (fun _ => ?_) (fun _ => ?_)
                  · refine gIf_i (P := fun z : Int32 × gR => z.1 = 0 ∨ z.1 = 1) (fun _ => ?_) (fun _ => ?_)
                    · exact Or.inl rfl
                    · refine gIf_i (P := fun z : Int32 × gR => z.1 = 0 ∨ z.1 = 1) (fun _ => ?_) (fun _ => ?_)
                      · exact Or.inl rfl
                      · refine gIf_i (P := fun z : Int32 × gR => z.1 = 0 ∨ z.1 = 1) (fun _ => ?_) (fun _ => ?_)
                        · exact Or.inr rfl
                        · exact Or.inl rfl
                  · exact Or.inl rfl
theorem okN_X6_command (rf : Int32) (sz : Int32) (ac : Int32) (sp : Int32) (ou : Int32) (tr : gR) (p0 : Int32) (p1 : Int32) (on : okN tr) : okN (f_X6_command rf sz ac sp ou tr p0 p1).2 := by
  unfold f_X6_command
  refine gLet_i (P := fun z : Int32 × gR => okN z.2) (fun v1 ev1 => ?_)
  refine gLet_i (P := fun z : Int32 × gR => okN z.2) (fun v3 ev3 => ?_)
  refine gIf_i (P := fun z : Int32 × gR => okN z.2) (fun c1 => ?_) (fun c1 => ?_)
  · refine gLet_i (P := fun z : Int32 × gR => okN z.2) (fun v6 ev6 => ?_)
    refine gIf_i (P := fun z : Int32 × gR => okN z.2) (fun c2 => ?_) (fun c2 => ?_)
    · exact on
    · refine gLet_i (P := fun z : Int32 × gR => okN z.2) (fun q11 eq11 => ?_)
      refine gIf_i (P := fun z : Int32 × gR => okN z.2) (fun c3 => ?_) (fun c3 => ?_)
      · exact (show okN q11.2 from by rw [← eq11]; exact okN_of (okM_X6_writeOn _ _ _ (okM_of on (cw_okL ev6 (by assumption) on.1)) (cw_okL ev6 (by assumption) on.1)))
      · exact (show okN q11.2 from by rw [← eq11]; exact okN_of (okM_X6_writeOn _ _ _ (okM_of on (cw_okL ev6 (by assumption) on.1)) (cw_okL ev6 (by assumption) on.1)))
  · refine gIf_i (P := fun z : Int32 × gR => okN z.2) (fun c4 => ?_) (fun c4 => ?_)
    · refine gIf_i (P := fun z : Int32 × gR => okN z.2) (fun c5 => ?_) (fun c5 => ?_)
      · exact on
      · refine gLet_i (P := fun z : Int32 × gR => okN z.2) (fun v16 ev16 => ?_)
        refine gIf_i (P := fun z : Int32 × gR => okN z.2) (fun c6 => ?_) (fun c6 => ?_)
        · exact on
        · refine gLet_i (P := fun z : Int32 × gR => okN z.2) (fun q21 eq21 => ?_)
          refine gIf_i (P := fun z : Int32 × gR => okN z.2) (fun c7 => ?_) (fun c7 => ?_)
          · exact (show okN q21.2 from by rw [← eq21]; exact okN_of (okM_X6_hammerOn _ _ _ (okM_of on (il_okL ev3 (by assumption) on.1)) (il_okL ev3 (by assumption) on.1)))
          · exact (show okN q21.2 from by rw [← eq21]; exact okN_of (okM_X6_hammerOn _ _ _ (okM_of on (il_okL ev3 (by assumption) on.1)) (il_okL ev3 (by assumption) on.1)))
    · refine gIf_i (P := fun z : Int32 × gR => okN z.2) (fun c8 => ?_) (fun c8 => ?_)
      · refine gIf_i (P := fun z : Int32 × gR => okN z.2) (fun c9 => ?_) (fun c9 => ?_)
        · exact on
        · refine gLet_i (P := fun z : Int32 × gR => okN z.2) (fun v26 ev26 => ?_)
          refine gIf_i (P := fun z : Int32 × gR => okN z.2) (fun c10 => ?_) (fun c10 => ?_)
          · exact on
          · refine gLet_i (P := fun z : Int32 × gR => okN z.2) (fun q31 eq31 => ?_)
            refine gIf_i (P := fun z : Int32 × gR => okN z.2) (fun c11 => ?_) (fun c11 => ?_)
            · exact (show okN q31.2 from by rw [← eq31]; exact okN_of (okM_X6_allOn _ _ (okM_of2 on (by assumption))))
            · exact (show okN q31.2 from by rw [← eq31]; exact okN_of (okM_X6_allOn _ _ (okM_of2 on (by assumption))))
      · refine gIf_i (P := fun z : Int32 × gR => okN z.2) (fun c12 => ?_) (fun c12 => ?_)
        · refine gLet_i (P := fun z : Int32 × gR => okN z.2) (fun v34 ev34 => ?_)
          refine gIf_i (P := fun z : Int32 × gR => okN z.2) (fun c13 => ?_) (fun c13 => ?_)
          · exact on
          · refine gLet_i (P := fun z : Int32 × gR => okN z.2) (fun v36 ev36 => ?_)
            refine gLet_i (P := fun z : Int32 × gR => okN z.2) (fun v38 ev38 => ?_)
            refine gIf_i (P := fun z : Int32 × gR => okN z.2) (fun c14 => ?_) (fun c14 => ?_)
            · exact on
            · refine gLet_i (P := fun z : Int32 × gR => okN z.2) (fun v40 ev40 => ?_)
              refine gLet_i (P := fun z : Int32 × gR => okN z.2) (fun r41 er41 => ?_)
              exact (show okN r41 from by rw [← er41]; exact okN_upd (sg_ne ev38 (by assumption)) on)
        · refine gIf_i (P := fun z : Int32 × gR => okN z.2) (fun c15 => ?_) (fun c15 => ?_)
          · refine gIf_i (P := fun z : Int32 × gR => okN z.2) (fun c16 => ?_) (fun c16 => ?_)
            · exact on
            · refine gIf_i (P := fun z : Int32 × gR => okN z.2) (fun c17 => ?_) (fun c17 => ?_)
              · exact on
              · exact on
          · refine gIf_i (P := fun z : Int32 × gR => okN z.2) (fun c18 => ?_) (fun c18 => ?_)
            · refine gIf_i (P := fun z : Int32 × gR => okN z.2) (fun c19 => ?_) (fun c19 => ?_)
              · exact on
              · refine gIf_i (P := fun z : Int32 × gR => okN z.2) (fun c20 => ?_) (fun c20 => ?_)
                · exact on
                · refine gLet_i (P := fun z : Int32 × gR => okN z.2) (fun v49 ev49 => ?_)
                  refine gIf_i (P := fun z : Int32 × gR => okN z.2) (fun c21 => ?_) (fun c21 => ?_)
                  · exact on
                  · refine gLet_i (P := fun z : Int32 × gR => okN z.2) (fun v52 ev52 => ?_)
                    refine gIf_i (P := fun z : Int32 × gR => okN z.2) (fun c22 => ?_) (fun c22 => ?_)
                    · exact on
                    · exact on
            · refine gIf_i (P := fun z : Int32 × gR => okN z.2) (fun c23 => ?_) (fun c23 => ?_)
              · refine gLet_i (P := fun z : Int32 × gR => okN z.2) (fun v56 ev56 => ?_)
                refine gIf_i (P := fun z : Int32 × gR => okN z.2) (fun c24 => ?_) (fun c24 => ?_)
                · exact on
                · refine gIf_i (P := fun z : Int32 × gR => okN z.2) (fun c25 => ?_) (fun c25 => ?_)
                  · exact on
                  · exact on
              · refine gIf_i (P := fun z : Int32 × gR => okN z.2) (fun c26 => ?_) (fun c26 => ?_)
                · refine gIf_i (P := fun z : Int32 × gR => okN z.2) (fun c27 => ?_) (fun c27 => ?_)
                  · exact on
                  · refine gIf_i (P := fun z : Int32 × gR => okN z.2) (fun c28 => ?_) (fun c28 => ?_)
                    · exact on
                    · refine gIf_i (P := fun z : Int32 × gR => okN z.2) (fun c29 => ?_) (fun c29 => ?_)
                      · exact on
                      · exact on
                · refine gIf_i (P := fun z : Int32 × gR => okN z.2) (fun c30 => ?_) (fun c30 => ?_)
                  · refine gIf_i (P := fun z : Int32 × gR => okN z.2) (fun c31 => ?_) (fun c31 => ?_)
                    · exact on
                    · refine gIf_i (P := fun z : Int32 × gR => okN z.2) (fun c32 => ?_) (fun c32 => ?_)
                      · exact on
                      · refine gIf_i (P := fun z : Int32 × gR => okN z.2) (fun c33 => ?_) (fun c33 => ?_)
                        · exact on
                        · exact on
                  · exact on
theorem hd_X6_command : yX6_command.cls = RX6 ∧ yX6_command.cls ≠ "java/lang/invoke/MethodHandle" ∧ yX6_command.cls ≠ "java/lang/invoke/VarHandle" ∧ (parseMethodDescriptor yX6_command.desc).map (fun d => d.parameters.length) = some 2 := by decide +kernel
set_option maxHeartbeats 4000000 in
set_option maxRecDepth 100000 in
theorem c_X6_command (l : Launch) (D : va_G) (y : Nat → ClassId) (a0 a1 a2 a3 a4 a5 a6 : Nat) (zh : Nat) (rf : Int32) (sz : Int32) (ac : Int32) (sp : Int32) (ou : Int32) (tr : gR) (p0 : Int32) (p1 : Int32) (on : okN tr) : Met l yX6_command wsX6_command ({ frames := 4, cells := 0, slots := 0, locals := 91 }) (gP D y [.ref a0, .int p0, .int p1] zh [(a0, .inr (5, [.int rf, .ref a1, .int sz, .ref a2, .ref a3, .ref a4, .int ac, .ref a5, .ref a6, .int sp, .int ou])), (a3, .inl (y 0, 78, .inl tr))]) (va_Qi (fun (v : Int32) (u : gR) => f_X6_command rf sz ac sp ou tr p0 p1 = (v, u)) (fun (u : gR) t => va_P D vwCl [(a0, .inr (5, [.int rf, .ref a1, .int sz, .ref a2, .ref a3, .ref a4, .int ac, .ref a5, .ref a6, .int sp, .int ou])), (a3, .inl (y 0, 78, .inl u))] t.heap ∧ va_D (va_A [(a0, .inr (5, [.int rf, .ref a1, .int sz, .ref a2, .ref a3, .ref a4, .int ac, .ref a5, .ref a6, .int sp, .int ou])), (a3, .inl (y 0, 78, .inl tr))] zh) [(a0, .inr (5, [.int rf, .ref a1, .int sz, .ref a2, .ref a3, .ref a4, .int ac, .ref a5, .ref a6, .int sp, .int ou])), (a3, .inl (y 0, 78, .inl u))]) (va_A [(a0, .inr (5, [.int rf, .ref a1, .int sz, .ref a2, .ref a3, .ref a4, .int ac, .ref a5, .ref a6, .int sp, .int ou])), (a3, .inl (y 0, 78, .inl tr))] zh)) 0 0 (va_A [(a0, .inr (5, [.int rf, .ref a1, .int sz, .ref a2, .ref a3, .ref a4, .int ac, .ref a5, .ref a6, .int sp, .int ou])), (a3, .inl (y 0, 78, .inl tr))] zh) := by
  refine Met.ofW (cc := cX6_command) (maxL := 6) (ret := (some .boolean)) (by decide) rfl ?_
  intro p e s m args below meth c s₁ B hml hv
  obtain ⟨rfl, hsz, hP, hE, hD⟩ := hv
  have hx := B.exec
  have hb := B.bytes
  have hr := B.returns
  have hts := atoms_spec (ws := wsX6_command) B.pre
  have hown : s.vm.findClass RX6 = some m.cls := findClass_of_methodNamed B.named
  have hlocks := B.notSynchronized
  have w_0 := hts (.fieldLink RX6 16 "GapLinesModel" "trial" "[I") (List.mem_cons_of_mem _ (List.mem_append_left _ (List.mem_append_left _ (List.mem_of_getElem? (i := 0) rfl))))
  have hi6 : ∀ w ∈ u_ws RX6 TX6 11, w ∈ wsX6_command := fun w h => (List.mem_cons_of_mem _ (List.mem_append_right _ h))
  have w_2 := hts (.constantLong RX6 151 (500)) (List.mem_cons_of_mem _ (List.mem_append_left _ (List.mem_append_left _ (List.mem_of_getElem? (i := 1) rfl))))
  have w_3 := hts (.constantLong RX6 76 (50)) (List.mem_cons_of_mem _ (List.mem_append_left _ (List.mem_append_left _ (List.mem_of_getElem? (i := 2) rfl))))
  subst hsz
  have hD := hD.self (sz := s.heap.size)
  generalize hAe : va_A [(a0, .inr (5, [.int rf, .ref a1, .int sz, .ref a2, .ref a3, .ref a4, .int ac, .ref a5, .ref a6, .int sp, .int ou])), (a3, .inl (y 0, 78, .inl tr))] s.heap.size = A at hD ⊢
  have hA : ∀ q : Nat, s.heap.size ≤ q → A q := fun q h => by rw [← hAe]; exact Or.inr h
  have hS : va_S A s.heap s.heap [] := va_S.rf
  have hl := lv_entry ([.ref a0, .int p0, .int p1]) (n := 6) (Nat.le_of_ble_eq_true rfl)
  rw [lg_entry_eq]
  generalize (lg_sl ([.ref a0, .int p0, .int p1]) ++ List.replicate (6 - (lg_sl ([.ref a0, .int p0, .int p1])).length) Slot.unset).toArray = ls at hl ⊢
  have hl : lv_has ls 6 [(0, .ref a0), (1, .int p0), (2, .int p1)] := hl
  have hF := f_X6_command_s rf sz ac sp ou tr p0 p1
  refine lv_iload_n hx hb dX6_command_0 rfl (lv_at hl 2 rfl) ?_
  refine lv_sipush (v := 1000) hx hb dX6_command_1 (by decide) ?_
  refine lv_idiv hx hb dX6_command_4 (by decide) ?_
  refine lv_istore_n (lv' := [(3, .int (p1 / 1000)), (0, .ref a0), (1, .int p0), (2, .int p1)]) hx hb dX6_command_5 rfl hl (by decide) rfl (fun ls hl => ?_)
  refine lv_iload_n hx hb dX6_command_6 rfl (lv_at hl 3 rfl) ?_
  refine lv_sipush (v := 1000) hx hb dX6_command_7 (by decide) ?_
  refine lv_irem hx hb dX6_command_10 (by decide) ?_
  obtain ⟨v1, ev1⟩ : ∃ z : Int32, p1 - p1 / 1000 * 1000 = z := ⟨_, rfl⟩
  rw [ev1]
  have hF := hF.trans (gLet_e ev1)
  refine lv_istore (lv' := [(4, .int v1), (3, .int (p1 / 1000)), (0, .ref a0), (1, .int p0), (2, .int p1)]) hx hb dX6_command_11 hl (by decide) rfl (fun ls hl => ?_)
  refine lv_aload_n hx hb dX6_command_13 rfl (lv_at hl 2 rfl) ?_
  refine va_get (D := D) (ci := 5) (v := .ref a3) (C := RX6) (T := TX6) (N := 11) hx hb hts hi6 hown hE.1 hP 0 rfl rfl 4 (by decide) w_0 (fun _ h9 => h9) rfl dX6_command_14 ?_
  refine lv_iload_n hx hb dX6_command_17 rfl (lv_at hl 1 rfl) ?_
  refine xs_calli (va_runS (As := [.ref a3, .int (p1 / 1000)]) (rest := []) ⟨hx, hb, hml, hown, hts⟩ (c_X6_isLine l D y a3 s.heap.size tr (p1 / 1000)) (va_cwS 2 hts gX6_command_X6_isLine rfl rfl rfl hd_X6_isLine ⟨Nat.le_of_ble_eq_true rfl, Nat.le_of_ble_eq_true rfl⟩) (gS hE (hP.sub [1] rfl) (hD.sub [1] (by decide) rfl)) rfl rfl hl.1 rfl (lv_room (Nat.le_of_ble_eq_true rfl)) dX6_command_18 ⟨Nat.le_of_ble_eq_true rfl, Nat.le_of_ble_eq_true rfl⟩) (fun v3 h2 => ?_)
  have hF := hF.trans (gLet_e h2)
  refine lv_istore (lv' := [(5, .int v3), (4, .int v1), (3, .int (p1 / 1000)), (0, .ref a0), (1, .int p0), (2, .int p1)]) hx hb dX6_command_21 hl (by decide) rfl (fun ls hl => ?_)
  refine lv_iload_n hx hb dX6_command_23 rfl (lv_at hl 4 rfl) ?_
  by_cases c_4 : p0 = 1
  · have hF := hF.trans (if_pos c_4)
    refine lv_tableIn (off := 52) (tgt := 76) hx hb dX6_command_24 (by rw [c_4]; decide) (by rw [c_4]; decide) (by rw [c_4]; rfl) (by decide) ?_
    refine lv_aload_n hx hb dX6_command_76 rfl (lv_at hl 3 rfl) ?_
    refine va_get (D := D) (ci := 5) (v := .ref a3) (C := RX6) (T := TX6) (N := 11) hx hb hts hi6 hown hE.1 hP 0 rfl rfl 4 (by decide) w_0 (fun _ h9 => h9) rfl dX6_command_77 ?_
    refine lv_iload_n hx hb dX6_command_80 rfl (lv_at hl 2 rfl) ?_
    refine xs_calli (va_runS (As := [.ref a3, .int (p1 / 1000)]) (rest := []) ⟨hx, hb, hml, hown, hts⟩ (c_X6_canWrite l D y a3 s.heap.size tr (p1 / 1000)) (va_cwS 2 hts gX6_command_X6_canWrite rfl rfl rfl hd_X6_canWrite ⟨Nat.le_of_ble_eq_true rfl, Nat.le_of_ble_eq_true rfl⟩) (gS hE (hP.sub [1] rfl) (hD.sub [1] (by decide) rfl)) rfl rfl hl.1 rfl (lv_room (Nat.le_of_ble_eq_true rfl)) dX6_command_81 ⟨Nat.le_of_ble_eq_true rfl, Nat.le_of_ble_eq_true rfl⟩) (fun v6 h5 => ?_)
    have hF := hF.trans (gLet_e h5)
    refine lv_if_eq (tgt := 104) hx hb dX6_command_84 (by decide) (fun c_7 => ?_) (fun c_7 => ?_)
    · have hF := hF.trans (if_pos c_7)
      refine lv_iconst (v := 0) hx hb dX6_command_104 (by decide) ?_
      exact W.zret (v := 0) hx hb hr rfl (fun t ht hW => ⟨⟨0, tr, rfl, hF, ⟨by rw [ht]; exact hP, hD⟩⟩, hS.F ht⟩) hS.2.2 dX6_command_105
    · have hF := hF.trans (if_neg c_7)
      refine lv_aload_n hx hb dX6_command_87 rfl (lv_at hl 3 rfl) ?_
      refine va_get (D := D) (ci := 5) (v := .ref a3) (C := RX6) (T := TX6) (N := 11) hx hb hts hi6 hown hE.1 hP 0 rfl rfl 4 (by decide) w_0 (fun _ h9 => h9) rfl dX6_command_88 ?_
      refine lv_iload_n hx hb dX6_command_91 rfl (lv_at hl 2 rfl) ?_
      refine lv_iload hx hb dX6_command_92 (lv_at hl 1 rfl) ?_
      refine xw_calli (va_runS (As := [.ref a3, .int (p1 / 1000), .int v1]) (rest := []) ⟨hx, hb, hml, hown, hts⟩ (c_X6_writeOn l D y a3 s.heap.size tr (p1 / 1000) v1 (okM_of on (cw_okL h5 (by assumption) on.1)) (cw_okL h5 (by assumption) on.1)) (va_cwS 3 hts gX6_command_X6_writeOn rfl rfl rfl hd_X6_writeOn ⟨Nat.le_of_ble_eq_true rfl, Nat.le_of_ble_eq_true rfl⟩) (gS hE (hP.sub [1] rfl) (hD.sub [1] (by decide) rfl)) rfl rfl hl.1 rfl (lv_room (Nat.le_of_ble_eq_true rfl)) dX6_command_94 ⟨Nat.le_of_ble_eq_true rfl, Nat.le_of_ble_eq_true rfl⟩) hP hD hS hA [1] rfl (by decide) (fun _ => rfl) (fun v10 u9 H locs h8 hP hD hS => ?_)
      obtain ⟨q11, eq11⟩ : ∃ z : Int32 × gR, f_X6_writeOn tr (p1 / 1000) v1 = z := ⟨_, rfl⟩
      obtain ⟨rfl, rfl⟩ : q11.1 = v10 ∧ q11.2 = u9 := ⟨by rw [← eq11, h8], by rw [← eq11, h8]⟩
      have hF := hF.trans (gLet_e eq11)
      have hP : va_P D vwCl [(a0, .inr (5, [.int rf, .ref a1, .int sz, .ref a2, .ref a3, .ref a4, .int ac, .ref a5, .ref a6, .int sp, .int ou])), (a3, .inl (y 0, 78, .inl q11.2))] H := hP
      have hD : va_D A [(a0, .inr (5, [.int rf, .ref a1, .int sz, .ref a2, .ref a3, .ref a4, .int ac, .ref a5, .ref a6, .int sp, .int ou])), (a3, .inl (y 0, 78, .inl q11.2))] := hD
      refine lv_if_lt (tgt := 104) hx hb dX6_command_97 (by decide) (fun c_12 => ?_) (fun c_12 => ?_)
      · have hF := hF.trans (if_pos c_12)
        refine lv_iconst (v := 0) hx hb dX6_command_104 (by decide) ?_
        exact W.zret (v := 0) hx hb hr rfl (fun t ht hW => ⟨⟨0, q11.2, rfl, hF, ⟨by rw [ht]; exact hP, hD⟩⟩, hS.F ht⟩) hS.2.2 dX6_command_105
      · have hF := hF.trans (if_neg c_12)
        refine lv_iconst (v := 1) hx hb dX6_command_100 (by decide) ?_
        refine lv_goto (tgt := 105) hx hb dX6_command_101 (by decide) ?_
        exact W.zret (v := 1) hx hb hr rfl (fun t ht hW => ⟨⟨1, q11.2, rfl, hF, ⟨by rw [ht]; exact hP, hD⟩⟩, hS.F ht⟩) hS.2.2 dX6_command_105
  · have hF := hF.trans (if_neg c_4)
    by_cases c_13 : p0 = 2
    · have hF := hF.trans (if_pos c_13)
      refine lv_tableIn (off := 82) (tgt := 106) hx hb dX6_command_24 (by rw [c_13]; decide) (by rw [c_13]; decide) (by rw [c_13]; rfl) (by decide) ?_
      refine lv_iload hx hb dX6_command_106 (lv_at hl 0 rfl) ?_
      refine lv_if_eq (tgt := 141) hx hb dX6_command_108 (by decide) (fun c_14 => ?_) (fun c_14 => ?_)
      · have hF := hF.trans (if_pos c_14)
        refine lv_iconst (v := 0) hx hb dX6_command_141 (by decide) ?_
        exact W.zret (v := 0) hx hb hr rfl (fun t ht hW => ⟨⟨0, tr, rfl, hF, ⟨by rw [ht]; exact hP, hD⟩⟩, hS.F ht⟩) hS.2.2 dX6_command_142
      · have hF := hF.trans (if_neg c_14)
        refine lv_iload hx hb dX6_command_111 (lv_at hl 1 rfl) ?_
        refine lv_i2l (v := v1.toInt64) hx hb dX6_command_113 rfl ?_
        refine lv_lconst (v := 1) hx hb dX6_command_114 (by decide) ?_
        refine lv_ldc2 (v := 500) hx hb hown w_2 dX6_command_115 ?_
        refine xs_calli (va_runS (As := [.long v1.toInt64, .long 1, .long 500]) (rest := []) ⟨hx, hb, hml, hown, hts⟩ (c_X6_in l D y s.heap.size v1.toInt64 1 500) (va_cwS 3 hts gX6_command_X6_in rfl rfl rfl hd_X6_in ⟨Nat.le_of_ble_eq_true rfl, Nat.le_of_ble_eq_true rfl⟩) (gS hE (hP.sub [] rfl) (hD.sub [] (by decide) rfl)) rfl rfl hl.1 rfl (lv_room (Nat.le_of_ble_eq_true rfl)) dX6_command_118 ⟨Nat.le_of_ble_eq_true rfl, Nat.le_of_ble_eq_true rfl⟩) (fun v16 h15 => ?_)
        have hF := hF.trans (gLet_e h15)
        refine lv_if_eq (tgt := 141) hx hb dX6_command_121 (by decide) (fun c_17 => ?_) (fun c_17 => ?_)
        · have hF := hF.trans (if_pos c_17)
          refine lv_iconst (v := 0) hx hb dX6_command_141 (by decide) ?_
          exact W.zret (v := 0) hx hb hr rfl (fun t ht hW => ⟨⟨0, tr, rfl, hF, ⟨by rw [ht]; exact hP, hD⟩⟩, hS.F ht⟩) hS.2.2 dX6_command_142
        · have hF := hF.trans (if_neg c_17)
          refine lv_aload_n hx hb dX6_command_124 rfl (lv_at hl 3 rfl) ?_
          refine va_get (D := D) (ci := 5) (v := .ref a3) (C := RX6) (T := TX6) (N := 11) hx hb hts hi6 hown hE.1 hP 0 rfl rfl 4 (by decide) w_0 (fun _ h9 => h9) rfl dX6_command_125 ?_
          refine lv_iload_n hx hb dX6_command_128 rfl (lv_at hl 2 rfl) ?_
          refine lv_iload hx hb dX6_command_129 (lv_at hl 1 rfl) ?_
          refine xw_calli (va_runS (As := [.ref a3, .int (p1 / 1000), .int v1]) (rest := []) ⟨hx, hb, hml, hown, hts⟩ (c_X6_hammerOn l D y a3 s.heap.size tr (p1 / 1000) v1 (okM_of on (il_okL (r := tr) (l := (p1 / 1000)) h2 (by assumption) on.1)) (il_okL (r := tr) (l := (p1 / 1000)) h2 (by assumption) on.1)) (va_cwS 3 hts gX6_command_X6_hammerOn rfl rfl rfl hd_X6_hammerOn ⟨Nat.le_of_ble_eq_true rfl, Nat.le_of_ble_eq_true rfl⟩) (gS hE (hP.sub [1] rfl) (hD.sub [1] (by decide) rfl)) rfl rfl hl.1 rfl (lv_room (Nat.le_of_ble_eq_true rfl)) dX6_command_131 ⟨Nat.le_of_ble_eq_true rfl, Nat.le_of_ble_eq_true rfl⟩) hP hD hS hA [1] rfl (by decide) (fun _ => rfl) (fun v20 u19 H locs h18 hP hD hS => ?_)
          obtain ⟨q21, eq21⟩ : ∃ z : Int32 × gR, f_X6_hammerOn tr (p1 / 1000) v1 = z := ⟨_, rfl⟩
          obtain ⟨rfl, rfl⟩ : q21.1 = v20 ∧ q21.2 = u19 := ⟨by rw [← eq21, h18], by rw [← eq21, h18]⟩
          have hF := hF.trans (gLet_e eq21)
          have hP : va_P D vwCl [(a0, .inr (5, [.int rf, .ref a1, .int sz, .ref a2, .ref a3, .ref a4, .int ac, .ref a5, .ref a6, .int sp, .int ou])), (a3, .inl (y 0, 78, .inl q21.2))] H := hP
          have hD : va_D A [(a0, .inr (5, [.int rf, .ref a1, .int sz, .ref a2, .ref a3, .ref a4, .int ac, .ref a5, .ref a6, .int sp, .int ou])), (a3, .inl (y 0, 78, .inl q21.2))] := hD
          refine lv_if_lt (tgt := 141) hx hb dX6_command_134 (by decide) (fun c_22 => ?_) (fun c_22 => ?_)
          · have hF := hF.trans (if_pos c_22)
            refine lv_iconst (v := 0) hx hb dX6_command_141 (by decide) ?_
            exact W.zret (v := 0) hx hb hr rfl (fun t ht hW => ⟨⟨0, q21.2, rfl, hF, ⟨by rw [ht]; exact hP, hD⟩⟩, hS.F ht⟩) hS.2.2 dX6_command_142
          · have hF := hF.trans (if_neg c_22)
            refine lv_iconst (v := 1) hx hb dX6_command_137 (by decide) ?_
            refine lv_goto (tgt := 142) hx hb dX6_command_138 (by decide) ?_
            exact W.zret (v := 1) hx hb hr rfl (fun t ht hW => ⟨⟨1, q21.2, rfl, hF, ⟨by rw [ht]; exact hP, hD⟩⟩, hS.F ht⟩) hS.2.2 dX6_command_142
    · have hF := hF.trans (if_neg c_13)
      by_cases c_23 : p0 = 3
      · have hF := hF.trans (if_pos c_23)
        refine lv_tableIn (off := 119) (tgt := 143) hx hb dX6_command_24 (by rw [c_23]; decide) (by rw [c_23]; decide) (by rw [c_23]; rfl) (by decide) ?_
        refine lv_aload_n hx hb dX6_command_143 rfl (lv_at hl 3 rfl) ?_
        refine va_get (D := D) (ci := 5) (v := .ref a3) (C := RX6) (T := TX6) (N := 11) hx hb hts hi6 hown hE.1 hP 0 rfl rfl 4 (by decide) w_0 (fun _ h9 => h9) rfl dX6_command_144 ?_
        refine lv_iconst (v := 0) hx hb dX6_command_147 (by decide) ?_
        refine xa_iald (k := 0) (v := tr 0) hx hb hE.1 hP 1 0 rfl rfl (xin (by decide)) rfl rfl dX6_command_148 ?_
        refine lv_if_le (tgt := 186) hx hb dX6_command_149 (by decide) (fun c_24 => ?_) (fun c_24 => ?_)
        · have hF := hF.trans (if_pos c_24)
          refine lv_iconst (v := 0) hx hb dX6_command_186 (by decide) ?_
          exact W.zret (v := 0) hx hb hr rfl (fun t ht hW => ⟨⟨0, tr, rfl, hF, ⟨by rw [ht]; exact hP, hD⟩⟩, hS.F ht⟩) hS.2.2 dX6_command_187
        · have hF := hF.trans (if_neg c_24)
          refine lv_iload_n hx hb dX6_command_152 rfl (lv_at hl 5 rfl) ?_
          refine lv_i2l (v := p1.toInt64) hx hb dX6_command_153 rfl ?_
          refine lv_lconst (v := 1) hx hb dX6_command_154 (by decide) ?_
          refine lv_ldc2 (v := 50) hx hb hown w_3 dX6_command_155 ?_
          refine xs_calli (va_runS (As := [.long p1.toInt64, .long 1, .long 50]) (rest := []) ⟨hx, hb, hml, hown, hts⟩ (c_X6_in l D y s.heap.size p1.toInt64 1 50) (va_cwS 3 hts gX6_command_X6_in rfl rfl rfl hd_X6_in ⟨Nat.le_of_ble_eq_true rfl, Nat.le_of_ble_eq_true rfl⟩) (gS hE (hP.sub [] rfl) (hD.sub [] (by decide) rfl)) rfl rfl hl.1 rfl (lv_room (Nat.le_of_ble_eq_true rfl)) dX6_command_158 ⟨Nat.le_of_ble_eq_true rfl, Nat.le_of_ble_eq_true rfl⟩) (fun v26 h25 => ?_)
          have hF := hF.trans (gLet_e h25)
          refine lv_if_eq (tgt := 186) hx hb dX6_command_161 (by decide) (fun c_27 => ?_) (fun c_27 => ?_)
          · have hF := hF.trans (if_pos c_27)
            refine lv_iconst (v := 0) hx hb dX6_command_186 (by decide) ?_
            exact W.zret (v := 0) hx hb hr rfl (fun t ht hW => ⟨⟨0, tr, rfl, hF, ⟨by rw [ht]; exact hP, hD⟩⟩, hS.F ht⟩) hS.2.2 dX6_command_187
          · have hF := hF.trans (if_neg c_27)
            refine lv_aload_n hx hb dX6_command_164 rfl (lv_at hl 3 rfl) ?_
            refine va_get (D := D) (ci := 5) (v := .ref a3) (C := RX6) (T := TX6) (N := 11) hx hb hts hi6 hown hE.1 hP 0 rfl rfl 4 (by decide) w_0 (fun _ h9 => h9) rfl dX6_command_165 ?_
            refine lv_iload_n hx hb dX6_command_168 rfl (lv_at hl 5 rfl) ?_
            refine lv_aload_n hx hb dX6_command_169 rfl (lv_at hl 3 rfl) ?_
            refine va_get (D := D) (ci := 5) (v := .ref a3) (C := RX6) (T := TX6) (N := 11) hx hb hts hi6 hown hE.1 hP 0 rfl rfl 4 (by decide) w_0 (fun _ h9 => h9) rfl dX6_command_170 ?_
            refine lv_iconst (v := 0) hx hb dX6_command_173 (by decide) ?_
            refine xa_iald (k := 0) (v := tr 0) hx hb hE.1 hP 1 0 rfl rfl (xin (by decide)) rfl rfl dX6_command_174 ?_
            refine lv_imul hx hb dX6_command_175 ?_
            refine xw_calli (va_runS (As := [.ref a3, .int (p1 * (tr 0))]) (rest := []) ⟨hx, hb, hml, hown, hts⟩ (c_X6_allOn l D y a3 s.heap.size tr (p1 * (tr 0)) (okM_of2 on (by assumption))) (va_cwS 2 hts gX6_command_X6_allOn rfl rfl rfl hd_X6_allOn ⟨Nat.le_of_ble_eq_true rfl, Nat.le_of_ble_eq_true rfl⟩) (gS hE (hP.sub [1] rfl) (hD.sub [1] (by decide) rfl)) rfl rfl hl.1 rfl (lv_room (Nat.le_of_ble_eq_true rfl)) dX6_command_176 ⟨Nat.le_of_ble_eq_true rfl, Nat.le_of_ble_eq_true rfl⟩) hP hD hS hA [1] rfl (by decide) (fun _ => rfl) (fun v30 u29 H locs h28 hP hD hS => ?_)
            obtain ⟨q31, eq31⟩ : ∃ z : Int32 × gR, f_X6_allOn tr (p1 * (tr 0)) = z := ⟨_, rfl⟩
            obtain ⟨rfl, rfl⟩ : q31.1 = v30 ∧ q31.2 = u29 := ⟨by rw [← eq31, h28], by rw [← eq31, h28]⟩
            have hF := hF.trans (gLet_e eq31)
            have hP : va_P D vwCl [(a0, .inr (5, [.int rf, .ref a1, .int sz, .ref a2, .ref a3, .ref a4, .int ac, .ref a5, .ref a6, .int sp, .int ou])), (a3, .inl (y 0, 78, .inl q31.2))] H := hP
            have hD : va_D A [(a0, .inr (5, [.int rf, .ref a1, .int sz, .ref a2, .ref a3, .ref a4, .int ac, .ref a5, .ref a6, .int sp, .int ou])), (a3, .inl (y 0, 78, .inl q31.2))] := hD
            refine lv_if_lt (tgt := 186) hx hb dX6_command_179 (by decide) (fun c_32 => ?_) (fun c_32 => ?_)
            · have hF := hF.trans (if_pos c_32)
              refine lv_iconst (v := 0) hx hb dX6_command_186 (by decide) ?_
              exact W.zret (v := 0) hx hb hr rfl (fun t ht hW => ⟨⟨0, q31.2, rfl, hF, ⟨by rw [ht]; exact hP, hD⟩⟩, hS.F ht⟩) hS.2.2 dX6_command_187
            · have hF := hF.trans (if_neg c_32)
              refine lv_iconst (v := 1) hx hb dX6_command_182 (by decide) ?_
              refine lv_goto (tgt := 187) hx hb dX6_command_183 (by decide) ?_
              exact W.zret (v := 1) hx hb hr rfl (fun t ht hW => ⟨⟨1, q31.2, rfl, hF, ⟨by rw [ht]; exact hP, hD⟩⟩, hS.F ht⟩) hS.2.2 dX6_command_187
      · have hF := hF.trans (if_neg c_23)
        by_cases c_33 : p0 = 4
        · have hF := hF.trans (if_pos c_33)
          refine lv_tableIn (off := 164) (tgt := 188) hx hb dX6_command_24 (by rw [c_33]; decide) (by rw [c_33]; decide) (by rw [c_33]; rfl) (by decide) ?_
          refine lv_iload_n hx hb dX6_command_188 rfl (lv_at hl 5 rfl) ?_
          refine lv_bipush (v := 10) hx hb dX6_command_189 (by decide) ?_
          refine lv_irem hx hb dX6_command_191 (by decide) ?_
          obtain ⟨v34, ev34⟩ : ∃ z : Int32, p1 - p1 / 10 * 10 = z := ⟨_, rfl⟩
          rw [ev34]
          have hF := hF.trans (gLet_e ev34)
          refine lv_if_gt (tgt := 214) hx hb dX6_command_192 (by decide) (fun c_35 => ?_) (fun c_35 => ?_)
          · have hF := hF.trans (if_pos c_35)
            refine lv_iconst (v := 0) hx hb dX6_command_214 (by decide) ?_
            exact W.zret (v := 0) hx hb hr rfl (fun t ht hW => ⟨⟨0, tr, rfl, hF, ⟨by rw [ht]; exact hP, hD⟩⟩, hS.F ht⟩) hS.2.2 dX6_command_215
          · have hF := hF.trans (if_neg c_35)
            refine lv_iload_n hx hb dX6_command_195 rfl (lv_at hl 5 rfl) ?_
            refine lv_sipush (v := 10000) hx hb dX6_command_196 (by decide) ?_
            refine lv_idiv hx hb dX6_command_199 (by decide) ?_
            refine lv_iload_n hx hb dX6_command_200 rfl (lv_at hl 5 rfl) ?_
            refine lv_bipush (v := 10) hx hb dX6_command_201 (by decide) ?_
            refine lv_idiv hx hb dX6_command_203 (by decide) ?_
            refine lv_sipush (v := 1000) hx hb dX6_command_204 (by decide) ?_
            refine lv_irem hx hb dX6_command_207 (by decide) ?_
            obtain ⟨v36, ev36⟩ : ∃ z : Int32, (p1 / 10) - (p1 / 10) / 1000 * 1000 = z := ⟨_, rfl⟩
            rw [ev36]
            have hF := hF.trans (gLet_e ev36)
            refine xs_calli (va_runS (As := [.int (p1 / 10000), .int v36]) (rest := []) ⟨hx, hb, hml, hown, hts⟩ (c_X6_isSetting l D y s.heap.size (p1 / 10000) v36) (va_cwS 2 hts gX6_command_X6_isSetting rfl rfl rfl hd_X6_isSetting ⟨Nat.le_of_ble_eq_true rfl, Nat.le_of_ble_eq_true rfl⟩) (gS hE (hP.sub [] rfl) (hD.sub [] (by decide) rfl)) rfl rfl hl.1 rfl (lv_room (Nat.le_of_ble_eq_true rfl)) dX6_command_208 ⟨Nat.le_of_ble_eq_true rfl, Nat.le_of_ble_eq_true rfl⟩) (fun v38 h37 => ?_)
            have hF := hF.trans (gLet_e h37)
            refine lv_if_ne (tgt := 216) hx hb dX6_command_211 (by decide) (fun c_39 => ?_) (fun c_39 => ?_)
            · have hF := hF.trans (if_neg c_39)
              refine lv_aload_n hx hb dX6_command_216 rfl (lv_at hl 3 rfl) ?_
              refine va_get (D := D) (ci := 5) (v := .ref a3) (C := RX6) (T := TX6) (N := 11) hx hb hts hi6 hown hE.1 hP 0 rfl rfl 4 (by decide) w_0 (fun _ h9 => h9) rfl dX6_command_217 ?_
              refine lv_bipush (v := 11) hx hb dX6_command_220 (by decide) ?_
              refine lv_iload_n hx hb dX6_command_222 rfl (lv_at hl 5 rfl) ?_
              refine lv_sipush (v := 10000) hx hb dX6_command_223 (by decide) ?_
              refine lv_idiv hx hb dX6_command_226 (by decide) ?_
              refine lv_iadd hx hb dX6_command_227 ?_
              refine lv_iload_n hx hb dX6_command_228 rfl (lv_at hl 5 rfl) ?_
              refine lv_bipush (v := 10) hx hb dX6_command_229 (by decide) ?_
              refine lv_idiv hx hb dX6_command_231 (by decide) ?_
              refine lv_sipush (v := 1000) hx hb dX6_command_232 (by decide) ?_
              refine lv_irem hx hb dX6_command_235 (by decide) ?_
              obtain ⟨v40, ev40⟩ : ∃ z : Int32, (p1 / 10) - (p1 / 10) / 1000 * 1000 = z := ⟨_, rfl⟩
              rw [ev40]
              have hF := hF.trans (gLet_e ev40)
              refine xa_iast (k := (11 + (p1 / 10000)).toNatClampNeg) hx hb hE.1 hP hD hS 1 0 rfl rfl (sg_ix h37 (by assumption)) rfl dX6_command_236 (fun H locs hP hD hS => ?_)
              obtain ⟨r41, er41⟩ : ∃ z : Nat → Int32, upd tr ((11 + (p1 / 10000)).toNatClampNeg) v40 = z := ⟨_, rfl⟩
              have hF := hF.trans (gLet_e er41)
              rw [er41] at hP hD
              have hP : va_P D vwCl [(a0, .inr (5, [.int rf, .ref a1, .int sz, .ref a2, .ref a3, .ref a4, .int ac, .ref a5, .ref a6, .int sp, .int ou])), (a3, .inl (y 0, 78, .inl r41))] H := hP
              have hD : va_D A [(a0, .inr (5, [.int rf, .ref a1, .int sz, .ref a2, .ref a3, .ref a4, .int ac, .ref a5, .ref a6, .int sp, .int ou])), (a3, .inl (y 0, 78, .inl r41))] := hD
              refine lv_iconst (v := 1) hx hb dX6_command_237 (by decide) ?_
              exact W.zret (v := 1) hx hb hr rfl (fun t ht hW => ⟨⟨1, r41, rfl, hF, ⟨by rw [ht]; exact hP, hD⟩⟩, hS.F ht⟩) hS.2.2 dX6_command_238
            · have hF := hF.trans (if_pos c_39)
              refine lv_iconst (v := 0) hx hb dX6_command_214 (by decide) ?_
              exact W.zret (v := 0) hx hb hr rfl (fun t ht hW => ⟨⟨0, tr, rfl, hF, ⟨by rw [ht]; exact hP, hD⟩⟩, hS.F ht⟩) hS.2.2 dX6_command_215
        · have hF := hF.trans (if_neg c_33)
          by_cases c_42 : p0 = 5
          · have hF := hF.trans (if_pos c_42)
            refine lv_tableIn (off := 215) (tgt := 239) hx hb dX6_command_24 (by rw [c_42]; decide) (by rw [c_42]; decide) (by rw [c_42]; rfl) (by decide) ?_
            refine lv_iload hx hb dX6_command_239 (lv_at hl 0 rfl) ?_
            refine lv_if_eq (tgt := 262) hx hb dX6_command_241 (by decide) (fun c_43 => ?_) (fun c_43 => ?_)
            · have hF := hF.trans (if_pos c_43)
              refine lv_iconst (v := 0) hx hb dX6_command_262 (by decide) ?_
              exact W.zret (v := 0) hx hb hr rfl (fun t ht hW => ⟨⟨0, tr, rfl, hF, ⟨by rw [ht]; exact hP, hD⟩⟩, hS.F ht⟩) hS.2.2 dX6_command_263
            · have hF := hF.trans (if_neg c_43)
              refine lv_aload_n hx hb dX6_command_244 rfl (lv_at hl 3 rfl) ?_
              refine va_get (D := D) (ci := 5) (v := .ref a3) (C := RX6) (T := TX6) (N := 11) hx hb hts hi6 hown hE.1 hP 0 rfl rfl 4 (by decide) w_0 (fun _ h9 => h9) rfl dX6_command_245 ?_
              refine lv_bipush (v := 13) hx hb dX6_command_248 (by decide) ?_
              refine lv_iload_n hx hb dX6_command_250 rfl (lv_at hl 2 rfl) ?_
              refine lv_iadd hx hb dX6_command_251 ?_
              refine xa_iald (k := (13 + (p1 / 1000)).toNatClampNeg) (v := tr ((13 + (p1 / 1000)).toNatClampNeg)) hx hb hE.1 hP 1 0 rfl rfl (in13 (il_okL (r := tr) (l := (p1 / 1000)) h2 (by assumption) on.1).1 (by have := (il_okL (r := tr) (l := (p1 / 1000)) h2 (by assumption) on.1).2; have := on.2.1; omega)) rfl rfl dX6_command_252 ?_
              refine lv_iload hx hb dX6_command_253 (lv_at hl 1 rfl) ?_
              refine lv_icmp_ne (tgt := 262) hx hb dX6_command_255 (by decide) (fun c_44 => ?_) (fun c_44 => ?_)
              · have hF := hF.trans (if_neg c_44)
                refine lv_iconst (v := 0) hx hb dX6_command_262 (by decide) ?_
                exact W.zret (v := 0) hx hb hr rfl (fun t ht hW => ⟨⟨0, tr, rfl, hF, ⟨by rw [ht]; exact hP, hD⟩⟩, hS.F ht⟩) hS.2.2 dX6_command_263
              · have hF := hF.trans (if_pos c_44)
                refine lv_iconst (v := 1) hx hb dX6_command_258 (by decide) ?_
                refine lv_goto (tgt := 263) hx hb dX6_command_259 (by decide) ?_
                exact W.zret (v := 1) hx hb hr rfl (fun t ht hW => ⟨⟨1, tr, rfl, hF, ⟨by rw [ht]; exact hP, hD⟩⟩, hS.F ht⟩) hS.2.2 dX6_command_263
          · have hF := hF.trans (if_neg c_42)
            by_cases c_45 : p0 = 6
            · have hF := hF.trans (if_pos c_45)
              refine lv_tableIn (off := 240) (tgt := 264) hx hb dX6_command_24 (by rw [c_45]; decide) (by rw [c_45]; decide) (by rw [c_45]; rfl) (by decide) ?_
              refine lv_iload hx hb dX6_command_264 (lv_at hl 0 rfl) ?_
              refine lv_if_eq (tgt := 305) hx hb dX6_command_266 (by decide) (fun c_46 => ?_) (fun c_46 => ?_)
              · have hF := hF.trans (if_pos c_46)
                refine lv_iconst (v := 0) hx hb dX6_command_305 (by decide) ?_
                exact W.zret (v := 0) hx hb hr rfl (fun t ht hW => ⟨⟨0, tr, rfl, hF, ⟨by rw [ht]; exact hP, hD⟩⟩, hS.F ht⟩) hS.2.2 dX6_command_306
              · have hF := hF.trans (if_neg c_46)
                refine lv_iload hx hb dX6_command_269 (lv_at hl 1 rfl) ?_
                refine lv_bipush (v := 100) hx hb dX6_command_271 (by decide) ?_
                refine lv_icmp_ge (tgt := 305) hx hb dX6_command_273 (by decide) (fun c_47 => ?_) (fun c_47 => ?_)
                · have hF := hF.trans (if_pos c_47)
                  refine lv_iconst (v := 0) hx hb dX6_command_305 (by decide) ?_
                  exact W.zret (v := 0) hx hb hr rfl (fun t ht hW => ⟨⟨0, tr, rfl, hF, ⟨by rw [ht]; exact hP, hD⟩⟩, hS.F ht⟩) hS.2.2 dX6_command_306
                · have hF := hF.trans (if_neg c_47)
                  refine lv_aload_n hx hb dX6_command_276 rfl (lv_at hl 3 rfl) ?_
                  refine va_get (D := D) (ci := 5) (v := .ref a3) (C := RX6) (T := TX6) (N := 11) hx hb hts hi6 hown hE.1 hP 0 rfl rfl 4 (by decide) w_0 (fun _ h9 => h9) rfl dX6_command_277 ?_
                  refine lv_iload hx hb dX6_command_280 (lv_at hl 1 rfl) ?_
                  refine xs_calli (va_runS (As := [.ref a3, .int v1]) (rest := []) ⟨hx, hb, hml, hown, hts⟩ (c_X6_isPlace l D y a3 s.heap.size tr v1) (va_cwS 2 hts gX6_command_X6_isPlace rfl rfl rfl hd_X6_isPlace ⟨Nat.le_of_ble_eq_true rfl, Nat.le_of_ble_eq_true rfl⟩) (gS hE (hP.sub [1] rfl) (hD.sub [1] (by decide) rfl)) rfl rfl hl.1 rfl (lv_room (Nat.le_of_ble_eq_true rfl)) dX6_command_282 ⟨Nat.le_of_ble_eq_true rfl, Nat.le_of_ble_eq_true rfl⟩) (fun v49 h48 => ?_)
                  have hF := hF.trans (gLet_e h48)
                  refine lv_if_eq (tgt := 305) hx hb dX6_command_285 (by decide) (fun c_50 => ?_) (fun c_50 => ?_)
                  · have hF := hF.trans (if_pos c_50)
                    refine lv_iconst (v := 0) hx hb dX6_command_305 (by decide) ?_
                    exact W.zret (v := 0) hx hb hr rfl (fun t ht hW => ⟨⟨0, tr, rfl, hF, ⟨by rw [ht]; exact hP, hD⟩⟩, hS.F ht⟩) hS.2.2 dX6_command_306
                  · have hF := hF.trans (if_neg c_50)
                    refine lv_aload_n hx hb dX6_command_288 rfl (lv_at hl 3 rfl) ?_
                    refine va_get (D := D) (ci := 5) (v := .ref a3) (C := RX6) (T := TX6) (N := 11) hx hb hts hi6 hown hE.1 hP 0 rfl rfl 4 (by decide) w_0 (fun _ h9 => h9) rfl dX6_command_289 ?_
                    refine lv_iload_n hx hb dX6_command_292 rfl (lv_at hl 2 rfl) ?_
                    refine xs_calli (va_runS (As := [.ref a3, .int (p1 / 1000)]) (rest := []) ⟨hx, hb, hml, hown, hts⟩ (c_X6_placeOf l D y a3 s.heap.size tr (p1 / 1000) (okM_ne (okM_of on (il_okL (r := tr) (l := (p1 / 1000)) h2 (by assumption) on.1)))) (va_cwS 2 hts gX6_command_X6_placeOf rfl rfl rfl hd_X6_placeOf ⟨Nat.le_of_ble_eq_true rfl, Nat.le_of_ble_eq_true rfl⟩) (gS hE (hP.sub [1] rfl) (hD.sub [1] (by decide) rfl)) rfl rfl hl.1 rfl (lv_room (Nat.le_of_ble_eq_true rfl)) dX6_command_293 ⟨Nat.le_of_ble_eq_true rfl, Nat.le_of_ble_eq_true rfl⟩) (fun v52 h51 => ?_)
                    have hF := hF.trans (gLet_e h51)
                    refine lv_iload hx hb dX6_command_296 (lv_at hl 1 rfl) ?_
                    refine lv_icmp_ne (tgt := 305) hx hb dX6_command_298 (by decide) (fun c_53 => ?_) (fun c_53 => ?_)
                    · have hF := hF.trans (if_neg c_53)
                      refine lv_iconst (v := 0) hx hb dX6_command_305 (by decide) ?_
                      exact W.zret (v := 0) hx hb hr rfl (fun t ht hW => ⟨⟨0, tr, rfl, hF, ⟨by rw [ht]; exact hP, hD⟩⟩, hS.F ht⟩) hS.2.2 dX6_command_306
                    · have hF := hF.trans (if_pos c_53)
                      refine lv_iconst (v := 1) hx hb dX6_command_301 (by decide) ?_
                      refine lv_goto (tgt := 306) hx hb dX6_command_302 (by decide) ?_
                      exact W.zret (v := 1) hx hb hr rfl (fun t ht hW => ⟨⟨1, tr, rfl, hF, ⟨by rw [ht]; exact hP, hD⟩⟩, hS.F ht⟩) hS.2.2 dX6_command_306
            · have hF := hF.trans (if_neg c_45)
              by_cases c_54 : p0 = 7
              · have hF := hF.trans (if_pos c_54)
                refine lv_tableIn (off := 283) (tgt := 307) hx hb dX6_command_24 (by rw [c_54]; decide) (by rw [c_54]; decide) (by rw [c_54]; rfl) (by decide) ?_
                refine lv_aload_n hx hb dX6_command_307 rfl (lv_at hl 3 rfl) ?_
                refine va_get (D := D) (ci := 5) (v := .ref a3) (C := RX6) (T := TX6) (N := 11) hx hb hts hi6 hown hE.1 hP 0 rfl rfl 4 (by decide) w_0 (fun _ h9 => h9) rfl dX6_command_308 ?_
                refine lv_iload_n hx hb dX6_command_311 rfl (lv_at hl 2 rfl) ?_
                refine xs_calli (va_runS (As := [.ref a3, .int (p1 / 1000)]) (rest := []) ⟨hx, hb, hml, hown, hts⟩ (c_X6_isPlace l D y a3 s.heap.size tr (p1 / 1000)) (va_cwS 2 hts gX6_command_X6_isPlace rfl rfl rfl hd_X6_isPlace ⟨Nat.le_of_ble_eq_true rfl, Nat.le_of_ble_eq_true rfl⟩) (gS hE (hP.sub [1] rfl) (hD.sub [1] (by decide) rfl)) rfl rfl hl.1 rfl (lv_room (Nat.le_of_ble_eq_true rfl)) dX6_command_312 ⟨Nat.le_of_ble_eq_true rfl, Nat.le_of_ble_eq_true rfl⟩) (fun v56 h55 => ?_)
                have hF := hF.trans (gLet_e h55)
                refine lv_if_eq (tgt := 336) hx hb dX6_command_315 (by decide) (fun c_57 => ?_) (fun c_57 => ?_)
                · have hF := hF.trans (if_pos c_57)
                  refine lv_iconst (v := 0) hx hb dX6_command_336 (by decide) ?_
                  exact W.zret (v := 0) hx hb hr rfl (fun t ht hW => ⟨⟨0, tr, rfl, hF, ⟨by rw [ht]; exact hP, hD⟩⟩, hS.F ht⟩) hS.2.2 dX6_command_337
                · have hF := hF.trans (if_neg c_57)
                  refine lv_aload_n hx hb dX6_command_318 rfl (lv_at hl 3 rfl) ?_
                  refine va_get (D := D) (ci := 5) (v := .ref a3) (C := RX6) (T := TX6) (N := 11) hx hb hts hi6 hown hE.1 hP 0 rfl rfl 4 (by decide) w_0 (fun _ h9 => h9) rfl dX6_command_319 ?_
                  refine lv_bipush (v := 45) hx hb dX6_command_322 (by decide) ?_
                  refine lv_iload_n hx hb dX6_command_324 rfl (lv_at hl 2 rfl) ?_
                  refine lv_iadd hx hb dX6_command_325 ?_
                  refine xa_iald (k := (45 + (p1 / 1000)).toNatClampNeg) (v := tr ((45 + (p1 / 1000)).toNatClampNeg)) hx hb hE.1 hP 1 0 rfl rfl (in45 (ip_okP h55 (by assumption) on)) rfl rfl dX6_command_326 ?_
                  refine lv_iload hx hb dX6_command_327 (lv_at hl 1 rfl) ?_
                  refine lv_icmp_gt (tgt := 336) hx hb dX6_command_329 (by decide) (fun c_58 => ?_) (fun c_58 => ?_)
                  · have hF := hF.trans (if_pos c_58)
                    refine lv_iconst (v := 0) hx hb dX6_command_336 (by decide) ?_
                    exact W.zret (v := 0) hx hb hr rfl (fun t ht hW => ⟨⟨0, tr, rfl, hF, ⟨by rw [ht]; exact hP, hD⟩⟩, hS.F ht⟩) hS.2.2 dX6_command_337
                  · have hF := hF.trans (if_neg c_58)
                    refine lv_iconst (v := 1) hx hb dX6_command_332 (by decide) ?_
                    refine lv_goto (tgt := 337) hx hb dX6_command_333 (by decide) ?_
                    exact W.zret (v := 1) hx hb hr rfl (fun t ht hW => ⟨⟨1, tr, rfl, hF, ⟨by rw [ht]; exact hP, hD⟩⟩, hS.F ht⟩) hS.2.2 dX6_command_337
              · have hF := hF.trans (if_neg c_54)
                by_cases c_59 : p0 = 8
                · have hF := hF.trans (if_pos c_59)
                  refine lv_tableIn (off := 314) (tgt := 338) hx hb dX6_command_24 (by rw [c_59]; decide) (by rw [c_59]; decide) (by rw [c_59]; rfl) (by decide) ?_
                  refine lv_iload_n hx hb dX6_command_338 rfl (lv_at hl 5 rfl) ?_
                  refine lv_iconst (v := 2) hx hb dX6_command_339 (by decide) ?_
                  refine lv_icmp_ge (tgt := 367) hx hb dX6_command_340 (by decide) (fun c_60 => ?_) (fun c_60 => ?_)
                  · have hF := hF.trans (if_pos c_60)
                    refine lv_iconst (v := 0) hx hb dX6_command_367 (by decide) ?_
                    exact W.zret (v := 0) hx hb hr rfl (fun t ht hW => ⟨⟨0, tr, rfl, hF, ⟨by rw [ht]; exact hP, hD⟩⟩, hS.F ht⟩) hS.2.2 dX6_command_368
                  · have hF := hF.trans (if_neg c_60)
                    refine lv_aload_n hx hb dX6_command_343 rfl (lv_at hl 3 rfl) ?_
                    refine va_get (D := D) (ci := 5) (v := .ref a3) (C := RX6) (T := TX6) (N := 11) hx hb hts hi6 hown hE.1 hP 0 rfl rfl 4 (by decide) w_0 (fun _ h9 => h9) rfl dX6_command_344 ?_
                    refine lv_iconst (v := 0) hx hb dX6_command_347 (by decide) ?_
                    refine xa_iald (k := 0) (v := tr 0) hx hb hE.1 hP 1 0 rfl rfl (xin (by decide)) rfl rfl dX6_command_348 ?_
                    refine lv_if_le (tgt := 367) hx hb dX6_command_349 (by decide) (fun c_61 => ?_) (fun c_61 => ?_)
                    · have hF := hF.trans (if_pos c_61)
                      refine lv_iconst (v := 0) hx hb dX6_command_367 (by decide) ?_
                      exact W.zret (v := 0) hx hb hr rfl (fun t ht hW => ⟨⟨0, tr, rfl, hF, ⟨by rw [ht]; exact hP, hD⟩⟩, hS.F ht⟩) hS.2.2 dX6_command_368
                    · have hF := hF.trans (if_neg c_61)
                      refine lv_aload_n hx hb dX6_command_352 rfl (lv_at hl 3 rfl) ?_
                      refine va_get (D := D) (ci := 5) (v := .ref a3) (C := RX6) (T := TX6) (N := 11) hx hb hts hi6 hown hE.1 hP 0 rfl rfl 4 (by decide) w_0 (fun _ h9 => h9) rfl dX6_command_353 ?_
                      refine lv_bipush (v := 8) hx hb dX6_command_356 (by decide) ?_
                      refine xa_iald (k := 8) (v := tr 8) hx hb hE.1 hP 1 0 rfl rfl (xin (by decide)) rfl rfl dX6_command_358 ?_
                      refine lv_iload_n hx hb dX6_command_359 rfl (lv_at hl 5 rfl) ?_
                      refine lv_icmp_ne (tgt := 367) hx hb dX6_command_360 (by decide) (fun c_62 => ?_) (fun c_62 => ?_)
                      · have hF := hF.trans (if_neg c_62)
                        refine lv_iconst (v := 0) hx hb dX6_command_367 (by decide) ?_
                        exact W.zret (v := 0) hx hb hr rfl (fun t ht hW => ⟨⟨0, tr, rfl, hF, ⟨by rw [ht]; exact hP, hD⟩⟩, hS.F ht⟩) hS.2.2 dX6_command_368
                      · have hF := hF.trans (if_pos c_62)
                        refine lv_iconst (v := 1) hx hb dX6_command_363 (by decide) ?_
                        refine lv_goto (tgt := 368) hx hb dX6_command_364 (by decide) ?_
                        exact W.zret (v := 1) hx hb hr rfl (fun t ht hW => ⟨⟨1, tr, rfl, hF, ⟨by rw [ht]; exact hP, hD⟩⟩, hS.F ht⟩) hS.2.2 dX6_command_368
                · have hF := hF.trans (if_neg c_59)
                  by_cases c_63 : p0 = 9
                  · have hF := hF.trans (if_pos c_63)
                    refine lv_tableIn (off := 345) (tgt := 369) hx hb dX6_command_24 (by rw [c_63]; decide) (by rw [c_63]; decide) (by rw [c_63]; rfl) (by decide) ?_
                    refine lv_iload_n hx hb dX6_command_369 rfl (lv_at hl 5 rfl) ?_
                    refine lv_bipush (v := 100) hx hb dX6_command_370 (by decide) ?_
                    refine lv_icmp_ge (tgt := 398) hx hb dX6_command_372 (by decide) (fun c_64 => ?_) (fun c_64 => ?_)
                    · have hF := hF.trans (if_pos c_64)
                      refine lv_iconst (v := 0) hx hb dX6_command_398 (by decide) ?_
                      exact W.zret (v := 0) hx hb hr rfl (fun t ht hW => ⟨⟨0, tr, rfl, hF, ⟨by rw [ht]; exact hP, hD⟩⟩, hS.F ht⟩) hS.2.2 dX6_command_399
                    · have hF := hF.trans (if_neg c_64)
                      refine lv_aload_n hx hb dX6_command_375 rfl (lv_at hl 3 rfl) ?_
                      refine va_get (D := D) (ci := 5) (v := .ref a3) (C := RX6) (T := TX6) (N := 11) hx hb hts hi6 hown hE.1 hP 0 rfl rfl 4 (by decide) w_0 (fun _ h9 => h9) rfl dX6_command_376 ?_
                      refine lv_iconst (v := 0) hx hb dX6_command_379 (by decide) ?_
                      refine xa_iald (k := 0) (v := tr 0) hx hb hE.1 hP 1 0 rfl rfl (xin (by decide)) rfl rfl dX6_command_380 ?_
                      refine lv_if_le (tgt := 398) hx hb dX6_command_381 (by decide) (fun c_65 => ?_) (fun c_65 => ?_)
                      · have hF := hF.trans (if_pos c_65)
                        refine lv_iconst (v := 0) hx hb dX6_command_398 (by decide) ?_
                        exact W.zret (v := 0) hx hb hr rfl (fun t ht hW => ⟨⟨0, tr, rfl, hF, ⟨by rw [ht]; exact hP, hD⟩⟩, hS.F ht⟩) hS.2.2 dX6_command_399
                      · have hF := hF.trans (if_neg c_65)
                        refine lv_aload_n hx hb dX6_command_384 rfl (lv_at hl 3 rfl) ?_
                        refine va_get (D := D) (ci := 5) (v := .ref a3) (C := RX6) (T := TX6) (N := 11) hx hb hts hi6 hown hE.1 hP 0 rfl rfl 4 (by decide) w_0 (fun _ h9 => h9) rfl dX6_command_385 ?_
                        refine lv_iconst (v := 3) hx hb dX6_command_388 (by decide) ?_
                        refine xa_iald (k := 3) (v := tr 3) hx hb hE.1 hP 1 0 rfl rfl (xin (by decide)) rfl rfl dX6_command_389 ?_
                        refine lv_iload_n hx hb dX6_command_390 rfl (lv_at hl 5 rfl) ?_
                        refine lv_icmp_ne (tgt := 398) hx hb dX6_command_391 (by decide) (fun c_66 => ?_) (fun c_66 => ?_)
                        · have hF := hF.trans (if_neg c_66)
                          refine lv_iconst (v := 0) hx hb dX6_command_398 (by decide) ?_
                          exact W.zret (v := 0) hx hb hr rfl (fun t ht hW => ⟨⟨0, tr, rfl, hF, ⟨by rw [ht]; exact hP, hD⟩⟩, hS.F ht⟩) hS.2.2 dX6_command_399
                        · have hF := hF.trans (if_pos c_66)
                          refine lv_iconst (v := 1) hx hb dX6_command_394 (by decide) ?_
                          refine lv_goto (tgt := 399) hx hb dX6_command_395 (by decide) ?_
                          exact W.zret (v := 1) hx hb hr rfl (fun t ht hW => ⟨⟨1, tr, rfl, hF, ⟨by rw [ht]; exact hP, hD⟩⟩, hS.F ht⟩) hS.2.2 dX6_command_399
                  · have hF := hF.trans (if_neg c_63)
                    refine lv_tableOut (tgt := 400) hx hb dX6_command_24 (by have q := And.intro trivial trivial; have q0 := sw_ne c_4 (n := 1) (by decide); have q1 := sw_ne c_13 (n := 2) (by decide); have q2 := sw_ne c_23 (n := 3) (by decide); have q3 := sw_ne c_33 (n := 4) (by decide); have q4 := sw_ne c_42 (n := 5) (by decide); have q5 := sw_ne c_45 (n := 6) (by decide); have q6 := sw_ne c_54 (n := 7) (by decide); have q7 := sw_ne c_59 (n := 8) (by decide); have q8 := sw_ne c_63 (n := 9) (by decide); omega) (by decide) ?_
                    refine lv_iconst (v := 0) hx hb dX6_command_400 (by decide) ?_
                    exact W.zret (v := 0) hx hb hr rfl (fun t ht hW => ⟨⟨0, tr, rfl, hF, ⟨by rw [ht]; exact hP, hD⟩⟩, hS.F ht⟩) hS.2.2 dX6_command_401

def f_X6_save (rf : Int32) (sz : Int32) (ac : Int32) (sp : Int32) (ou : Int32) (tx : Nat → Int32) (nw : gR) (tr : gR) (dy : Nat → Int32) (kp : Nat → Int32) (ik : Nat → Int32) (p0 : Int32) : Int32 × Int32 × Int32 × Int32 × Int32 × Int32 × (Nat → Int32) × gR × gR × (Nat → Int32) × (Nat → Int32) × (Nat → Int32) :=
    gLet (f_X6_in p0.toInt64 0 1) (fun (v2 : Int32) =>
    if v2 = 0 then
      (0, 1, sz, ac, sp, ou, tx, nw, tr, dy, kp, ik)
    else
      gLet (f_X6_copyState 78 nw 156 kp 0 (78 * p0)) (fun (u13 : (Nat → Int32)) =>
        gLet (upd ik p0.toNatClampNeg 1) (fun (r14 : Nat → Int32) =>
          ((nw 5), 0, sz, ac, sp, ou, tx, nw, tr, dy, u13, r14))))
theorem f_X6_save_s (rf : Int32) (sz : Int32) (ac : Int32) (sp : Int32) (ou : Int32) (tx : Nat → Int32) (nw : gR) (tr : gR) (dy : Nat → Int32) (kp : Nat → Int32) (ik : Nat → Int32) (p0 : Int32) : f_X6_save rf sz ac sp ou tx nw tr dy kp ik p0 =
    (gLet (f_X6_in p0.toInt64 0 1) (fun (v2 : Int32) =>
    if v2 = 0 then
      (0, 1, sz, ac, sp, ou, tx, nw, tr, dy, kp, ik)
    else
      gLet (f_X6_copyState 78 nw 156 kp 0 (78 * p0)) (fun (u13 : (Nat → Int32)) =>
        gLet (upd ik p0.toNatClampNeg 1) (fun (r14 : Nat → Int32) =>
          ((nw 5), 0, sz, ac, sp, ou, tx, nw, tr, dy, u13, r14))))) := rfl
theorem hd_X6_save : yX6_save.cls = RX6 ∧ yX6_save.cls ≠ "java/lang/invoke/MethodHandle" ∧ yX6_save.cls ≠ "java/lang/invoke/VarHandle" ∧ (parseMethodDescriptor yX6_save.desc).map (fun d => d.parameters.length) = some 1 := by decide +kernel
set_option maxHeartbeats 4000000 in
set_option maxRecDepth 100000 in
theorem c_X6_save (l : Launch) (D : va_G) (y : Nat → ClassId) (a0 a1 a2 a3 a4 a5 a6 : Nat) (zh : Nat) (rf : Int32) (sz : Int32) (ac : Int32) (sp : Int32) (ou : Int32) (tx : Nat → Int32) (nw : gR) (tr : gR) (dy : Nat → Int32) (kp : Nat → Int32) (ik : Nat → Int32) (p0 : Int32) (hm : okMd sz ac nw) : Met l yX6_save wsX6_save ({ frames := 1, cells := 0, slots := 0, locals := 25 }) (gP D y [.ref a0, .int p0] zh [(a0, .inr (5, [.int rf, .ref a1, .int sz, .ref a2, .ref a3, .ref a4, .int ac, .ref a5, .ref a6, .int sp, .int ou])), (a1, .inl (y 0, 120, .inl tx)), (a2, .inl (y 0, 78, .inl nw)), (a3, .inl (y 0, 78, .inl tr)), (a4, .inl (y 0, 1092, .inl dy)), (a5, .inl (y 0, 156, .inl kp)), (a6, .inl (y 2, 2, .inl ik))]) (va_Qi (fun (v : Int32) (u : Int32 × Int32 × Int32 × Int32 × Int32 × (Nat → Int32) × gR × gR × (Nat → Int32) × (Nat → Int32) × (Nat → Int32)) => f_X6_save rf sz ac sp ou tx nw tr dy kp ik p0 = (v, u)) (fun (u : Int32 × Int32 × Int32 × Int32 × Int32 × (Nat → Int32) × gR × gR × (Nat → Int32) × (Nat → Int32) × (Nat → Int32)) t => va_P D vwCl [(a0, .inr (5, [.int u.1, .ref a1, .int u.2.1, .ref a2, .ref a3, .ref a4, .int u.2.2.1, .ref a5, .ref a6, .int u.2.2.2.1, .int u.2.2.2.2.1])), (a1, .inl (y 0, 120, .inl u.2.2.2.2.2.1)), (a2, .inl (y 0, 78, .inl u.2.2.2.2.2.2.1)), (a3, .inl (y 0, 78, .inl u.2.2.2.2.2.2.2.1)), (a4, .inl (y 0, 1092, .inl u.2.2.2.2.2.2.2.2.1)), (a5, .inl (y 0, 156, .inl u.2.2.2.2.2.2.2.2.2.1)), (a6, .inl (y 2, 2, .inl u.2.2.2.2.2.2.2.2.2.2))] t.heap ∧ va_D (va_A [(a0, .inr (5, [.int rf, .ref a1, .int sz, .ref a2, .ref a3, .ref a4, .int ac, .ref a5, .ref a6, .int sp, .int ou])), (a1, .inl (y 0, 120, .inl tx)), (a2, .inl (y 0, 78, .inl nw)), (a3, .inl (y 0, 78, .inl tr)), (a4, .inl (y 0, 1092, .inl dy)), (a5, .inl (y 0, 156, .inl kp)), (a6, .inl (y 2, 2, .inl ik))] zh) [(a0, .inr (5, [.int u.1, .ref a1, .int u.2.1, .ref a2, .ref a3, .ref a4, .int u.2.2.1, .ref a5, .ref a6, .int u.2.2.2.1, .int u.2.2.2.2.1])), (a1, .inl (y 0, 120, .inl u.2.2.2.2.2.1)), (a2, .inl (y 0, 78, .inl u.2.2.2.2.2.2.1)), (a3, .inl (y 0, 78, .inl u.2.2.2.2.2.2.2.1)), (a4, .inl (y 0, 1092, .inl u.2.2.2.2.2.2.2.2.1)), (a5, .inl (y 0, 156, .inl u.2.2.2.2.2.2.2.2.2.1)), (a6, .inl (y 2, 2, .inl u.2.2.2.2.2.2.2.2.2.2))]) (va_A [(a0, .inr (5, [.int rf, .ref a1, .int sz, .ref a2, .ref a3, .ref a4, .int ac, .ref a5, .ref a6, .int sp, .int ou])), (a1, .inl (y 0, 120, .inl tx)), (a2, .inl (y 0, 78, .inl nw)), (a3, .inl (y 0, 78, .inl tr)), (a4, .inl (y 0, 1092, .inl dy)), (a5, .inl (y 0, 156, .inl kp)), (a6, .inl (y 2, 2, .inl ik))] zh)) 0 0 (va_A [(a0, .inr (5, [.int rf, .ref a1, .int sz, .ref a2, .ref a3, .ref a4, .int ac, .ref a5, .ref a6, .int sp, .int ou])), (a1, .inl (y 0, 120, .inl tx)), (a2, .inl (y 0, 78, .inl nw)), (a3, .inl (y 0, 78, .inl tr)), (a4, .inl (y 0, 1092, .inl dy)), (a5, .inl (y 0, 156, .inl kp)), (a6, .inl (y 2, 2, .inl ik))] zh) := by
  refine Met.ofW (cc := cX6_save) (maxL := 2) (ret := (some .int)) (by decide) rfl ?_
  intro p e s m args below meth c s₁ B hml hv
  obtain ⟨rfl, hsz, hP, hE, hD⟩ := hv
  have hx := B.exec
  have hb := B.bytes
  have hr := B.returns
  have hts := atoms_spec (ws := wsX6_save) B.pre
  have hown : s.vm.findClass RX6 = some m.cls := findClass_of_methodNamed B.named
  have hlocks := B.notSynchronized
  have w_0 := hts (.fieldLink RX6 13 "GapLinesModel" "now" "[I") (List.mem_cons_of_mem _ (List.mem_append_left _ (List.mem_of_getElem? (i := 0) rfl)))
  have hi6 : ∀ w ∈ u_ws RX6 TX6 11, w ∈ wsX6_save := fun w h => (List.mem_cons_of_mem _ (List.mem_append_right _ h))
  have w_2 := hts (.fieldLink RX6 22 "GapLinesModel" "kept" "[I") (List.mem_cons_of_mem _ (List.mem_append_left _ (List.mem_of_getElem? (i := 1) rfl)))
  have w_3 := hts (.fieldLink RX6 25 "GapLinesModel" "isKept" "[Z") (List.mem_cons_of_mem _ (List.mem_append_left _ (List.mem_of_getElem? (i := 2) rfl)))
  subst hsz
  have hD := hD.self (sz := s.heap.size)
  generalize hAe : va_A [(a0, .inr (5, [.int rf, .ref a1, .int sz, .ref a2, .ref a3, .ref a4, .int ac, .ref a5, .ref a6, .int sp, .int ou])), (a1, .inl (y 0, 120, .inl tx)), (a2, .inl (y 0, 78, .inl nw)), (a3, .inl (y 0, 78, .inl tr)), (a4, .inl (y 0, 1092, .inl dy)), (a5, .inl (y 0, 156, .inl kp)), (a6, .inl (y 2, 2, .inl ik))] s.heap.size = A at hD ⊢
  have hA : ∀ q : Nat, s.heap.size ≤ q → A q := fun q h => by rw [← hAe]; exact Or.inr h
  have hS : va_S A s.heap s.heap [] := va_S.rf
  have hl := lv_entry ([.ref a0, .int p0]) (n := 2) (Nat.le_of_ble_eq_true rfl)
  rw [lg_entry_eq]
  generalize (lg_sl ([.ref a0, .int p0]) ++ List.replicate (2 - (lg_sl ([.ref a0, .int p0])).length) Slot.unset).toArray = ls at hl ⊢
  have hl : lv_has ls 2 [(0, .ref a0), (1, .int p0)] := hl
  have hF := f_X6_save_s rf sz ac sp ou tx nw tr dy kp ik p0
  refine lv_aload_n hx hb dX6_save_0 rfl (lv_at hl 0 rfl) ?_
  refine lv_iload_n hx hb dX6_save_1 rfl (lv_at hl 1 rfl) ?_
  refine lv_i2l (v := p0.toInt64) hx hb dX6_save_2 rfl ?_
  refine lv_lconst (v := 0) hx hb dX6_save_3 (by decide) ?_
  refine lv_lconst (v := 1) hx hb dX6_save_4 (by decide) ?_
  refine xs_calli (va_runS (As := [.long p0.toInt64, .long 0, .long 1]) (rest := [.ref a0]) ⟨hx, hb, hml, hown, hts⟩ (c_X6_in l D y s.heap.size p0.toInt64 0 1) (va_cwS 3 hts gX6_save_X6_in rfl rfl rfl hd_X6_in ⟨Nat.le_of_ble_eq_true rfl, Nat.le_of_ble_eq_true rfl⟩) (gS hE (hP.sub [] rfl) (hD.sub [] (by decide) rfl)) rfl rfl hl.1 rfl (lv_room (Nat.le_of_ble_eq_true rfl)) dX6_save_5 ⟨Nat.le_of_ble_eq_true rfl, Nat.le_of_ble_eq_true rfl⟩) (fun v2 h1 => ?_)
  have hF := hF.trans (gLet_e h1)
  refine lv_if_eq (tgt := 15) hx hb dX6_save_8 (by decide) (fun c_3 => ?_) (fun c_3 => ?_)
  · have hF := hF.trans (if_pos c_3)
    refine lv_iconst (v := 1) hx hb dX6_save_15 (by decide) ?_
    refine xw_calli (va_runV (As := [.int 1]) (rest := []) ⟨hx, hb, hml, hown, hts⟩ (c_X6_refused l D y a0 a1 a2 a3 a4 a5 a6 s.heap.size rf sz ac sp ou 1) (cwV 1 hts gX6_save_X6_refused rfl rfl rfl hd_X6_refused ⟨Nat.le_of_ble_eq_true rfl, Nat.le_of_ble_eq_true rfl⟩) (gV (q := (RX6, TX6, 11)) hE (hP.sub [0] rfl) (hD.sub [0] (by decide) rfl) 0 rfl rfl) rfl rfl hl.1 rfl (lv_room (Nat.le_of_ble_eq_true rfl)) dX6_save_16 ⟨Nat.le_of_ble_eq_true rfl, Nat.le_of_ble_eq_true rfl⟩) hP hD hS hA [0] rfl (by decide) (fun _ => rfl) (fun v6 u5 H locs h4 hP hD hS => ?_)
    have h4 := (rfd1 rf sz ac sp ou).symm.trans h4
    obtain ⟨rfl, rfl⟩ := Prod.mk.inj h4
    have hP : va_P D vwCl [(a0, .inr (5, [.int 1, .ref a1, .int sz, .ref a2, .ref a3, .ref a4, .int ac, .ref a5, .ref a6, .int sp, .int ou])), (a1, .inl (y 0, 120, .inl tx)), (a2, .inl (y 0, 78, .inl nw)), (a3, .inl (y 0, 78, .inl tr)), (a4, .inl (y 0, 1092, .inl dy)), (a5, .inl (y 0, 156, .inl kp)), (a6, .inl (y 2, 2, .inl ik))] H := hP
    have hD : va_D A [(a0, .inr (5, [.int 1, .ref a1, .int sz, .ref a2, .ref a3, .ref a4, .int ac, .ref a5, .ref a6, .int sp, .int ou])), (a1, .inl (y 0, 120, .inl tx)), (a2, .inl (y 0, 78, .inl nw)), (a3, .inl (y 0, 78, .inl tr)), (a4, .inl (y 0, 1092, .inl dy)), (a5, .inl (y 0, 156, .inl kp)), (a6, .inl (y 2, 2, .inl ik))] := hD
    refine lv_if_eq (tgt := 24) hx hb dX6_save_19 (by decide) (fun c_7 => absurd c_7 (by decide)) (fun c_7 => ?_)
    refine lv_iconst (v := 0) hx hb dX6_save_22 (by decide) ?_
    exact W.iret (v := 0) hx hb hr (fun t ht hW => ⟨⟨0, ⟨1, sz, ac, sp, ou, tx, nw, tr, dy, kp, ik⟩, rfl, hF, ⟨by rw [ht]; exact hP, hD⟩⟩, hS.F ht⟩) hS.2.2 dX6_save_23
  · have hF := hF.trans (if_neg c_3)
    refine lv_iconst (v := 0) hx hb dX6_save_11 (by decide) ?_
    refine lv_goto (tgt := 16) hx hb dX6_save_12 (by decide) ?_
    refine xw_calli (va_runV (As := [.int 0]) (rest := []) ⟨hx, hb, hml, hown, hts⟩ (c_X6_refused l D y a0 a1 a2 a3 a4 a5 a6 s.heap.size rf sz ac sp ou 0) (cwV 1 hts gX6_save_X6_refused rfl rfl rfl hd_X6_refused ⟨Nat.le_of_ble_eq_true rfl, Nat.le_of_ble_eq_true rfl⟩) (gV (q := (RX6, TX6, 11)) hE (hP.sub [0] rfl) (hD.sub [0] (by decide) rfl) 0 rfl rfl) rfl rfl hl.1 rfl (lv_room (Nat.le_of_ble_eq_true rfl)) dX6_save_16 ⟨Nat.le_of_ble_eq_true rfl, Nat.le_of_ble_eq_true rfl⟩) hP hD hS hA [0] rfl (by decide) (fun _ => rfl) (fun v10 u9 H locs h8 hP hD hS => ?_)
    have h8 := (rfd0 rf sz ac sp ou).symm.trans h8
    obtain ⟨rfl, rfl⟩ := Prod.mk.inj h8
    have hP : va_P D vwCl [(a0, .inr (5, [.int 0, .ref a1, .int sz, .ref a2, .ref a3, .ref a4, .int ac, .ref a5, .ref a6, .int sp, .int ou])), (a1, .inl (y 0, 120, .inl tx)), (a2, .inl (y 0, 78, .inl nw)), (a3, .inl (y 0, 78, .inl tr)), (a4, .inl (y 0, 1092, .inl dy)), (a5, .inl (y 0, 156, .inl kp)), (a6, .inl (y 2, 2, .inl ik))] H := hP
    have hD : va_D A [(a0, .inr (5, [.int 0, .ref a1, .int sz, .ref a2, .ref a3, .ref a4, .int ac, .ref a5, .ref a6, .int sp, .int ou])), (a1, .inl (y 0, 120, .inl tx)), (a2, .inl (y 0, 78, .inl nw)), (a3, .inl (y 0, 78, .inl tr)), (a4, .inl (y 0, 1092, .inl dy)), (a5, .inl (y 0, 156, .inl kp)), (a6, .inl (y 2, 2, .inl ik))] := hD
    refine lv_if_eq (tgt := 24) hx hb dX6_save_19 (by decide) (fun c_11 => ?_) (fun c_11 => absurd (by decide) c_11)
    refine lv_aload_n hx hb dX6_save_24 rfl (lv_at hl 0 rfl) ?_
    refine va_get (D := D) (ci := 5) (v := .ref a2) (C := RX6) (T := TX6) (N := 11) hx hb hts hi6 hown hE.1 hP 0 rfl rfl 3 (by decide) w_0 (fun _ h9 => h9) rfl dX6_save_25 ?_
    refine lv_iconst (v := 0) hx hb dX6_save_28 (by decide) ?_
    refine lv_aload_n hx hb dX6_save_29 rfl (lv_at hl 0 rfl) ?_
    refine va_get (D := D) (ci := 5) (v := .ref a5) (C := RX6) (T := TX6) (N := 11) hx hb hts hi6 hown hE.1 hP 0 rfl rfl 7 (by decide) w_2 (fun _ h9 => h9) rfl dX6_save_30 ?_
    refine lv_bipush (v := 78) hx hb dX6_save_33 (by decide) ?_
    refine lv_iload_n hx hb dX6_save_35 rfl (lv_at hl 1 rfl) ?_
    refine lv_imul hx hb dX6_save_36 ?_
    refine xw_callv (va_runS (As := [.ref a2, .int 0, .ref a5, .int (78 * p0)]) (rest := []) ⟨hx, hb, hml, hown, hts⟩ (c_X6_copyState l D y a2 a5 H.size 78 nw 156 kp 0 (78 * p0) okA0 (okA78 1 (in01 h1 (by assumption)).1 (in01 h1 (by assumption)).2 (by decide) (by decide))) (va_cwS 4 hts gX6_save_X6_copyState rfl rfl rfl hd_X6_copyState ⟨Nat.le_of_ble_eq_true rfl, Nat.le_of_ble_eq_true rfl⟩) (gS hE (hP.sub [2, 5] rfl) (hD.sub [2, 5] (by decide) rfl)) rfl rfl hl.1 rfl (lv_room (Nat.le_of_ble_eq_true rfl)) dX6_save_37 ⟨Nat.le_of_ble_eq_true rfl, Nat.le_of_ble_eq_true rfl⟩) hP hD hS hA [2, 5] rfl (by decide) (fun _ => rfl) (fun u13 H locs h12 hP hD hS => ?_)
    have hF := hF.trans (gLet_e h12)
    have hP : va_P D vwCl [(a0, .inr (5, [.int 0, .ref a1, .int sz, .ref a2, .ref a3, .ref a4, .int ac, .ref a5, .ref a6, .int sp, .int ou])), (a1, .inl (y 0, 120, .inl tx)), (a2, .inl (y 0, 78, .inl nw)), (a3, .inl (y 0, 78, .inl tr)), (a4, .inl (y 0, 1092, .inl dy)), (a5, .inl (y 0, 156, .inl u13)), (a6, .inl (y 2, 2, .inl ik))] H := hP
    have hD : va_D A [(a0, .inr (5, [.int 0, .ref a1, .int sz, .ref a2, .ref a3, .ref a4, .int ac, .ref a5, .ref a6, .int sp, .int ou])), (a1, .inl (y 0, 120, .inl tx)), (a2, .inl (y 0, 78, .inl nw)), (a3, .inl (y 0, 78, .inl tr)), (a4, .inl (y 0, 1092, .inl dy)), (a5, .inl (y 0, 156, .inl u13)), (a6, .inl (y 2, 2, .inl ik))] := hD
    refine lv_aload_n hx hb dX6_save_40 rfl (lv_at hl 0 rfl) ?_
    refine va_get (D := D) (ci := 5) (v := .ref a6) (C := RX6) (T := TX6) (N := 11) hx hb hts hi6 hown hE.1 hP 0 rfl rfl 8 (by decide) w_3 (fun _ h9 => h9) rfl dX6_save_41 ?_
    refine lv_iload_n hx hb dX6_save_44 rfl (lv_at hl 1 rfl) ?_
    refine lv_iconst (v := 1) hx hb dX6_save_45 (by decide) ?_
    refine xa_zast (k := p0.toNatClampNeg) (x' := 1) hx hb hE.1 hP hD hS 6 2 rfl rfl (xin2 (in01 h1 (by assumption)).1 (by have := (in01 h1 (by assumption)).2; omega)) rfl rfl dX6_save_46 (fun H locs hP hD hS => ?_)
    obtain ⟨r14, er14⟩ : ∃ z : Nat → Int32, upd ik p0.toNatClampNeg 1 = z := ⟨_, rfl⟩
    have hF := hF.trans (gLet_e er14)
    rw [er14] at hP hD
    have hP : va_P D vwCl [(a0, .inr (5, [.int 0, .ref a1, .int sz, .ref a2, .ref a3, .ref a4, .int ac, .ref a5, .ref a6, .int sp, .int ou])), (a1, .inl (y 0, 120, .inl tx)), (a2, .inl (y 0, 78, .inl nw)), (a3, .inl (y 0, 78, .inl tr)), (a4, .inl (y 0, 1092, .inl dy)), (a5, .inl (y 0, 156, .inl u13)), (a6, .inl (y 2, 2, .inl r14))] H := hP
    have hD : va_D A [(a0, .inr (5, [.int 0, .ref a1, .int sz, .ref a2, .ref a3, .ref a4, .int ac, .ref a5, .ref a6, .int sp, .int ou])), (a1, .inl (y 0, 120, .inl tx)), (a2, .inl (y 0, 78, .inl nw)), (a3, .inl (y 0, 78, .inl tr)), (a4, .inl (y 0, 1092, .inl dy)), (a5, .inl (y 0, 156, .inl u13)), (a6, .inl (y 2, 2, .inl r14))] := hD
    refine lv_aload_n hx hb dX6_save_47 rfl (lv_at hl 0 rfl) ?_
    refine va_get (D := D) (ci := 5) (v := .ref a2) (C := RX6) (T := TX6) (N := 11) hx hb hts hi6 hown hE.1 hP 0 rfl rfl 3 (by decide) w_0 (fun _ h9 => h9) rfl dX6_save_48 ?_
    refine lv_iconst (v := 5) hx hb dX6_save_51 (by decide) ?_
    refine xa_iald (k := 5) (v := nw 5) hx hb hE.1 hP 2 0 rfl rfl (xin (by decide)) rfl rfl dX6_save_52 ?_
    exact W.iret (v := (nw 5)) hx hb hr (fun t ht hW => ⟨⟨(nw 5), ⟨0, sz, ac, sp, ou, tx, nw, tr, dy, u13, r14⟩, rfl, hF, ⟨by rw [ht]; exact hP, hD⟩⟩, hS.F ht⟩) hS.2.2 dX6_save_53

def f_X6_restore (rf : Int32) (sz : Int32) (ac : Int32) (sp : Int32) (ou : Int32) (tx : Nat → Int32) (nw : gR) (tr : gR) (dy : Nat → Int32) (kp : Nat → Int32) (ik : Nat → Int32) (p0 : Int32) : Int32 × Int32 × Int32 × Int32 × Int32 × Int32 × (Nat → Int32) × gR × gR × (Nat → Int32) × (Nat → Int32) × (Nat → Int32) :=
    gLet (f_X6_in p0.toInt64 0 1) (fun (v2 : Int32) =>
    if v2 = 0 then
      (0, 1, sz, ac, sp, ou, tx, nw, tr, dy, kp, ik)
    else
      if (ik p0.toNatClampNeg) = 0 then
        (0, 2, sz, ac, sp, ou, tx, nw, tr, dy, kp, ik)
      else
        gLet (f_X6_copyState 156 kp 78 nw (78 * p0) 0) (fun (u10 : (Nat → Int32)) =>
          ((u10 5), 0, sz, 0, sp, ou, tx, u10, tr, dy, kp, ik)))
theorem f_X6_restore_s (rf : Int32) (sz : Int32) (ac : Int32) (sp : Int32) (ou : Int32) (tx : Nat → Int32) (nw : gR) (tr : gR) (dy : Nat → Int32) (kp : Nat → Int32) (ik : Nat → Int32) (p0 : Int32) : f_X6_restore rf sz ac sp ou tx nw tr dy kp ik p0 =
    (gLet (f_X6_in p0.toInt64 0 1) (fun (v2 : Int32) =>
    if v2 = 0 then
      (0, 1, sz, ac, sp, ou, tx, nw, tr, dy, kp, ik)
    else
      if (ik p0.toNatClampNeg) = 0 then
        (0, 2, sz, ac, sp, ou, tx, nw, tr, dy, kp, ik)
      else
        gLet (f_X6_copyState 156 kp 78 nw (78 * p0) 0) (fun (u10 : (Nat → Int32)) =>
          ((u10 5), 0, sz, 0, sp, ou, tx, u10, tr, dy, kp, ik)))) := rfl
theorem hd_X6_restore : yX6_restore.cls = RX6 ∧ yX6_restore.cls ≠ "java/lang/invoke/MethodHandle" ∧ yX6_restore.cls ≠ "java/lang/invoke/VarHandle" ∧ (parseMethodDescriptor yX6_restore.desc).map (fun d => d.parameters.length) = some 1 := by decide +kernel
set_option maxHeartbeats 4000000 in
set_option maxRecDepth 100000 in
theorem c_X6_restore (l : Launch) (D : va_G) (y : Nat → ClassId) (a0 a1 a2 a3 a4 a5 a6 : Nat) (zh : Nat) (rf : Int32) (sz : Int32) (ac : Int32) (sp : Int32) (ou : Int32) (tx : Nat → Int32) (nw : gR) (tr : gR) (dy : Nat → Int32) (kp : Nat → Int32) (ik : Nat → Int32) (p0 : Int32) (hm : okMd sz ac nw) : Met l yX6_restore wsX6_restore ({ frames := 1, cells := 0, slots := 0, locals := 25 }) (gP D y [.ref a0, .int p0] zh [(a0, .inr (5, [.int rf, .ref a1, .int sz, .ref a2, .ref a3, .ref a4, .int ac, .ref a5, .ref a6, .int sp, .int ou])), (a1, .inl (y 0, 120, .inl tx)), (a2, .inl (y 0, 78, .inl nw)), (a3, .inl (y 0, 78, .inl tr)), (a4, .inl (y 0, 1092, .inl dy)), (a5, .inl (y 0, 156, .inl kp)), (a6, .inl (y 2, 2, .inl ik))]) (va_Qi (fun (v : Int32) (u : Int32 × Int32 × Int32 × Int32 × Int32 × (Nat → Int32) × gR × gR × (Nat → Int32) × (Nat → Int32) × (Nat → Int32)) => f_X6_restore rf sz ac sp ou tx nw tr dy kp ik p0 = (v, u)) (fun (u : Int32 × Int32 × Int32 × Int32 × Int32 × (Nat → Int32) × gR × gR × (Nat → Int32) × (Nat → Int32) × (Nat → Int32)) t => va_P D vwCl [(a0, .inr (5, [.int u.1, .ref a1, .int u.2.1, .ref a2, .ref a3, .ref a4, .int u.2.2.1, .ref a5, .ref a6, .int u.2.2.2.1, .int u.2.2.2.2.1])), (a1, .inl (y 0, 120, .inl u.2.2.2.2.2.1)), (a2, .inl (y 0, 78, .inl u.2.2.2.2.2.2.1)), (a3, .inl (y 0, 78, .inl u.2.2.2.2.2.2.2.1)), (a4, .inl (y 0, 1092, .inl u.2.2.2.2.2.2.2.2.1)), (a5, .inl (y 0, 156, .inl u.2.2.2.2.2.2.2.2.2.1)), (a6, .inl (y 2, 2, .inl u.2.2.2.2.2.2.2.2.2.2))] t.heap ∧ va_D (va_A [(a0, .inr (5, [.int rf, .ref a1, .int sz, .ref a2, .ref a3, .ref a4, .int ac, .ref a5, .ref a6, .int sp, .int ou])), (a1, .inl (y 0, 120, .inl tx)), (a2, .inl (y 0, 78, .inl nw)), (a3, .inl (y 0, 78, .inl tr)), (a4, .inl (y 0, 1092, .inl dy)), (a5, .inl (y 0, 156, .inl kp)), (a6, .inl (y 2, 2, .inl ik))] zh) [(a0, .inr (5, [.int u.1, .ref a1, .int u.2.1, .ref a2, .ref a3, .ref a4, .int u.2.2.1, .ref a5, .ref a6, .int u.2.2.2.1, .int u.2.2.2.2.1])), (a1, .inl (y 0, 120, .inl u.2.2.2.2.2.1)), (a2, .inl (y 0, 78, .inl u.2.2.2.2.2.2.1)), (a3, .inl (y 0, 78, .inl u.2.2.2.2.2.2.2.1)), (a4, .inl (y 0, 1092, .inl u.2.2.2.2.2.2.2.2.1)), (a5, .inl (y 0, 156, .inl u.2.2.2.2.2.2.2.2.2.1)), (a6, .inl (y 2, 2, .inl u.2.2.2.2.2.2.2.2.2.2))]) (va_A [(a0, .inr (5, [.int rf, .ref a1, .int sz, .ref a2, .ref a3, .ref a4, .int ac, .ref a5, .ref a6, .int sp, .int ou])), (a1, .inl (y 0, 120, .inl tx)), (a2, .inl (y 0, 78, .inl nw)), (a3, .inl (y 0, 78, .inl tr)), (a4, .inl (y 0, 1092, .inl dy)), (a5, .inl (y 0, 156, .inl kp)), (a6, .inl (y 2, 2, .inl ik))] zh)) 0 0 (va_A [(a0, .inr (5, [.int rf, .ref a1, .int sz, .ref a2, .ref a3, .ref a4, .int ac, .ref a5, .ref a6, .int sp, .int ou])), (a1, .inl (y 0, 120, .inl tx)), (a2, .inl (y 0, 78, .inl nw)), (a3, .inl (y 0, 78, .inl tr)), (a4, .inl (y 0, 1092, .inl dy)), (a5, .inl (y 0, 156, .inl kp)), (a6, .inl (y 2, 2, .inl ik))] zh) := by
  refine Met.ofW (cc := cX6_restore) (maxL := 2) (ret := (some .int)) (by decide) rfl ?_
  intro p e s m args below meth c s₁ B hml hv
  obtain ⟨rfl, hsz, hP, hE, hD⟩ := hv
  have hx := B.exec
  have hb := B.bytes
  have hr := B.returns
  have hts := atoms_spec (ws := wsX6_restore) B.pre
  have hown : s.vm.findClass RX6 = some m.cls := findClass_of_methodNamed B.named
  have hlocks := B.notSynchronized
  have w_0 := hts (.fieldLink RX6 25 "GapLinesModel" "isKept" "[Z") (List.mem_cons_of_mem _ (List.mem_append_left _ (List.mem_of_getElem? (i := 0) rfl)))
  have hi6 : ∀ w ∈ u_ws RX6 TX6 11, w ∈ wsX6_restore := fun w h => (List.mem_cons_of_mem _ (List.mem_append_right _ h))
  have w_2 := hts (.fieldLink RX6 22 "GapLinesModel" "kept" "[I") (List.mem_cons_of_mem _ (List.mem_append_left _ (List.mem_of_getElem? (i := 1) rfl)))
  have w_3 := hts (.fieldLink RX6 13 "GapLinesModel" "now" "[I") (List.mem_cons_of_mem _ (List.mem_append_left _ (List.mem_of_getElem? (i := 2) rfl)))
  have w_4 := hts (.fieldLink RX6 131 "GapLinesModel" "acts" "I") (List.mem_cons_of_mem _ (List.mem_append_left _ (List.mem_of_getElem? (i := 3) rfl)))
  subst hsz
  have hD := hD.self (sz := s.heap.size)
  generalize hAe : va_A [(a0, .inr (5, [.int rf, .ref a1, .int sz, .ref a2, .ref a3, .ref a4, .int ac, .ref a5, .ref a6, .int sp, .int ou])), (a1, .inl (y 0, 120, .inl tx)), (a2, .inl (y 0, 78, .inl nw)), (a3, .inl (y 0, 78, .inl tr)), (a4, .inl (y 0, 1092, .inl dy)), (a5, .inl (y 0, 156, .inl kp)), (a6, .inl (y 2, 2, .inl ik))] s.heap.size = A at hD ⊢
  have hA : ∀ q : Nat, s.heap.size ≤ q → A q := fun q h => by rw [← hAe]; exact Or.inr h
  have hS : va_S A s.heap s.heap [] := va_S.rf
  have hl := lv_entry ([.ref a0, .int p0]) (n := 2) (Nat.le_of_ble_eq_true rfl)
  rw [lg_entry_eq]
  generalize (lg_sl ([.ref a0, .int p0]) ++ List.replicate (2 - (lg_sl ([.ref a0, .int p0])).length) Slot.unset).toArray = ls at hl ⊢
  have hl : lv_has ls 2 [(0, .ref a0), (1, .int p0)] := hl
  have hF := f_X6_restore_s rf sz ac sp ou tx nw tr dy kp ik p0
  refine lv_aload_n hx hb dX6_restore_0 rfl (lv_at hl 0 rfl) ?_
  refine lv_iload_n hx hb dX6_restore_1 rfl (lv_at hl 1 rfl) ?_
  refine lv_i2l (v := p0.toInt64) hx hb dX6_restore_2 rfl ?_
  refine lv_lconst (v := 0) hx hb dX6_restore_3 (by decide) ?_
  refine lv_lconst (v := 1) hx hb dX6_restore_4 (by decide) ?_
  refine xs_calli (va_runS (As := [.long p0.toInt64, .long 0, .long 1]) (rest := [.ref a0]) ⟨hx, hb, hml, hown, hts⟩ (c_X6_in l D y s.heap.size p0.toInt64 0 1) (va_cwS 3 hts gX6_restore_X6_in rfl rfl rfl hd_X6_in ⟨Nat.le_of_ble_eq_true rfl, Nat.le_of_ble_eq_true rfl⟩) (gS hE (hP.sub [] rfl) (hD.sub [] (by decide) rfl)) rfl rfl hl.1 rfl (lv_room (Nat.le_of_ble_eq_true rfl)) dX6_restore_5 ⟨Nat.le_of_ble_eq_true rfl, Nat.le_of_ble_eq_true rfl⟩) (fun v2 h1 => ?_)
  have hF := hF.trans (gLet_e h1)
  refine lv_if_ne (tgt := 15) hx hb dX6_restore_8 (by decide) (fun c_3 => ?_) (fun c_3 => ?_)
  · have hF := hF.trans (if_neg c_3)
    refine lv_aload_n hx hb dX6_restore_15 rfl (lv_at hl 0 rfl) ?_
    refine va_get (D := D) (ci := 5) (v := .ref a6) (C := RX6) (T := TX6) (N := 11) hx hb hts hi6 hown hE.1 hP 0 rfl rfl 8 (by decide) w_0 (fun _ h9 => h9) rfl dX6_restore_16 ?_
    refine lv_iload_n hx hb dX6_restore_19 rfl (lv_at hl 1 rfl) ?_
    refine xa_zald (k := p0.toNatClampNeg) (v := ik p0.toNatClampNeg) hx hb hE.1 hP 6 2 rfl rfl (xin2 (in01 h1 (by assumption)).1 (by have := (in01 h1 (by assumption)).2; omega)) rfl rfl dX6_restore_20 ?_
    refine lv_if_ne (tgt := 28) hx hb dX6_restore_21 (by decide) (fun c_4 => ?_) (fun c_4 => ?_)
    · have hF := hF.trans (if_neg c_4)
      refine lv_iconst (v := 0) hx hb dX6_restore_28 (by decide) ?_
      refine xw_calli (va_runV (As := [.int 0]) (rest := []) ⟨hx, hb, hml, hown, hts⟩ (c_X6_refused l D y a0 a1 a2 a3 a4 a5 a6 s.heap.size rf sz ac sp ou 0) (cwV 1 hts gX6_restore_X6_refused rfl rfl rfl hd_X6_refused ⟨Nat.le_of_ble_eq_true rfl, Nat.le_of_ble_eq_true rfl⟩) (gV (q := (RX6, TX6, 11)) hE (hP.sub [0] rfl) (hD.sub [0] (by decide) rfl) 0 rfl rfl) rfl rfl hl.1 rfl (lv_room (Nat.le_of_ble_eq_true rfl)) dX6_restore_29 ⟨Nat.le_of_ble_eq_true rfl, Nat.le_of_ble_eq_true rfl⟩) hP hD hS hA [0] rfl (by decide) (fun _ => rfl) (fun v7 u6 H locs h5 hP hD hS => ?_)
      have h5 := (rfd0 rf sz ac sp ou).symm.trans h5
      obtain ⟨rfl, rfl⟩ := Prod.mk.inj h5
      have hP : va_P D vwCl [(a0, .inr (5, [.int 0, .ref a1, .int sz, .ref a2, .ref a3, .ref a4, .int ac, .ref a5, .ref a6, .int sp, .int ou])), (a1, .inl (y 0, 120, .inl tx)), (a2, .inl (y 0, 78, .inl nw)), (a3, .inl (y 0, 78, .inl tr)), (a4, .inl (y 0, 1092, .inl dy)), (a5, .inl (y 0, 156, .inl kp)), (a6, .inl (y 2, 2, .inl ik))] H := hP
      have hD : va_D A [(a0, .inr (5, [.int 0, .ref a1, .int sz, .ref a2, .ref a3, .ref a4, .int ac, .ref a5, .ref a6, .int sp, .int ou])), (a1, .inl (y 0, 120, .inl tx)), (a2, .inl (y 0, 78, .inl nw)), (a3, .inl (y 0, 78, .inl tr)), (a4, .inl (y 0, 1092, .inl dy)), (a5, .inl (y 0, 156, .inl kp)), (a6, .inl (y 2, 2, .inl ik))] := hD
      refine lv_if_eq (tgt := 37) hx hb dX6_restore_32 (by decide) (fun c_8 => ?_) (fun c_8 => absurd (by decide) c_8)
      refine lv_aload_n hx hb dX6_restore_37 rfl (lv_at hl 0 rfl) ?_
      refine va_get (D := D) (ci := 5) (v := .ref a5) (C := RX6) (T := TX6) (N := 11) hx hb hts hi6 hown hE.1 hP 0 rfl rfl 7 (by decide) w_2 (fun _ h9 => h9) rfl dX6_restore_38 ?_
      refine lv_bipush (v := 78) hx hb dX6_restore_41 (by decide) ?_
      refine lv_iload_n hx hb dX6_restore_43 rfl (lv_at hl 1 rfl) ?_
      refine lv_imul hx hb dX6_restore_44 ?_
      refine lv_aload_n hx hb dX6_restore_45 rfl (lv_at hl 0 rfl) ?_
      refine va_get (D := D) (ci := 5) (v := .ref a2) (C := RX6) (T := TX6) (N := 11) hx hb hts hi6 hown hE.1 hP 0 rfl rfl 3 (by decide) w_3 (fun _ h9 => h9) rfl dX6_restore_46 ?_
      refine lv_iconst (v := 0) hx hb dX6_restore_49 (by decide) ?_
      refine xw_callv (va_runS (As := [.ref a5, .int (78 * p0), .ref a2, .int 0]) (rest := []) ⟨hx, hb, hml, hown, hts⟩ (c_X6_copyState l D y a5 a2 H.size 156 kp 78 nw (78 * p0) 0 (okA78 1 (in01 h1 (by assumption)).1 (in01 h1 (by assumption)).2 (by decide) (by decide)) okA0) (va_cwS 4 hts gX6_restore_X6_copyState rfl rfl rfl hd_X6_copyState ⟨Nat.le_of_ble_eq_true rfl, Nat.le_of_ble_eq_true rfl⟩) (gS hE (hP.sub [5, 2] rfl) (hD.sub [5, 2] (by decide) rfl)) rfl rfl hl.1 rfl (lv_room (Nat.le_of_ble_eq_true rfl)) dX6_restore_50 ⟨Nat.le_of_ble_eq_true rfl, Nat.le_of_ble_eq_true rfl⟩) hP hD hS hA [5, 2] rfl (by decide) (fun _ => rfl) (fun u10 H locs h9 hP hD hS => ?_)
      have hF := hF.trans (gLet_e h9)
      have hP : va_P D vwCl [(a0, .inr (5, [.int 0, .ref a1, .int sz, .ref a2, .ref a3, .ref a4, .int ac, .ref a5, .ref a6, .int sp, .int ou])), (a1, .inl (y 0, 120, .inl tx)), (a2, .inl (y 0, 78, .inl u10)), (a3, .inl (y 0, 78, .inl tr)), (a4, .inl (y 0, 1092, .inl dy)), (a5, .inl (y 0, 156, .inl kp)), (a6, .inl (y 2, 2, .inl ik))] H := hP
      have hD : va_D A [(a0, .inr (5, [.int 0, .ref a1, .int sz, .ref a2, .ref a3, .ref a4, .int ac, .ref a5, .ref a6, .int sp, .int ou])), (a1, .inl (y 0, 120, .inl tx)), (a2, .inl (y 0, 78, .inl u10)), (a3, .inl (y 0, 78, .inl tr)), (a4, .inl (y 0, 1092, .inl dy)), (a5, .inl (y 0, 156, .inl kp)), (a6, .inl (y 2, 2, .inl ik))] := hD
      refine lv_aload_n hx hb dX6_restore_53 rfl (lv_at hl 0 rfl) ?_
      refine lv_iconst (v := 0) hx hb dX6_restore_54 (by decide) ?_
      refine va_put (D := D) (ci := 5) (v := .int 0) (ty := .int) (C := RX6) (T := TX6) (N := 11) hx hb hts hi6 tyX6 tyX6_ok nmX6 hown hE.1 hP hD hS 0 rfl rfl 6 (by decide) w_4 (fun _ h9 => h9) rfl (by decide +kernel) rfl rfl (Nat.le_of_ble_eq_true rfl) dX6_restore_55 (fun H locs hP hD hS => ?_)
      have hP : va_P D vwCl [(a0, .inr (5, [.int 0, .ref a1, .int sz, .ref a2, .ref a3, .ref a4, .int 0, .ref a5, .ref a6, .int sp, .int ou])), (a1, .inl (y 0, 120, .inl tx)), (a2, .inl (y 0, 78, .inl u10)), (a3, .inl (y 0, 78, .inl tr)), (a4, .inl (y 0, 1092, .inl dy)), (a5, .inl (y 0, 156, .inl kp)), (a6, .inl (y 2, 2, .inl ik))] H := hP
      have hD : va_D A [(a0, .inr (5, [.int 0, .ref a1, .int sz, .ref a2, .ref a3, .ref a4, .int 0, .ref a5, .ref a6, .int sp, .int ou])), (a1, .inl (y 0, 120, .inl tx)), (a2, .inl (y 0, 78, .inl u10)), (a3, .inl (y 0, 78, .inl tr)), (a4, .inl (y 0, 1092, .inl dy)), (a5, .inl (y 0, 156, .inl kp)), (a6, .inl (y 2, 2, .inl ik))] := hD
      refine lv_aload_n hx hb dX6_restore_58 rfl (lv_at hl 0 rfl) ?_
      refine va_get (D := D) (ci := 5) (v := .ref a2) (C := RX6) (T := TX6) (N := 11) hx hb hts hi6 hown hE.1 hP 0 rfl rfl 3 (by decide) w_3 (fun _ h9 => h9) rfl dX6_restore_59 ?_
      refine lv_iconst (v := 5) hx hb dX6_restore_62 (by decide) ?_
      refine xa_iald (k := 5) (v := u10 5) hx hb hE.1 hP 2 0 rfl rfl (xin (by decide)) rfl rfl dX6_restore_63 ?_
      exact W.iret (v := (u10 5)) hx hb hr (fun t ht hW => ⟨⟨(u10 5), ⟨0, sz, 0, sp, ou, tx, u10, tr, dy, kp, ik⟩, rfl, hF, ⟨by rw [ht]; exact hP, hD⟩⟩, hS.F ht⟩) hS.2.2 dX6_restore_64
    · have hF := hF.trans (if_pos c_4)
      refine lv_iconst (v := 2) hx hb dX6_restore_24 (by decide) ?_
      refine lv_goto (tgt := 29) hx hb dX6_restore_25 (by decide) ?_
      refine xw_calli (va_runV (As := [.int 2]) (rest := []) ⟨hx, hb, hml, hown, hts⟩ (c_X6_refused l D y a0 a1 a2 a3 a4 a5 a6 s.heap.size rf sz ac sp ou 2) (cwV 1 hts gX6_restore_X6_refused rfl rfl rfl hd_X6_refused ⟨Nat.le_of_ble_eq_true rfl, Nat.le_of_ble_eq_true rfl⟩) (gV (q := (RX6, TX6, 11)) hE (hP.sub [0] rfl) (hD.sub [0] (by decide) rfl) 0 rfl rfl) rfl rfl hl.1 rfl (lv_room (Nat.le_of_ble_eq_true rfl)) dX6_restore_29 ⟨Nat.le_of_ble_eq_true rfl, Nat.le_of_ble_eq_true rfl⟩) hP hD hS hA [0] rfl (by decide) (fun _ => rfl) (fun v13 u12 H locs h11 hP hD hS => ?_)
      have h11 := (rfd2 rf sz ac sp ou).symm.trans h11
      obtain ⟨rfl, rfl⟩ := Prod.mk.inj h11
      have hP : va_P D vwCl [(a0, .inr (5, [.int 2, .ref a1, .int sz, .ref a2, .ref a3, .ref a4, .int ac, .ref a5, .ref a6, .int sp, .int ou])), (a1, .inl (y 0, 120, .inl tx)), (a2, .inl (y 0, 78, .inl nw)), (a3, .inl (y 0, 78, .inl tr)), (a4, .inl (y 0, 1092, .inl dy)), (a5, .inl (y 0, 156, .inl kp)), (a6, .inl (y 2, 2, .inl ik))] H := hP
      have hD : va_D A [(a0, .inr (5, [.int 2, .ref a1, .int sz, .ref a2, .ref a3, .ref a4, .int ac, .ref a5, .ref a6, .int sp, .int ou])), (a1, .inl (y 0, 120, .inl tx)), (a2, .inl (y 0, 78, .inl nw)), (a3, .inl (y 0, 78, .inl tr)), (a4, .inl (y 0, 1092, .inl dy)), (a5, .inl (y 0, 156, .inl kp)), (a6, .inl (y 2, 2, .inl ik))] := hD
      refine lv_if_eq (tgt := 37) hx hb dX6_restore_32 (by decide) (fun c_14 => absurd c_14 (by decide)) (fun c_14 => ?_)
      refine lv_iconst (v := 0) hx hb dX6_restore_35 (by decide) ?_
      exact W.iret (v := 0) hx hb hr (fun t ht hW => ⟨⟨0, ⟨2, sz, ac, sp, ou, tx, nw, tr, dy, kp, ik⟩, rfl, hF, ⟨by rw [ht]; exact hP, hD⟩⟩, hS.F ht⟩) hS.2.2 dX6_restore_36
  · have hF := hF.trans (if_pos c_3)
    refine lv_iconst (v := 1) hx hb dX6_restore_11 (by decide) ?_
    refine lv_goto (tgt := 29) hx hb dX6_restore_12 (by decide) ?_
    refine xw_calli (va_runV (As := [.int 1]) (rest := []) ⟨hx, hb, hml, hown, hts⟩ (c_X6_refused l D y a0 a1 a2 a3 a4 a5 a6 s.heap.size rf sz ac sp ou 1) (cwV 1 hts gX6_restore_X6_refused rfl rfl rfl hd_X6_refused ⟨Nat.le_of_ble_eq_true rfl, Nat.le_of_ble_eq_true rfl⟩) (gV (q := (RX6, TX6, 11)) hE (hP.sub [0] rfl) (hD.sub [0] (by decide) rfl) 0 rfl rfl) rfl rfl hl.1 rfl (lv_room (Nat.le_of_ble_eq_true rfl)) dX6_restore_29 ⟨Nat.le_of_ble_eq_true rfl, Nat.le_of_ble_eq_true rfl⟩) hP hD hS hA [0] rfl (by decide) (fun _ => rfl) (fun v17 u16 H locs h15 hP hD hS => ?_)
    have h15 := (rfd1 rf sz ac sp ou).symm.trans h15
    obtain ⟨rfl, rfl⟩ := Prod.mk.inj h15
    have hP : va_P D vwCl [(a0, .inr (5, [.int 1, .ref a1, .int sz, .ref a2, .ref a3, .ref a4, .int ac, .ref a5, .ref a6, .int sp, .int ou])), (a1, .inl (y 0, 120, .inl tx)), (a2, .inl (y 0, 78, .inl nw)), (a3, .inl (y 0, 78, .inl tr)), (a4, .inl (y 0, 1092, .inl dy)), (a5, .inl (y 0, 156, .inl kp)), (a6, .inl (y 2, 2, .inl ik))] H := hP
    have hD : va_D A [(a0, .inr (5, [.int 1, .ref a1, .int sz, .ref a2, .ref a3, .ref a4, .int ac, .ref a5, .ref a6, .int sp, .int ou])), (a1, .inl (y 0, 120, .inl tx)), (a2, .inl (y 0, 78, .inl nw)), (a3, .inl (y 0, 78, .inl tr)), (a4, .inl (y 0, 1092, .inl dy)), (a5, .inl (y 0, 156, .inl kp)), (a6, .inl (y 2, 2, .inl ik))] := hD
    refine lv_if_eq (tgt := 37) hx hb dX6_restore_32 (by decide) (fun c_18 => absurd c_18 (by decide)) (fun c_18 => ?_)
    refine lv_iconst (v := 0) hx hb dX6_restore_35 (by decide) ?_
    exact W.iret (v := 0) hx hb hr (fun t ht hW => ⟨⟨0, ⟨1, sz, ac, sp, ou, tx, nw, tr, dy, kp, ik⟩, rfl, hF, ⟨by rw [ht]; exact hP, hD⟩⟩, hS.F ht⟩) hS.2.2 dX6_restore_36
