/-! THE REFERENCE: ITS OBJECT -/
def okMd (sz ac : Int32) (nw : gR) : Prop := (0 ≤ sz.toInt ∧ sz.toInt ≤ 120) ∧ (0 ≤ ac.toInt ∧ ac.toInt ≤ 14) ∧ okN nw

def f_X6_refused (rf : Int32) (sz : Int32) (ac : Int32) (sp : Int32) (ou : Int32) (p0 : Int32) : Int32 × Int32 :=
    if p0 ≤ 0 then
    (0, p0)
  else
    (1, p0)
theorem f_X6_refused_s (rf : Int32) (sz : Int32) (ac : Int32) (sp : Int32) (ou : Int32) (p0 : Int32) : f_X6_refused rf sz ac sp ou p0 =
    (if p0 ≤ 0 then
    (0, p0)
  else
    (1, p0)) := rfl
theorem bo_X6_refused (rf : Int32) (sz : Int32) (ac : Int32) (sp : Int32) (ou : Int32) (p0 : Int32) : (f_X6_refused rf sz ac sp ou p0).1 = 0 ∨ (f_X6_refused rf sz ac sp ou p0).1 = 1 := by
  unfold f_X6_refused
  refine gIf_i (P := fun z : Int32 × Int32 => z.1 = 0 ∨ z.1 = 1) (fun _ => ?_) (fun _ => ?_)
  · exact Or.inl rfl
  · exact Or.inr rfl
theorem rfd0 (rf sz ac sp ou : Int32) : f_X6_refused rf sz ac sp ou 0 = (0, 0) := by
  unfold f_X6_refused
  rw [if_pos (by decide)]
theorem rfd1 (rf sz ac sp ou : Int32) : f_X6_refused rf sz ac sp ou 1 = (1, 1) := by
  unfold f_X6_refused
  rw [if_neg (by decide)]
theorem rfd2 (rf sz ac sp ou : Int32) : f_X6_refused rf sz ac sp ou 2 = (1, 2) := by
  unfold f_X6_refused
  rw [if_neg (by decide)]
theorem rfd3 (rf sz ac sp ou : Int32) : f_X6_refused rf sz ac sp ou 3 = (1, 3) := by
  unfold f_X6_refused
  rw [if_neg (by decide)]
theorem hd_X6_refused : yX6_refused.cls = RX6 ∧ yX6_refused.cls ≠ "java/lang/invoke/MethodHandle" ∧ yX6_refused.cls ≠ "java/lang/invoke/VarHandle" ∧ (parseMethodDescriptor yX6_refused.desc).map (fun d => d.parameters.length) = some 1 := by decide +kernel
set_option maxHeartbeats 4000000 in
set_option maxRecDepth 100000 in
theorem c_X6_refused (l : Launch) (D : va_G) (y : Nat → ClassId) (a0 a1 a2 a3 a4 a5 a6 : Nat) (zh : Nat) (rf : Int32) (sz : Int32) (ac : Int32) (sp : Int32) (ou : Int32) (p0 : Int32) : Met l yX6_refused wsX6_refused ({ frames := 0, cells := 0, slots := 0, locals := 0 }) (gP D y [.ref a0, .int p0] zh [(a0, .inr (5, [.int rf, .ref a1, .int sz, .ref a2, .ref a3, .ref a4, .int ac, .ref a5, .ref a6, .int sp, .int ou]))]) (va_Qi (fun (v : Int32) (u : Int32) => f_X6_refused rf sz ac sp ou p0 = (v, u)) (fun (u : Int32) t => va_P D vwCl [(a0, .inr (5, [.int u, .ref a1, .int sz, .ref a2, .ref a3, .ref a4, .int ac, .ref a5, .ref a6, .int sp, .int ou]))] t.heap ∧ va_D (va_A [(a0, .inr (5, [.int rf, .ref a1, .int sz, .ref a2, .ref a3, .ref a4, .int ac, .ref a5, .ref a6, .int sp, .int ou]))] zh) [(a0, .inr (5, [.int u, .ref a1, .int sz, .ref a2, .ref a3, .ref a4, .int ac, .ref a5, .ref a6, .int sp, .int ou]))]) (va_A [(a0, .inr (5, [.int rf, .ref a1, .int sz, .ref a2, .ref a3, .ref a4, .int ac, .ref a5, .ref a6, .int sp, .int ou]))] zh)) 0 0 (va_A [(a0, .inr (5, [.int rf, .ref a1, .int sz, .ref a2, .ref a3, .ref a4, .int ac, .ref a5, .ref a6, .int sp, .int ou]))] zh) := by
  refine Met.ofW (cc := cX6_refused) (maxL := 2) (ret := (some .boolean)) (by decide) rfl ?_
  intro p e s m args below meth c s₁ B hml hv
  obtain ⟨rfl, hsz, hP, hE, hD⟩ := hv
  have hx := B.exec
  have hb := B.bytes
  have hr := B.returns
  have hts := atoms_spec (ws := wsX6_refused) B.pre
  have hown : s.vm.findClass RX6 = some m.cls := findClass_of_methodNamed B.named
  have hlocks := B.notSynchronized
  have w_0 := hts (.fieldLink RX6 33 "GapLinesModel" "refusal" "I") (List.mem_cons_of_mem _ (List.mem_append_left _ (List.mem_of_getElem? (i := 0) rfl)))
  have hi6 : ∀ w ∈ u_ws RX6 TX6 11, w ∈ wsX6_refused := fun w h => (List.mem_cons_of_mem _ (List.mem_append_right _ h))
  subst hsz
  have hD := hD.self (sz := s.heap.size)
  generalize hAe : va_A [(a0, .inr (5, [.int rf, .ref a1, .int sz, .ref a2, .ref a3, .ref a4, .int ac, .ref a5, .ref a6, .int sp, .int ou]))] s.heap.size = A at hD ⊢
  have hA : ∀ q : Nat, s.heap.size ≤ q → A q := fun q h => by rw [← hAe]; exact Or.inr h
  have hS : va_S A s.heap s.heap [] := va_S.rf
  have hl := lv_entry ([.ref a0, .int p0]) (n := 2) (Nat.le_of_ble_eq_true rfl)
  rw [lg_entry_eq]
  generalize (lg_sl ([.ref a0, .int p0]) ++ List.replicate (2 - (lg_sl ([.ref a0, .int p0])).length) Slot.unset).toArray = ls at hl ⊢
  have hl : lv_has ls 2 [(0, .ref a0), (1, .int p0)] := hl
  have hF := f_X6_refused_s rf sz ac sp ou p0
  refine lv_aload_n hx hb dX6_refused_0 rfl (lv_at hl 0 rfl) ?_
  refine lv_iload_n hx hb dX6_refused_1 rfl (lv_at hl 1 rfl) ?_
  refine va_put (D := D) (ci := 5) (v := .int p0) (ty := .int) (C := RX6) (T := TX6) (N := 11) hx hb hts hi6 tyX6 tyX6_ok nmX6 hown hE.1 hP hD hS 0 rfl rfl 0 (by decide) w_0 (fun _ h9 => h9) rfl (by decide +kernel) rfl rfl (Nat.le_of_ble_eq_true rfl) dX6_refused_2 (fun H locs hP hD hS => ?_)
  have hP : va_P D vwCl [(a0, .inr (5, [.int p0, .ref a1, .int sz, .ref a2, .ref a3, .ref a4, .int ac, .ref a5, .ref a6, .int sp, .int ou]))] H := hP
  have hD : va_D A [(a0, .inr (5, [.int p0, .ref a1, .int sz, .ref a2, .ref a3, .ref a4, .int ac, .ref a5, .ref a6, .int sp, .int ou]))] := hD
  refine lv_iload_n hx hb dX6_refused_5 rfl (lv_at hl 1 rfl) ?_
  refine lv_if_le (tgt := 13) hx hb dX6_refused_6 (by decide) (fun c_1 => ?_) (fun c_1 => ?_)
  · have hF := hF.trans (if_pos c_1)
    refine lv_iconst (v := 0) hx hb dX6_refused_13 (by decide) ?_
    exact W.zret (v := 0) hx hb hr rfl (fun t ht hW => ⟨⟨0, p0, rfl, hF, ⟨by rw [ht]; exact hP, hD⟩⟩, hS.F ht⟩) hS.2.2 dX6_refused_14
  · have hF := hF.trans (if_neg c_1)
    refine lv_iconst (v := 1) hx hb dX6_refused_9 (by decide) ?_
    refine lv_goto (tgt := 14) hx hb dX6_refused_10 (by decide) ?_
    exact W.zret (v := 1) hx hb hr rfl (fun t ht hW => ⟨⟨1, p0, rfl, hF, ⟨by rw [ht]; exact hP, hD⟩⟩, hS.F ht⟩) hS.2.2 dX6_refused_14

def f_X6_done (rf : Int32) (sz : Int32) (ac : Int32) (sp : Int32) (ou : Int32) (p0 : Int32) : Int32 × Int32 :=
    if p0 = 0 then
    (1, (ou + 1))
  else
    (1, (ou + 0))
theorem f_X6_done_s (rf : Int32) (sz : Int32) (ac : Int32) (sp : Int32) (ou : Int32) (p0 : Int32) : f_X6_done rf sz ac sp ou p0 =
    (if p0 = 0 then
    (1, (ou + 1))
  else
    (1, (ou + 0))) := rfl
theorem bo_X6_done (rf : Int32) (sz : Int32) (ac : Int32) (sp : Int32) (ou : Int32) (p0 : Int32) : (f_X6_done rf sz ac sp ou p0).1 = 0 ∨ (f_X6_done rf sz ac sp ou p0).1 = 1 := by
  unfold f_X6_done
  refine gIf_i (P := fun z : Int32 × Int32 => z.1 = 0 ∨ z.1 = 1) (fun _ => ?_) (fun _ => ?_)
  · exact Or.inr rfl
  · exact Or.inr rfl
theorem dn0 (rf sz ac sp ou : Int32) : f_X6_done rf sz ac sp ou 0 = (1, ou + 1) := by
  unfold f_X6_done
  rw [if_pos (by decide)]
theorem dn1 (rf sz ac sp ou : Int32) : f_X6_done rf sz ac sp ou 1 = (1, ou + 0) := by
  unfold f_X6_done
  rw [if_neg (by decide)]
theorem hd_X6_done : yX6_done.cls = RX6 ∧ yX6_done.cls ≠ "java/lang/invoke/MethodHandle" ∧ yX6_done.cls ≠ "java/lang/invoke/VarHandle" ∧ (parseMethodDescriptor yX6_done.desc).map (fun d => d.parameters.length) = some 1 := by decide +kernel
set_option maxHeartbeats 4000000 in
set_option maxRecDepth 100000 in
theorem c_X6_done (l : Launch) (D : va_G) (y : Nat → ClassId) (a0 a1 a2 a3 a4 a5 a6 : Nat) (zh : Nat) (rf : Int32) (sz : Int32) (ac : Int32) (sp : Int32) (ou : Int32) (p0 : Int32) : Met l yX6_done wsX6_done ({ frames := 0, cells := 0, slots := 0, locals := 0 }) (gP D y [.ref a0, .int p0] zh [(a0, .inr (5, [.int rf, .ref a1, .int sz, .ref a2, .ref a3, .ref a4, .int ac, .ref a5, .ref a6, .int sp, .int ou]))]) (va_Qi (fun (v : Int32) (u : Int32) => f_X6_done rf sz ac sp ou p0 = (v, u)) (fun (u : Int32) t => va_P D vwCl [(a0, .inr (5, [.int rf, .ref a1, .int sz, .ref a2, .ref a3, .ref a4, .int ac, .ref a5, .ref a6, .int sp, .int u]))] t.heap ∧ va_D (va_A [(a0, .inr (5, [.int rf, .ref a1, .int sz, .ref a2, .ref a3, .ref a4, .int ac, .ref a5, .ref a6, .int sp, .int ou]))] zh) [(a0, .inr (5, [.int rf, .ref a1, .int sz, .ref a2, .ref a3, .ref a4, .int ac, .ref a5, .ref a6, .int sp, .int u]))]) (va_A [(a0, .inr (5, [.int rf, .ref a1, .int sz, .ref a2, .ref a3, .ref a4, .int ac, .ref a5, .ref a6, .int sp, .int ou]))] zh)) 0 0 (va_A [(a0, .inr (5, [.int rf, .ref a1, .int sz, .ref a2, .ref a3, .ref a4, .int ac, .ref a5, .ref a6, .int sp, .int ou]))] zh) := by
  refine Met.ofW (cc := cX6_done) (maxL := 2) (ret := (some .boolean)) (by decide) rfl ?_
  intro p e s m args below meth c s₁ B hml hv
  obtain ⟨rfl, hsz, hP, hE, hD⟩ := hv
  have hx := B.exec
  have hb := B.bytes
  have hr := B.returns
  have hts := atoms_spec (ws := wsX6_done) B.pre
  have hown : s.vm.findClass RX6 = some m.cls := findClass_of_methodNamed B.named
  have hlocks := B.notSynchronized
  have w_0 := hts (.fieldLink RX6 92 "GapLinesModel" "out" "I") (List.mem_cons_of_mem _ (List.mem_append_left _ (List.mem_of_getElem? (i := 0) rfl)))
  have hi6 : ∀ w ∈ u_ws RX6 TX6 11, w ∈ wsX6_done := fun w h => (List.mem_cons_of_mem _ (List.mem_append_right _ h))
  subst hsz
  have hD := hD.self (sz := s.heap.size)
  generalize hAe : va_A [(a0, .inr (5, [.int rf, .ref a1, .int sz, .ref a2, .ref a3, .ref a4, .int ac, .ref a5, .ref a6, .int sp, .int ou]))] s.heap.size = A at hD ⊢
  have hA : ∀ q : Nat, s.heap.size ≤ q → A q := fun q h => by rw [← hAe]; exact Or.inr h
  have hS : va_S A s.heap s.heap [] := va_S.rf
  have hl := lv_entry ([.ref a0, .int p0]) (n := 2) (Nat.le_of_ble_eq_true rfl)
  rw [lg_entry_eq]
  generalize (lg_sl ([.ref a0, .int p0]) ++ List.replicate (2 - (lg_sl ([.ref a0, .int p0])).length) Slot.unset).toArray = ls at hl ⊢
  have hl : lv_has ls 2 [(0, .ref a0), (1, .int p0)] := hl
  have hF := f_X6_done_s rf sz ac sp ou p0
  refine lv_aload_n hx hb dX6_done_0 rfl (lv_at hl 0 rfl) ?_
  refine lv_dup hx hb dX6_done_1 rfl ?_
  refine va_get (D := D) (ci := 5) (v := .int ou) (C := RX6) (T := TX6) (N := 11) hx hb hts hi6 hown hE.1 hP 0 rfl rfl 10 (by decide) w_0 (fun _ h9 => h9) rfl dX6_done_2 ?_
  refine lv_iload_n hx hb dX6_done_5 rfl (lv_at hl 1 rfl) ?_
  refine lv_if_eq (tgt := 13) hx hb dX6_done_6 (by decide) (fun c_1 => ?_) (fun c_1 => ?_)
  · have hF := hF.trans (if_pos c_1)
    refine lv_iconst (v := 1) hx hb dX6_done_13 (by decide) ?_
    refine lv_iadd hx hb dX6_done_14 ?_
    refine va_put (D := D) (ci := 5) (v := .int (ou + 1)) (ty := .int) (C := RX6) (T := TX6) (N := 11) hx hb hts hi6 tyX6 tyX6_ok nmX6 hown hE.1 hP hD hS 0 rfl rfl 10 (by decide) w_0 (fun _ h9 => h9) rfl (by decide +kernel) rfl rfl (Nat.le_of_ble_eq_true rfl) dX6_done_15 (fun H locs hP hD hS => ?_)
    have hP : va_P D vwCl [(a0, .inr (5, [.int rf, .ref a1, .int sz, .ref a2, .ref a3, .ref a4, .int ac, .ref a5, .ref a6, .int sp, .int (ou + 1)]))] H := hP
    have hD : va_D A [(a0, .inr (5, [.int rf, .ref a1, .int sz, .ref a2, .ref a3, .ref a4, .int ac, .ref a5, .ref a6, .int sp, .int (ou + 1)]))] := hD
    refine lv_iconst (v := 1) hx hb dX6_done_18 (by decide) ?_
    exact W.zret (v := 1) hx hb hr rfl (fun t ht hW => ⟨⟨1, (ou + 1), rfl, hF, ⟨by rw [ht]; exact hP, hD⟩⟩, hS.F ht⟩) hS.2.2 dX6_done_19
  · have hF := hF.trans (if_neg c_1)
    refine lv_iconst (v := 0) hx hb dX6_done_9 (by decide) ?_
    refine lv_goto (tgt := 14) hx hb dX6_done_10 (by decide) ?_
    refine lv_iadd hx hb dX6_done_14 ?_
    refine va_put (D := D) (ci := 5) (v := .int (ou + 0)) (ty := .int) (C := RX6) (T := TX6) (N := 11) hx hb hts hi6 tyX6 tyX6_ok nmX6 hown hE.1 hP hD hS 0 rfl rfl 10 (by decide) w_0 (fun _ h9 => h9) rfl (by decide +kernel) rfl rfl (Nat.le_of_ble_eq_true rfl) dX6_done_15 (fun H locs hP hD hS => ?_)
    have hP : va_P D vwCl [(a0, .inr (5, [.int rf, .ref a1, .int sz, .ref a2, .ref a3, .ref a4, .int ac, .ref a5, .ref a6, .int sp, .int (ou + 0)]))] H := hP
    have hD : va_D A [(a0, .inr (5, [.int rf, .ref a1, .int sz, .ref a2, .ref a3, .ref a4, .int ac, .ref a5, .ref a6, .int sp, .int (ou + 0)]))] := hD
    refine lv_iconst (v := 1) hx hb dX6_done_18 (by decide) ?_
    exact W.zret (v := 1) hx hb hr rfl (fun t ht hW => ⟨⟨1, (ou + 0), rfl, hF, ⟨by rw [ht]; exact hP, hD⟩⟩, hS.F ht⟩) hS.2.2 dX6_done_19

def f_X6_thrown (rf : Int32) (sz : Int32) (ac : Int32) (sp : Int32) (ou : Int32) : Int32 :=
    rf
theorem f_X6_thrown_s (rf : Int32) (sz : Int32) (ac : Int32) (sp : Int32) (ou : Int32) : f_X6_thrown rf sz ac sp ou =
    (rf) := rfl
theorem hd_X6_thrown : yX6_thrown.cls = RX6 ∧ yX6_thrown.cls ≠ "java/lang/invoke/MethodHandle" ∧ yX6_thrown.cls ≠ "java/lang/invoke/VarHandle" ∧ (parseMethodDescriptor yX6_thrown.desc).map (fun d => d.parameters.length) = some 0 := by decide +kernel
set_option maxHeartbeats 4000000 in
set_option maxRecDepth 100000 in
theorem c_X6_thrown (l : Launch) (D : va_G) (y : Nat → ClassId) (a0 a1 a2 a3 a4 a5 a6 : Nat) (zh : Nat) (rf : Int32) (sz : Int32) (ac : Int32) (sp : Int32) (ou : Int32) : Met l yX6_thrown wsX6_thrown ({ frames := 0, cells := 0, slots := 0, locals := 0 }) (gP D y [.ref a0] zh [(a0, .inr (5, [.int rf, .ref a1, .int sz, .ref a2, .ref a3, .ref a4, .int ac, .ref a5, .ref a6, .int sp, .int ou]))]) (vp_Si (fun v : Int32 => f_X6_thrown rf sz ac sp ou = v)) 0 0 (fun _ => False) := by
  refine Met.ofW (cc := cX6_thrown) (maxL := 1) (ret := (some .int)) (by decide) rfl ?_
  intro p e s m args below meth c s₁ B hml hv
  obtain ⟨rfl, hsz, hP, hE, hD⟩ := hv
  have hx := B.exec
  have hb := B.bytes
  have hr := B.returns
  have hts := atoms_spec (ws := wsX6_thrown) B.pre
  have hown : s.vm.findClass RX6 = some m.cls := findClass_of_methodNamed B.named
  have hlocks := B.notSynchronized
  have w_0 := hts (.fieldLink RX6 33 "GapLinesModel" "refusal" "I") (List.mem_cons_of_mem _ (List.mem_append_left _ (List.mem_of_getElem? (i := 0) rfl)))
  have hi6 : ∀ w ∈ u_ws RX6 TX6 11, w ∈ wsX6_thrown := fun w h => (List.mem_cons_of_mem _ (List.mem_append_right _ h))
  have hl := lv_entry ([.ref a0]) (n := 1) (Nat.le_of_ble_eq_true rfl)
  rw [lg_entry_eq]
  generalize (lg_sl ([.ref a0]) ++ List.replicate (1 - (lg_sl ([.ref a0])).length) Slot.unset).toArray = ls at hl ⊢
  have hl : lv_has ls 1 [(0, .ref a0)] := hl
  have hF := f_X6_thrown_s rf sz ac sp ou
  refine lv_aload_n hx hb dX6_thrown_0 rfl (lv_at hl 0 rfl) ?_
  refine va_get (D := D) (ci := 5) (v := .int rf) (C := RX6) (T := TX6) (N := 11) hx hb hts hi6 hown hE.1 hP 0 rfl rfl 0 (by decide) w_0 (fun _ h9 => h9) rfl dX6_thrown_1 ?_
  exact W.iret (v := rf) hx hb hr (fun t ht hW => ⟨rf, rfl, hF, ht⟩) (fun _ h => nomatch h) dX6_thrown_4

def f_X6_clear_L2 : Nat → Int32 → gR → gR
  | 0, _, r_ => r_
  | n + 1, x1, r_ =>
    if 78 ≤ x1 then
    gLet (upd r_ 11 100) (fun (r2 : Nat → Int32) =>
      gLet (upd r2 12 8) (fun (r3 : Nat → Int32) =>
        r3))
  else
    gLet (upd r_ x1.toNatClampNeg 0) (fun (r4 : Nat → Int32) =>
      f_X6_clear_L2 n (x1 + 1) r4)
theorem f_X6_clear_L2_s  (n : Nat) (x1 : Int32) (r_ : gR) : f_X6_clear_L2 (n + 1) x1 r_ =
    (if 78 ≤ x1 then
    gLet (upd r_ 11 100) (fun (r2 : Nat → Int32) =>
      gLet (upd r2 12 8) (fun (r3 : Nat → Int32) =>
        r3))
  else
    gLet (upd r_ x1.toNatClampNeg 0) (fun (r4 : Nat → Int32) =>
      f_X6_clear_L2 n (x1 + 1) r4)) := rfl
def f_X6_clear (r : gR) : gR :=
    f_X6_clear_L2 (((78 : Int32).toInt - (0 : Int32).toInt).toNat + 1) 0 r
theorem f_X6_clear_s (r : gR) : f_X6_clear r =
    (f_X6_clear_L2 (((78 : Int32).toInt - (0 : Int32).toInt).toNat + 1) 0 r) := rfl
theorem okN_X6_clear_L2 : ∀ (n : Nat) (x : Int32) (r : gR), (0 ≤ x.toInt) → (∀ k, k < x.toNatClampNeg → r k = 0) → ((78 : Int32).toInt - x.toInt).toNat < n → okN (f_X6_clear_L2 n x r)
  | 0, x, r, h0, h, hμ => absurd hμ (Nat.not_lt_zero _)
  | n + 1, x, r, h0, h, hμ => by
    rw [f_X6_clear_L2_s]
    split
    · rename_i c
      have c2 := i_le.mp c
      have e : (78 : Int32).toInt = 78 := (by decide)
      have hx : 78 ≤ x.toNatClampNeg := by show 78 ≤ x.toInt.toNat; omega
      simp only [gLet]
      refine okN_upd (by omega) (okN_upd (by omega) ?_)
      unfold okN
      rw [h 0 (by omega), h 3 (by omega)]
      decide
    · rename_i c
      have c1 := Int32.not_le.mp c
      have c2 := i_lt.mp c1
      have e : (78 : Int32).toInt = 78 := (by decide)
      have e2 := i_up c1
      simp only [gLet]
      refine okN_X6_clear_L2 n _ _ (by omega) (fun k hk => ?_) (lp_up c hμ)
      by_cases hq : k = x.toNatClampNeg
      · rw [hq]; exact upd_eq
      · rw [upd_ne hq]
        refine h k ?_
        have hk2 : k < (x + 1).toInt.toNat := hk
        have hq2 : k ≠ x.toInt.toNat := hq
        show k < x.toInt.toNat
        omega
theorem okN_X6_clear (r : gR) : okN (f_X6_clear r) := okN_X6_clear_L2 _ _ _ (by decide) (fun k hk => absurd hk (Nat.not_lt_zero _)) (Nat.lt_succ_self _)
theorem hd_X6_clear : yX6_clear.cls ≠ "java/lang/invoke/MethodHandle" ∧ yX6_clear.cls ≠ "java/lang/invoke/VarHandle" ∧ (parseMethodDescriptor yX6_clear.desc).map (fun d => d.parameters.length) = some 1 := by decide +kernel
set_option maxHeartbeats 4000000 in
set_option maxRecDepth 100000 in
theorem c_X6_clear (l : Launch) (D : va_G) (y : Nat → ClassId) (a0 : Nat) (zh : Nat) (r : gR) : Met l yX6_clear wsX6_clear ({ frames := 0, cells := 0, slots := 0, locals := 0 }) (gP D y [.ref a0] zh [(a0, .inl (y 0, 78, .inl r))]) (va_Qv (fun u : gR => f_X6_clear r = u) (fun (u : gR) t => va_P D vwCl [(a0, .inl (y 0, 78, .inl u))] t.heap ∧ va_D (va_A [(a0, .inl (y 0, 78, .inl r))] zh) [(a0, .inl (y 0, 78, .inl u))]) (va_A [(a0, .inl (y 0, 78, .inl r))] zh)) 0 0 (va_A [(a0, .inl (y 0, 78, .inl r))] zh) := by
  refine Met.ofW (cc := cX6_clear) (maxL := 2) (ret := none) (by decide) rfl ?_
  intro p e s m args below meth c s₁ B hml hv
  obtain ⟨rfl, hsz, hP, hE, hD⟩ := hv
  have hx := B.exec
  have hb := B.bytes
  have hr := B.returns
  have hts := atoms_spec (ws := wsX6_clear) B.pre
  have hown : s.vm.findClass RX6 = some m.cls := findClass_of_methodNamed B.named
  have hlocks := B.notSynchronized
  subst hsz
  have hD := hD.self (sz := s.heap.size)
  generalize hAe : va_A [(a0, .inl (y 0, 78, .inl r))] s.heap.size = A at hD ⊢
  have hA : ∀ q : Nat, s.heap.size ≤ q → A q := fun q h => by rw [← hAe]; exact Or.inr h
  have hS : va_S A s.heap s.heap [] := va_S.rf
  have hl := lv_entry ([.ref a0]) (n := 2) (Nat.le_of_ble_eq_true rfl)
  rw [lg_entry_eq]
  generalize (lg_sl ([.ref a0]) ++ List.replicate (2 - (lg_sl ([.ref a0])).length) Slot.unset).toArray = ls at hl ⊢
  have hl : lv_has ls 2 [(0, .ref a0)] := hl
  have loop_2 : ∀ (n : Nat) (x1 : Int32) (r_ : gR) (hhx : 0 ≤ x1.toInt), ((78 : Int32).toInt - x1.toInt).toNat < n → f_X6_clear r = f_X6_clear_L2 n x1 r_ → ∀ (H : Heap) (locs : List Loc), va_P D vwCl [(a0, .inl (y 0, 78, .inl r_))] H → va_D A [(a0, .inl (y 0, 78, .inl r_))] → va_S A s.heap H locs → ∀ (ls : Array Slot), lv_has ls 2 [(0, .ref a0), (1, .int x1)] → W p l e (headSpec wsX6_clear ({ frames := 0, cells := 0, slots := 0, locals := 0 })).room s m ([.ref a0] : List Value).toArray below meth c H locs 0 0 (MQ below (va_Qv (fun u : gR => f_X6_clear r = u) (fun (u : gR) t => va_P D vwCl [(a0, .inl (y 0, 78, .inl u))] t.heap ∧ va_D (A) [(a0, .inl (y 0, 78, .inl u))]) A) ([.ref a0] : List Value).toArray s 0 0 A) (F0 m 2 ls []) := by
    intro n
    induction n with
    | zero =>
      intro x1 r_ hhx hμ
      exact absurd hμ (Nat.not_lt_zero _)
    | succ n ih =>
      intro x1 r_ hhx hμ hF H locs hP hD hS ls hl
      have hF := hF.trans (f_X6_clear_L2_s n x1 r_)
      refine lv_iload_n hx hb dX6_clear_2 rfl (lv_at hl 1 rfl) ?_
      refine lv_bipush (v := 78) hx hb dX6_clear_3 (by decide) ?_
      refine lv_icmp_ge (tgt := 18) hx hb dX6_clear_5 (by decide) (fun c_1 => ?_) (fun c_1 => ?_)
      · have hF := hF.trans (if_pos c_1)
        refine lv_aload_n hx hb dX6_clear_18 rfl (lv_at hl 0 rfl) ?_
        refine lv_bipush (v := 11) hx hb dX6_clear_19 (by decide) ?_
        refine lv_bipush (v := 100) hx hb dX6_clear_21 (by decide) ?_
        refine xa_iast (k := 11) hx hb hE.1 hP hD hS 0 0 rfl rfl (xin (by decide)) rfl dX6_clear_23 (fun H locs hP hD hS => ?_)
        obtain ⟨r2, er2⟩ : ∃ z : Nat → Int32, upd r_ 11 100 = z := ⟨_, rfl⟩
        have hF := hF.trans (gLet_e er2)
        rw [er2] at hP hD
        have hP : va_P D vwCl [(a0, .inl (y 0, 78, .inl r2))] H := hP
        have hD : va_D A [(a0, .inl (y 0, 78, .inl r2))] := hD
        refine lv_aload_n hx hb dX6_clear_24 rfl (lv_at hl 0 rfl) ?_
        refine lv_bipush (v := 12) hx hb dX6_clear_25 (by decide) ?_
        refine lv_bipush (v := 8) hx hb dX6_clear_27 (by decide) ?_
        refine xa_iast (k := 12) hx hb hE.1 hP hD hS 0 0 rfl rfl (xin (by decide)) rfl dX6_clear_29 (fun H locs hP hD hS => ?_)
        obtain ⟨r3, er3⟩ : ∃ z : Nat → Int32, upd r2 12 8 = z := ⟨_, rfl⟩
        have hF := hF.trans (gLet_e er3)
        rw [er3] at hP hD
        have hP : va_P D vwCl [(a0, .inl (y 0, 78, .inl r3))] H := hP
        have hD : va_D A [(a0, .inl (y 0, 78, .inl r3))] := hD
        exact W.vret hx hb hr (fun t ht hW => ⟨⟨r3, rfl, hF, ⟨by rw [ht]; exact hP, hD⟩⟩, hS.F ht⟩) hS.2.2 dX6_clear_30
      · have hF := hF.trans (if_neg c_1)
        refine lv_aload_n hx hb dX6_clear_8 rfl (lv_at hl 0 rfl) ?_
        refine lv_iload_n hx hb dX6_clear_9 rfl (lv_at hl 1 rfl) ?_
        refine lv_iconst (v := 0) hx hb dX6_clear_10 (by decide) ?_
        refine xa_iast (k := x1.toNatClampNeg) hx hb hE.1 hP hD hS 0 0 rfl rfl (ix_btL hhx (by assumption) (by decide)) rfl dX6_clear_11 (fun H locs hP hD hS => ?_)
        obtain ⟨r4, er4⟩ : ∃ z : Nat → Int32, upd r_ x1.toNatClampNeg 0 = z := ⟨_, rfl⟩
        have hF := hF.trans (gLet_e er4)
        rw [er4] at hP hD
        have hP : va_P D vwCl [(a0, .inl (y 0, 78, .inl r4))] H := hP
        have hD : va_D A [(a0, .inl (y 0, 78, .inl r4))] := hD
        refine lv_iinc (v := (x1 + 1)) (lv' := [(1, .int (x1 + 1)), (0, .ref a0)]) hx hb dX6_clear_12 hl (k := 1) rfl rfl (by decide) rfl (fun ls hl => ?_)
        refine lv_goto (tgt := 2) hx hb dX6_clear_15 (by decide) ?_
        exact ih (x1 + 1) r4 (up_nn2 (by assumption) hhx) (lp_up (by assumption) hμ) hF _ _ hP hD hS ls (lv_sub hl [1, 0] rfl)
  have hF := f_X6_clear_s r
  refine lv_iconst (v := 0) hx hb dX6_clear_0 (by decide) ?_
  refine lv_istore_n (lv' := [(1, .int 0), (0, .ref a0)]) hx hb dX6_clear_1 rfl hl (by decide) rfl (fun ls hl => ?_)
  exact loop_2 _ 0 r (by decide) (Nat.lt_succ_self _) hF _ _ hP hD hS ls (lv_sub hl [1, 0] rfl)

def f_X6_makeOn_L3 (p1 : Int32) (p2 : Int32) (p3 : Int32) : Nat → Int32 → gR → Int32 × gR
  | 0, _, r_ => (0, r_)
  | n + 1, x4, r_ =>
    if 78 ≤ x4 then
    gLet (upd r_ 0 p1) (fun (r2 : Nat → Int32) =>
      gLet (upd r2 1 p2) (fun (r3 : Nat → Int32) =>
        gLet (upd r3 3 p1) (fun (r4 : Nat → Int32) =>
          gLet (upd r4 4 p3) (fun (r5 : Nat → Int32) =>
            gLet (f_X6_placeOf r5 1) (fun (v7 : Int32) =>
              (v7, r5))))))
  else
    if x4 = 11 then
      gLet (upd r_ x4.toNatClampNeg (r_ x4.toNatClampNeg)) (fun (r9 : Nat → Int32) =>
        f_X6_makeOn_L3 p1 p2 p3 n (x4 + 1) r9)
    else
      if x4 = 12 then
        gLet (upd r_ x4.toNatClampNeg (r_ x4.toNatClampNeg)) (fun (r12 : Nat → Int32) =>
          f_X6_makeOn_L3 p1 p2 p3 n (x4 + 1) r12)
      else
        gLet (upd r_ x4.toNatClampNeg 0) (fun (r11 : Nat → Int32) =>
          f_X6_makeOn_L3 p1 p2 p3 n (x4 + 1) r11)
theorem f_X6_makeOn_L3_s (p1 : Int32) (p2 : Int32) (p3 : Int32) (n : Nat) (x4 : Int32) (r_ : gR) : f_X6_makeOn_L3 p1 p2 p3 (n + 1) x4 r_ =
    (if 78 ≤ x4 then
    gLet (upd r_ 0 p1) (fun (r2 : Nat → Int32) =>
      gLet (upd r2 1 p2) (fun (r3 : Nat → Int32) =>
        gLet (upd r3 3 p1) (fun (r4 : Nat → Int32) =>
          gLet (upd r4 4 p3) (fun (r5 : Nat → Int32) =>
            gLet (f_X6_placeOf r5 1) (fun (v7 : Int32) =>
              (v7, r5))))))
  else
    if x4 = 11 then
      gLet (upd r_ x4.toNatClampNeg (r_ x4.toNatClampNeg)) (fun (r9 : Nat → Int32) =>
        f_X6_makeOn_L3 p1 p2 p3 n (x4 + 1) r9)
    else
      if x4 = 12 then
        gLet (upd r_ x4.toNatClampNeg (r_ x4.toNatClampNeg)) (fun (r12 : Nat → Int32) =>
          f_X6_makeOn_L3 p1 p2 p3 n (x4 + 1) r12)
      else
        gLet (upd r_ x4.toNatClampNeg 0) (fun (r11 : Nat → Int32) =>
          f_X6_makeOn_L3 p1 p2 p3 n (x4 + 1) r11)) := rfl
def f_X6_makeOn (r : gR) (p1 : Int32) (p2 : Int32) (p3 : Int32) : Int32 × gR :=
    f_X6_makeOn_L3 p1 p2 p3 (((78 : Int32).toInt - (0 : Int32).toInt).toNat + 1) 0 r
theorem f_X6_makeOn_s (r : gR) (p1 : Int32) (p2 : Int32) (p3 : Int32) : f_X6_makeOn r p1 p2 p3 =
    (f_X6_makeOn_L3 p1 p2 p3 (((78 : Int32).toInt - (0 : Int32).toInt).toNat + 1) 0 r) := rfl
theorem okN_X6_makeOn_L3 (p1 p2 p3 : Int32) (h1 : 4 ≤ p1.toInt) (h2 : p1.toInt ≤ 32) : ∀ (n : Nat) (x : Int32) (r : gR), ((78 : Int32).toInt - x.toInt).toNat < n → okN (f_X6_makeOn_L3 p1 p2 p3 n x r).2
  | 0, x, r, hμ => absurd hμ (Nat.not_lt_zero _)
  | n + 1, x, r, hμ => by
    rw [f_X6_makeOn_L3_s]
    split
    · simp only [gLet]
      refine ⟨?_, ?_, ?_, ?_⟩
      · simp [upd]; omega
      · simp [upd]; omega
      · simp [upd]; omega
      · simp [upd]; omega
    · rename_i c
      simp only [gLet]
      repeat' split
      all_goals exact okN_X6_makeOn_L3 p1 p2 p3 h1 h2 n _ _ (lp_up c hμ)
theorem okN_X6_makeOn (r : gR) (p1 p2 p3 : Int32) (h1 : 4 ≤ p1.toInt) (h2 : p1.toInt ≤ 32) : okN (f_X6_makeOn r p1 p2 p3).2 := okN_X6_makeOn_L3 _ _ _ h1 h2 _ _ _ (Nat.lt_succ_self _)
theorem cm_in {a b c v : Int32} (h : f_X6_canMake a b c = v) (d : ¬ v = 0) : 4 ≤ a.toInt ∧ a.toInt ≤ 32 := by
  subst h
  unfold f_X6_canMake gLet at d
  by_cases q : f_X6_in a.toInt64 4 32 = 0
  · simp [q] at d
  · have := (in_iff _ _ _).mp q
    rw [Int32.toInt_toInt64] at this
    have e1 : (4 : Int64).toInt = 4 := (by decide)
    have e2 : (32 : Int64).toInt = 32 := (by decide)
    omega
theorem hd_X6_makeOn : yX6_makeOn.cls ≠ "java/lang/invoke/MethodHandle" ∧ yX6_makeOn.cls ≠ "java/lang/invoke/VarHandle" ∧ (parseMethodDescriptor yX6_makeOn.desc).map (fun d => d.parameters.length) = some 4 := by decide +kernel
set_option maxHeartbeats 4000000 in
set_option maxRecDepth 100000 in
theorem c_X6_makeOn (l : Launch) (D : va_G) (y : Nat → ClassId) (a0 : Nat) (zh : Nat) (r : gR) (p1 : Int32) (p2 : Int32) (p3 : Int32) (hn : ¬ p1 = 0) : Met l yX6_makeOn wsX6_makeOn ({ frames := 2, cells := 0, slots := 0, locals := 45 }) (gP D y [.ref a0, .int p1, .int p2, .int p3] zh [(a0, .inl (y 0, 78, .inl r))]) (va_Qi (fun (v : Int32) (u : gR) => f_X6_makeOn r p1 p2 p3 = (v, u)) (fun (u : gR) t => va_P D vwCl [(a0, .inl (y 0, 78, .inl u))] t.heap ∧ va_D (va_A [(a0, .inl (y 0, 78, .inl r))] zh) [(a0, .inl (y 0, 78, .inl u))]) (va_A [(a0, .inl (y 0, 78, .inl r))] zh)) 0 0 (va_A [(a0, .inl (y 0, 78, .inl r))] zh) := by
  refine Met.ofW (cc := cX6_makeOn) (maxL := 5) (ret := (some .int)) (by decide) rfl ?_
  intro p e s m args below meth c s₁ B hml hv
  obtain ⟨rfl, hsz, hP, hE, hD⟩ := hv
  have hx := B.exec
  have hb := B.bytes
  have hr := B.returns
  have hts := atoms_spec (ws := wsX6_makeOn) B.pre
  have hown : s.vm.findClass RX6 = some m.cls := findClass_of_methodNamed B.named
  have hlocks := B.notSynchronized
  subst hsz
  have hD := hD.self (sz := s.heap.size)
  generalize hAe : va_A [(a0, .inl (y 0, 78, .inl r))] s.heap.size = A at hD ⊢
  have hA : ∀ q : Nat, s.heap.size ≤ q → A q := fun q h => by rw [← hAe]; exact Or.inr h
  have hS : va_S A s.heap s.heap [] := va_S.rf
  have hl := lv_entry ([.ref a0, .int p1, .int p2, .int p3]) (n := 5) (Nat.le_of_ble_eq_true rfl)
  rw [lg_entry_eq]
  generalize (lg_sl ([.ref a0, .int p1, .int p2, .int p3]) ++ List.replicate (5 - (lg_sl ([.ref a0, .int p1, .int p2, .int p3])).length) Slot.unset).toArray = ls at hl ⊢
  have hl : lv_has ls 5 [(0, .ref a0), (1, .int p1), (2, .int p2), (3, .int p3)] := hl
  have loop_3 : ∀ (n : Nat) (x4 : Int32) (r_ : gR) (hhx : 0 ≤ x4.toInt), ((78 : Int32).toInt - x4.toInt).toNat < n → f_X6_makeOn r p1 p2 p3 = f_X6_makeOn_L3 p1 p2 p3 n x4 r_ → ∀ (H : Heap) (locs : List Loc), va_P D vwCl [(a0, .inl (y 0, 78, .inl r_))] H → va_D A [(a0, .inl (y 0, 78, .inl r_))] → va_S A s.heap H locs → ∀ (ls : Array Slot), lv_has ls 5 [(0, .ref a0), (1, .int p1), (2, .int p2), (3, .int p3), (4, .int x4)] → W p l e (headSpec wsX6_makeOn ({ frames := 2, cells := 0, slots := 0, locals := 45 })).room s m ([.ref a0, .int p1, .int p2, .int p3] : List Value).toArray below meth c H locs 0 0 (MQ below (va_Qi (fun (v : Int32) (u : gR) => f_X6_makeOn r p1 p2 p3 = (v, u)) (fun (u : gR) t => va_P D vwCl [(a0, .inl (y 0, 78, .inl u))] t.heap ∧ va_D (A) [(a0, .inl (y 0, 78, .inl u))]) A) ([.ref a0, .int p1, .int p2, .int p3] : List Value).toArray s 0 0 A) (F0 m 3 ls []) := by
    intro n
    induction n with
    | zero =>
      intro x4 r_ hhx hμ
      exact absurd hμ (Nat.not_lt_zero _)
    | succ n ih =>
      intro x4 r_ hhx hμ hF H locs hP hD hS ls hl
      have hF := hF.trans (f_X6_makeOn_L3_s p1 p2 p3 n x4 r_)
      refine lv_iload hx hb dX6_makeOn_3 (lv_at hl 4 rfl) ?_
      refine lv_bipush (v := 78) hx hb dX6_makeOn_5 (by decide) ?_
      refine lv_icmp_ge (tgt := 42) hx hb dX6_makeOn_7 (by decide) (fun c_1 => ?_) (fun c_1 => ?_)
      · have hF := hF.trans (if_pos c_1)
        refine lv_aload_n hx hb dX6_makeOn_42 rfl (lv_at hl 0 rfl) ?_
        refine lv_iconst (v := 0) hx hb dX6_makeOn_43 (by decide) ?_
        refine lv_iload_n hx hb dX6_makeOn_44 rfl (lv_at hl 1 rfl) ?_
        refine xa_iast (k := 0) hx hb hE.1 hP hD hS 0 0 rfl rfl (xin (by decide)) rfl dX6_makeOn_45 (fun H locs hP hD hS => ?_)
        obtain ⟨r2, er2⟩ : ∃ z : Nat → Int32, upd r_ 0 p1 = z := ⟨_, rfl⟩
        have hF := hF.trans (gLet_e er2)
        rw [er2] at hP hD
        have hP : va_P D vwCl [(a0, .inl (y 0, 78, .inl r2))] H := hP
        have hD : va_D A [(a0, .inl (y 0, 78, .inl r2))] := hD
        refine lv_aload_n hx hb dX6_makeOn_46 rfl (lv_at hl 0 rfl) ?_
        refine lv_iconst (v := 1) hx hb dX6_makeOn_47 (by decide) ?_
        refine lv_iload_n hx hb dX6_makeOn_48 rfl (lv_at hl 2 rfl) ?_
        refine xa_iast (k := 1) hx hb hE.1 hP hD hS 0 0 rfl rfl (xin (by decide)) rfl dX6_makeOn_49 (fun H locs hP hD hS => ?_)
        obtain ⟨r3, er3⟩ : ∃ z : Nat → Int32, upd r2 1 p2 = z := ⟨_, rfl⟩
        have hF := hF.trans (gLet_e er3)
        rw [er3] at hP hD
        have hP : va_P D vwCl [(a0, .inl (y 0, 78, .inl r3))] H := hP
        have hD : va_D A [(a0, .inl (y 0, 78, .inl r3))] := hD
        refine lv_aload_n hx hb dX6_makeOn_50 rfl (lv_at hl 0 rfl) ?_
        refine lv_iconst (v := 3) hx hb dX6_makeOn_51 (by decide) ?_
        refine lv_iload_n hx hb dX6_makeOn_52 rfl (lv_at hl 1 rfl) ?_
        refine xa_iast (k := 3) hx hb hE.1 hP hD hS 0 0 rfl rfl (xin (by decide)) rfl dX6_makeOn_53 (fun H locs hP hD hS => ?_)
        obtain ⟨r4, er4⟩ : ∃ z : Nat → Int32, upd r3 3 p1 = z := ⟨_, rfl⟩
        have hF := hF.trans (gLet_e er4)
        rw [er4] at hP hD
        have hP : va_P D vwCl [(a0, .inl (y 0, 78, .inl r4))] H := hP
        have hD : va_D A [(a0, .inl (y 0, 78, .inl r4))] := hD
        refine lv_aload_n hx hb dX6_makeOn_54 rfl (lv_at hl 0 rfl) ?_
        refine lv_iconst (v := 4) hx hb dX6_makeOn_55 (by decide) ?_
        refine lv_iload_n hx hb dX6_makeOn_56 rfl (lv_at hl 3 rfl) ?_
        refine xa_iast (k := 4) hx hb hE.1 hP hD hS 0 0 rfl rfl (xin (by decide)) rfl dX6_makeOn_57 (fun H locs hP hD hS => ?_)
        obtain ⟨r5, er5⟩ : ∃ z : Nat → Int32, upd r4 4 p3 = z := ⟨_, rfl⟩
        have hF := hF.trans (gLet_e er5)
        rw [er5] at hP hD
        have hP : va_P D vwCl [(a0, .inl (y 0, 78, .inl r5))] H := hP
        have hD : va_D A [(a0, .inl (y 0, 78, .inl r5))] := hD
        refine lv_aload_n hx hb dX6_makeOn_58 rfl (lv_at hl 0 rfl) ?_
        refine lv_iconst (v := 1) hx hb dX6_makeOn_59 (by decide) ?_
        refine xs_calli (va_runS (As := [.ref a0, .int 1]) (rest := []) ⟨hx, hb, hml, hown, hts⟩ (c_X6_placeOf l D y a0 H.size r5 1 (by rw [← er5, upd_ne (by omega), ← er4, upd_ne (by omega), ← er3, upd_ne (by omega), ← er2, upd_eq]; exact hn)) (va_cwS 2 hts gX6_makeOn_X6_placeOf rfl rfl rfl hd_X6_placeOf ⟨Nat.le_of_ble_eq_true rfl, Nat.le_of_ble_eq_true rfl⟩) (gS hE hP hD) rfl rfl hl.1 rfl (lv_room (Nat.le_of_ble_eq_true rfl)) dX6_makeOn_60 ⟨Nat.le_of_ble_eq_true rfl, Nat.le_of_ble_eq_true rfl⟩) (fun v7 h6 => ?_)
        have hF := hF.trans (gLet_e h6)
        exact W.iret (v := v7) hx hb hr (fun t ht hW => ⟨⟨v7, r5, rfl, hF, ⟨by rw [ht]; exact hP, hD⟩⟩, hS.F ht⟩) hS.2.2 dX6_makeOn_63
      · have hF := hF.trans (if_neg c_1)
        refine lv_aload_n hx hb dX6_makeOn_10 rfl (lv_at hl 0 rfl) ?_
        refine lv_iload hx hb dX6_makeOn_11 (lv_at hl 4 rfl) ?_
        refine lv_iload hx hb dX6_makeOn_13 (lv_at hl 4 rfl) ?_
        refine lv_bipush (v := 11) hx hb dX6_makeOn_15 (by decide) ?_
        refine lv_icmp_eq (tgt := 27) hx hb dX6_makeOn_17 (by decide) (fun c_8 => ?_) (fun c_8 => ?_)
        · have hF := hF.trans (if_pos c_8)
          refine lv_aload_n hx hb dX6_makeOn_27 rfl (lv_at hl 0 rfl) ?_
          refine lv_iload hx hb dX6_makeOn_28 (lv_at hl 4 rfl) ?_
          refine xa_iald (k := x4.toNatClampNeg) (v := r_ x4.toNatClampNeg) hx hb hE.1 hP 0 0 rfl rfl (ix_btL hhx (by assumption) (by decide)) rfl rfl dX6_makeOn_30 ?_
          refine lv_goto (tgt := 35) hx hb dX6_makeOn_31 (by decide) ?_
          refine xa_iast (k := x4.toNatClampNeg) hx hb hE.1 hP hD hS 0 0 rfl rfl (ix_btL hhx (by assumption) (by decide)) rfl dX6_makeOn_35 (fun H locs hP hD hS => ?_)
          obtain ⟨r9, er9⟩ : ∃ z : Nat → Int32, upd r_ x4.toNatClampNeg (r_ x4.toNatClampNeg) = z := ⟨_, rfl⟩
          have hF := hF.trans (gLet_e er9)
          rw [er9] at hP hD
          have hP : va_P D vwCl [(a0, .inl (y 0, 78, .inl r9))] H := hP
          have hD : va_D A [(a0, .inl (y 0, 78, .inl r9))] := hD
          refine lv_iinc (v := (x4 + 1)) (lv' := [(4, .int (x4 + 1)), (0, .ref a0), (1, .int p1), (2, .int p2), (3, .int p3)]) hx hb dX6_makeOn_36 hl (k := 4) rfl rfl (by decide) rfl (fun ls hl => ?_)
          refine lv_goto (tgt := 3) hx hb dX6_makeOn_39 (by decide) ?_
          exact ih (x4 + 1) r9 (up_nn2 (by assumption) hhx) (lp_up (by assumption) hμ) hF _ _ hP hD hS ls (lv_sub hl [1, 2, 3, 4, 0] rfl)
        · have hF := hF.trans (if_neg c_8)
          refine lv_iload hx hb dX6_makeOn_20 (lv_at hl 4 rfl) ?_
          refine lv_bipush (v := 12) hx hb dX6_makeOn_22 (by decide) ?_
          refine lv_icmp_ne (tgt := 34) hx hb dX6_makeOn_24 (by decide) (fun c_10 => ?_) (fun c_10 => ?_)
          · have hF := hF.trans (if_neg c_10)
            refine lv_iconst (v := 0) hx hb dX6_makeOn_34 (by decide) ?_
            refine xa_iast (k := x4.toNatClampNeg) hx hb hE.1 hP hD hS 0 0 rfl rfl (ix_btL hhx (by assumption) (by decide)) rfl dX6_makeOn_35 (fun H locs hP hD hS => ?_)
            obtain ⟨r11, er11⟩ : ∃ z : Nat → Int32, upd r_ x4.toNatClampNeg 0 = z := ⟨_, rfl⟩
            have hF := hF.trans (gLet_e er11)
            rw [er11] at hP hD
            have hP : va_P D vwCl [(a0, .inl (y 0, 78, .inl r11))] H := hP
            have hD : va_D A [(a0, .inl (y 0, 78, .inl r11))] := hD
            refine lv_iinc (v := (x4 + 1)) (lv' := [(4, .int (x4 + 1)), (0, .ref a0), (1, .int p1), (2, .int p2), (3, .int p3)]) hx hb dX6_makeOn_36 hl (k := 4) rfl rfl (by decide) rfl (fun ls hl => ?_)
            refine lv_goto (tgt := 3) hx hb dX6_makeOn_39 (by decide) ?_
            exact ih (x4 + 1) r11 (up_nn2 (by assumption) hhx) (lp_up (by assumption) hμ) hF _ _ hP hD hS ls (lv_sub hl [1, 2, 3, 4, 0] rfl)
          · have hF := hF.trans (if_pos c_10)
            refine lv_aload_n hx hb dX6_makeOn_27 rfl (lv_at hl 0 rfl) ?_
            refine lv_iload hx hb dX6_makeOn_28 (lv_at hl 4 rfl) ?_
            refine xa_iald (k := x4.toNatClampNeg) (v := r_ x4.toNatClampNeg) hx hb hE.1 hP 0 0 rfl rfl (ix_btL hhx (by assumption) (by decide)) rfl rfl dX6_makeOn_30 ?_
            refine lv_goto (tgt := 35) hx hb dX6_makeOn_31 (by decide) ?_
            refine xa_iast (k := x4.toNatClampNeg) hx hb hE.1 hP hD hS 0 0 rfl rfl (ix_btL hhx (by assumption) (by decide)) rfl dX6_makeOn_35 (fun H locs hP hD hS => ?_)
            obtain ⟨r12, er12⟩ : ∃ z : Nat → Int32, upd r_ x4.toNatClampNeg (r_ x4.toNatClampNeg) = z := ⟨_, rfl⟩
            have hF := hF.trans (gLet_e er12)
            rw [er12] at hP hD
            have hP : va_P D vwCl [(a0, .inl (y 0, 78, .inl r12))] H := hP
            have hD : va_D A [(a0, .inl (y 0, 78, .inl r12))] := hD
            refine lv_iinc (v := (x4 + 1)) (lv' := [(4, .int (x4 + 1)), (0, .ref a0), (1, .int p1), (2, .int p2), (3, .int p3)]) hx hb dX6_makeOn_36 hl (k := 4) rfl rfl (by decide) rfl (fun ls hl => ?_)
            refine lv_goto (tgt := 3) hx hb dX6_makeOn_39 (by decide) ?_
            exact ih (x4 + 1) r12 (up_nn2 (by assumption) hhx) (lp_up (by assumption) hμ) hF _ _ hP hD hS ls (lv_sub hl [1, 2, 3, 4, 0] rfl)
  have hF := f_X6_makeOn_s r p1 p2 p3
  refine lv_iconst (v := 0) hx hb dX6_makeOn_0 (by decide) ?_
  refine lv_istore (lv' := [(4, .int 0), (0, .ref a0), (1, .int p1), (2, .int p2), (3, .int p3)]) hx hb dX6_makeOn_1 hl (by decide) rfl (fun ls hl => ?_)
  exact loop_3 _ 0 r (by decide) (Nat.lt_succ_self _) hF _ _ hP hD hS ls (lv_sub hl [1, 2, 3, 4, 0] rfl)

def f_X6_copyState_L3 (f0 : Nat → Int32) (p1 : Int32) (p3 : Int32) : Nat → Int32 → (Nat → Int32) → (Nat → Int32)
  | 0, _, f1_ => f1_
  | n + 1, x4, f1_ =>
    if 78 ≤ x4 then
    f1_
  else
    gLet (upd f1_ ((p3 + x4).toNatClampNeg) (f0 ((p1 + x4).toNatClampNeg))) (fun (r2 : Nat → Int32) =>
      f_X6_copyState_L3 f0 p1 p3 n (x4 + 1) r2)
theorem f_X6_copyState_L3_s (f0 : Nat → Int32) (p1 : Int32) (p3 : Int32) (n : Nat) (x4 : Int32) (f1_ : Nat → Int32) : f_X6_copyState_L3 f0 p1 p3 (n + 1) x4 f1_ =
    (if 78 ≤ x4 then
    f1_
  else
    gLet (upd f1_ ((p3 + x4).toNatClampNeg) (f0 ((p1 + x4).toNatClampNeg))) (fun (r2 : Nat → Int32) =>
      f_X6_copyState_L3 f0 p1 p3 n (x4 + 1) r2)) := rfl
def f_X6_copyState (N0 : Nat) (f0 : Nat → Int32) (N1 : Nat) (f1 : Nat → Int32) (p1 : Int32) (p3 : Int32) : (Nat → Int32) :=
    f_X6_copyState_L3 f0 p1 p3 (((78 : Int32).toInt - (0 : Int32).toInt).toNat + 1) 0 f1
theorem f_X6_copyState_s (N0 : Nat) (f0 : Nat → Int32) (N1 : Nat) (f1 : Nat → Int32) (p1 : Int32) (p3 : Int32) : f_X6_copyState N0 f0 N1 f1 p1 p3 =
    (f_X6_copyState_L3 f0 p1 p3 (((78 : Int32).toInt - (0 : Int32).toInt).toNat + 1) 0 f1) := rfl
theorem hd_X6_copyState : yX6_copyState.cls ≠ "java/lang/invoke/MethodHandle" ∧ yX6_copyState.cls ≠ "java/lang/invoke/VarHandle" ∧ (parseMethodDescriptor yX6_copyState.desc).map (fun d => d.parameters.length) = some 4 := by decide +kernel
set_option maxHeartbeats 4000000 in
set_option maxRecDepth 100000 in
theorem c_X6_copyState (l : Launch) (D : va_G) (y : Nat → ClassId) (a0 a1 : Nat) (zh : Nat) (N0 : Nat) (f0 : Nat → Int32) (N1 : Nat) (f1 : Nat → Int32) (p1 : Int32) (p3 : Int32) (ha : okA p1 N0) (hb2 : okA p3 N1) : Met l yX6_copyState wsX6_copyState ({ frames := 0, cells := 0, slots := 0, locals := 0 }) (gP D y [.ref a0, .int p1, .ref a1, .int p3] zh [(a0, .inl (y 0, N0, .inl f0)), (a1, .inl (y 0, N1, .inl f1))]) (va_Qv (fun u : (Nat → Int32) => f_X6_copyState N0 f0 N1 f1 p1 p3 = u) (fun (u : (Nat → Int32)) t => va_P D vwCl [(a0, .inl (y 0, N0, .inl f0)), (a1, .inl (y 0, N1, .inl u))] t.heap ∧ va_D (va_A [(a0, .inl (y 0, N0, .inl f0)), (a1, .inl (y 0, N1, .inl f1))] zh) [(a0, .inl (y 0, N0, .inl f0)), (a1, .inl (y 0, N1, .inl u))]) (va_A [(a0, .inl (y 0, N0, .inl f0)), (a1, .inl (y 0, N1, .inl f1))] zh)) 0 0 (va_A [(a0, .inl (y 0, N0, .inl f0)), (a1, .inl (y 0, N1, .inl f1))] zh) := by
  refine Met.ofW (cc := cX6_copyState) (maxL := 5) (ret := none) (by decide) rfl ?_
  intro p e s m args below meth c s₁ B hml hv
  obtain ⟨rfl, hsz, hP, hE, hD⟩ := hv
  have hx := B.exec
  have hb := B.bytes
  have hr := B.returns
  have hts := atoms_spec (ws := wsX6_copyState) B.pre
  have hown : s.vm.findClass RX6 = some m.cls := findClass_of_methodNamed B.named
  have hlocks := B.notSynchronized
  subst hsz
  have hD := hD.self (sz := s.heap.size)
  generalize hAe : va_A [(a0, .inl (y 0, N0, .inl f0)), (a1, .inl (y 0, N1, .inl f1))] s.heap.size = A at hD ⊢
  have hA : ∀ q : Nat, s.heap.size ≤ q → A q := fun q h => by rw [← hAe]; exact Or.inr h
  have hS : va_S A s.heap s.heap [] := va_S.rf
  have hl := lv_entry ([.ref a0, .int p1, .ref a1, .int p3]) (n := 5) (Nat.le_of_ble_eq_true rfl)
  rw [lg_entry_eq]
  generalize (lg_sl ([.ref a0, .int p1, .ref a1, .int p3]) ++ List.replicate (5 - (lg_sl ([.ref a0, .int p1, .ref a1, .int p3])).length) Slot.unset).toArray = ls at hl ⊢
  have hl : lv_has ls 5 [(0, .ref a0), (1, .int p1), (2, .ref a1), (3, .int p3)] := hl
  have loop_3 : ∀ (n : Nat) (x4 : Int32) (f1_ : Nat → Int32) (hhx : 0 ≤ x4.toInt), ((78 : Int32).toInt - x4.toInt).toNat < n → f_X6_copyState N0 f0 N1 f1 p1 p3 = f_X6_copyState_L3 f0 p1 p3 n x4 f1_ → ∀ (H : Heap) (locs : List Loc), va_P D vwCl [(a0, .inl (y 0, N0, .inl f0)), (a1, .inl (y 0, N1, .inl f1_))] H → va_D A [(a0, .inl (y 0, N0, .inl f0)), (a1, .inl (y 0, N1, .inl f1_))] → va_S A s.heap H locs → ∀ (ls : Array Slot), lv_has ls 5 [(0, .ref a0), (1, .int p1), (2, .ref a1), (3, .int p3), (4, .int x4)] → W p l e (headSpec wsX6_copyState ({ frames := 0, cells := 0, slots := 0, locals := 0 })).room s m ([.ref a0, .int p1, .ref a1, .int p3] : List Value).toArray below meth c H locs 0 0 (MQ below (va_Qv (fun u : (Nat → Int32) => f_X6_copyState N0 f0 N1 f1 p1 p3 = u) (fun (u : (Nat → Int32)) t => va_P D vwCl [(a0, .inl (y 0, N0, .inl f0)), (a1, .inl (y 0, N1, .inl u))] t.heap ∧ va_D (A) [(a0, .inl (y 0, N0, .inl f0)), (a1, .inl (y 0, N1, .inl u))]) A) ([.ref a0, .int p1, .ref a1, .int p3] : List Value).toArray s 0 0 A) (F0 m 3 ls []) := by
    intro n
    induction n with
    | zero =>
      intro x4 f1_ hhx hμ
      exact absurd hμ (Nat.not_lt_zero _)
    | succ n ih =>
      intro x4 f1_ hhx hμ hF H locs hP hD hS ls hl
      have hF := hF.trans (f_X6_copyState_L3_s f0 p1 p3 n x4 f1_)
      refine lv_iload hx hb dX6_copyState_3 (lv_at hl 4 rfl) ?_
      refine lv_bipush (v := 78) hx hb dX6_copyState_5 (by decide) ?_
      refine lv_icmp_ge (tgt := 28) hx hb dX6_copyState_7 (by decide) (fun c_1 => ?_) (fun c_1 => ?_)
      · have hF := hF.trans (if_pos c_1)
        exact W.vret hx hb hr (fun t ht hW => ⟨⟨f1_, rfl, hF, ⟨by rw [ht]; exact hP, hD⟩⟩, hS.F ht⟩) hS.2.2 dX6_copyState_28
      · have hF := hF.trans (if_neg c_1)
        refine lv_aload_n hx hb dX6_copyState_10 rfl (lv_at hl 2 rfl) ?_
        refine lv_iload_n hx hb dX6_copyState_11 rfl (lv_at hl 3 rfl) ?_
        refine lv_iload hx hb dX6_copyState_12 (lv_at hl 4 rfl) ?_
        refine lv_iadd hx hb dX6_copyState_14 ?_
        refine lv_aload_n hx hb dX6_copyState_15 rfl (lv_at hl 0 rfl) ?_
        refine lv_iload_n hx hb dX6_copyState_16 rfl (lv_at hl 1 rfl) ?_
        refine lv_iload hx hb dX6_copyState_17 (lv_at hl 4 rfl) ?_
        refine lv_iadd hx hb dX6_copyState_19 ?_
        refine xa_iald (k := (p1 + x4).toNatClampNeg) (v := f0 ((p1 + x4).toNatClampNeg)) hx hb hE.1 hP 0 0 rfl rfl (ixA ha hhx (by assumption)) rfl rfl dX6_copyState_20 ?_
        refine xa_iast (k := (p3 + x4).toNatClampNeg) hx hb hE.1 hP hD hS 1 0 rfl rfl (ixA hb2 hhx (by assumption)) rfl dX6_copyState_21 (fun H locs hP hD hS => ?_)
        obtain ⟨r2, er2⟩ : ∃ z : Nat → Int32, upd f1_ ((p3 + x4).toNatClampNeg) (f0 ((p1 + x4).toNatClampNeg)) = z := ⟨_, rfl⟩
        have hF := hF.trans (gLet_e er2)
        rw [er2] at hP hD
        have hP : va_P D vwCl [(a0, .inl (y 0, N0, .inl f0)), (a1, .inl (y 0, N1, .inl r2))] H := hP
        have hD : va_D A [(a0, .inl (y 0, N0, .inl f0)), (a1, .inl (y 0, N1, .inl r2))] := hD
        refine lv_iinc (v := (x4 + 1)) (lv' := [(4, .int (x4 + 1)), (0, .ref a0), (1, .int p1), (2, .ref a1), (3, .int p3)]) hx hb dX6_copyState_22 hl (k := 4) rfl rfl (by decide) rfl (fun ls hl => ?_)
        refine lv_goto (tgt := 3) hx hb dX6_copyState_25 (by decide) ?_
        exact ih (x4 + 1) r2 (up_nn2 (by assumption) hhx) (lp_up (by assumption) hμ) hF _ _ hP hD hS ls (lv_sub hl [1, 2, 3, 4, 0] rfl)
  have hF := f_X6_copyState_s N0 f0 N1 f1 p1 p3
  refine lv_iconst (v := 0) hx hb dX6_copyState_0 (by decide) ?_
  refine lv_istore (lv' := [(4, .int 0), (0, .ref a0), (1, .int p1), (2, .ref a1), (3, .int p3)]) hx hb dX6_copyState_1 hl (by decide) rfl (fun ls hl => ?_)
  exact loop_3 _ 0 f1 (by decide) (Nat.lt_succ_self _) hF _ _ hP hD hS ls (lv_sub hl [1, 2, 3, 4, 0] rfl)

def f_X6_figures_L26 (sz : Int32) (tx : Nat → Int32) (p0 : Int32) (p2 : Int32) (p3 : Int32) : Nat → Int32 → Int32 → Int32 → Int32 × Int32
  | 0, _, _, sp_ => (0, sp_)
  | n + 1, x5, x6, sp_ =>
    if x6 ≤ 0 then
    if p0 = (-1) then
      ((-1), sp_)
    else
      (x5, sp_)
  else
    if p0 = (-1) then
      if p0 = (-1) then
        ((-1), sp_)
      else
        (x5, sp_)
    else
      if sz ≤ sp_ then
        ((-1), sp_)
      else
        gLet (f_X6_in (((tx sp_.toNatClampNeg) - 48).toInt64) 0 9) (fun (v10 : Int32) =>
          if v10 = 0 then
            ((-1), sp_)
          else
            if p3 < (x5 + (((tx sp_.toNatClampNeg) - 48) * x6)) then
              ((-1), sp_)
            else
              if p2 ≤ (((x5 + (((tx sp_.toNatClampNeg) - 48) * x6)) + x6) - 1) then
                f_X6_figures_L26 sz tx p0 p2 p3 n (x5 + (((tx sp_.toNatClampNeg) - 48) * x6)) (x6 / 10) (sp_ + 1)
              else
                ((-1), sp_))
theorem f_X6_figures_L26_s (sz : Int32) (tx : Nat → Int32) (p0 : Int32) (p2 : Int32) (p3 : Int32) (n : Nat) (x5 : Int32) (x6 : Int32) (sp_ : Int32) : f_X6_figures_L26 sz tx p0 p2 p3 (n + 1) x5 x6 sp_ =
    (if x6 ≤ 0 then
    if p0 = (-1) then
      ((-1), sp_)
    else
      (x5, sp_)
  else
    if p0 = (-1) then
      if p0 = (-1) then
        ((-1), sp_)
      else
        (x5, sp_)
    else
      if sz ≤ sp_ then
        ((-1), sp_)
      else
        gLet (f_X6_in (((tx sp_.toNatClampNeg) - 48).toInt64) 0 9) (fun (v10 : Int32) =>
          if v10 = 0 then
            ((-1), sp_)
          else
            if p3 < (x5 + (((tx sp_.toNatClampNeg) - 48) * x6)) then
              ((-1), sp_)
            else
              if p2 ≤ (((x5 + (((tx sp_.toNatClampNeg) - 48) * x6)) + x6) - 1) then
                f_X6_figures_L26 sz tx p0 p2 p3 n (x5 + (((tx sp_.toNatClampNeg) - 48) * x6)) (x6 / 10) (sp_ + 1)
              else
                ((-1), sp_))) := rfl
def f_X6_figures (rf : Int32) (sz : Int32) (ac : Int32) (sp : Int32) (ou : Int32) (tx : Nat → Int32) (p0 : Int32) (p1 : Int32) (p2 : Int32) (p3 : Int32) : Int32 × Int32 :=
    if p1 = 3 then
    f_X6_figures_L26 sz tx p0 p2 p3 ((100 : Int32).toInt.toNat + 1) 0 100 sp
  else
    if p1 = 2 then
      f_X6_figures_L26 sz tx p0 p2 p3 ((10 : Int32).toInt.toNat + 1) 0 10 sp
    else
      f_X6_figures_L26 sz tx p0 p2 p3 ((1 : Int32).toInt.toNat + 1) 0 1 sp
theorem f_X6_figures_s (rf : Int32) (sz : Int32) (ac : Int32) (sp : Int32) (ou : Int32) (tx : Nat → Int32) (p0 : Int32) (p1 : Int32) (p2 : Int32) (p3 : Int32) : f_X6_figures rf sz ac sp ou tx p0 p1 p2 p3 =
    (if p1 = 3 then
    f_X6_figures_L26 sz tx p0 p2 p3 ((100 : Int32).toInt.toNat + 1) 0 100 sp
  else
    if p1 = 2 then
      f_X6_figures_L26 sz tx p0 p2 p3 ((10 : Int32).toInt.toNat + 1) 0 10 sp
    else
      f_X6_figures_L26 sz tx p0 p2 p3 ((1 : Int32).toInt.toNat + 1) 0 1 sp) := rfl
theorem fg_L (sz : Int32) (tx : Nat → Int32) (p0 p2 p3 : Int32) : ∀ (n : Nat) (x5 x6 sp : Int32), 0 ≤ sp.toInt → sp.toInt ≤ (f_X6_figures_L26 sz tx p0 p2 p3 n x5 x6 sp).2.toInt ∧ ((f_X6_figures_L26 sz tx p0 p2 p3 n x5 x6 sp).2.toInt ≤ sz.toInt ∨ (f_X6_figures_L26 sz tx p0 p2 p3 n x5 x6 sp).2 = sp)
  | 0, x5, x6, sp, h => ⟨Int.le_refl _, Or.inr rfl⟩
  | n + 1, x5, x6, sp, h => by
    rw [f_X6_figures_L26_s]
    simp only [gLet]
    by_cases c : sz ≤ sp
    · simp only [if_pos c]
      repeat' split
      all_goals exact ⟨Int.le_refl _, Or.inr rfl⟩
    · have e := i_up (Int32.not_le.mp c)
      have c2 := i_lt.mp (Int32.not_le.mp c)
      repeat' split
      all_goals first
        | exact ⟨Int.le_refl _, Or.inr rfl⟩
        | (have q := fg_L sz tx p0 p2 p3 n (x5 + ((tx sp.toNatClampNeg - 48) * x6)) (x6 / 10) (sp + 1) (by omega)
           refine ⟨by omega, Or.inl ?_⟩
           rcases q.2 with q2 | q2
           · exact q2
           · rw [q2]; omega)
theorem fg_up (rf sz ac sp ou : Int32) (tx : Nat → Int32) (p0 p1 p2 p3 : Int32) (h : 0 ≤ sp.toInt) : sp.toInt ≤ (f_X6_figures rf sz ac sp ou tx p0 p1 p2 p3).2.toInt ∧ ((f_X6_figures rf sz ac sp ou tx p0 p1 p2 p3).2.toInt ≤ sz.toInt ∨ (f_X6_figures rf sz ac sp ou tx p0 p1 p2 p3).2 = sp) := by
  unfold f_X6_figures
  repeat' split
  all_goals exact fg_L _ _ _ _ _ _ _ _ _ h
theorem fg_nn (rf sz ac sp ou : Int32) (tx : Nat → Int32) (p0 p1 p2 p3 : Int32) (h : 0 ≤ sp.toInt) : 0 ≤ (f_X6_figures rf sz ac sp ou tx p0 p1 p2 p3).2.toInt := by
  have := (fg_up rf sz ac sp ou tx p0 p1 p2 p3 h).1
  omega
theorem hd_X6_figures : yX6_figures.cls = RX6 ∧ yX6_figures.cls ≠ "java/lang/invoke/MethodHandle" ∧ yX6_figures.cls ≠ "java/lang/invoke/VarHandle" ∧ (parseMethodDescriptor yX6_figures.desc).map (fun d => d.parameters.length) = some 4 := by decide +kernel
set_option maxHeartbeats 4000000 in
set_option maxRecDepth 100000 in
theorem c_X6_figures (l : Launch) (D : va_G) (y : Nat → ClassId) (a0 a1 a2 a3 a4 a5 a6 : Nat) (zh : Nat) (rf : Int32) (sz : Int32) (ac : Int32) (sp : Int32) (ou : Int32) (tx : Nat → Int32) (p0 : Int32) (p1 : Int32) (p2 : Int32) (p3 : Int32) (hs : 0 ≤ sp.toInt) (hz : sz.toInt ≤ 120) : Met l yX6_figures wsX6_figures ({ frames := 1, cells := 0, slots := 0, locals := 25 }) (gP D y [.ref a0, .int p0, .int p1, .int p2, .int p3] zh [(a0, .inr (5, [.int rf, .ref a1, .int sz, .ref a2, .ref a3, .ref a4, .int ac, .ref a5, .ref a6, .int sp, .int ou])), (a1, .inl (y 0, 120, .inl tx))]) (va_Qi (fun (v : Int32) (u : Int32) => f_X6_figures rf sz ac sp ou tx p0 p1 p2 p3 = (v, u)) (fun (u : Int32) t => va_P D vwCl [(a0, .inr (5, [.int rf, .ref a1, .int sz, .ref a2, .ref a3, .ref a4, .int ac, .ref a5, .ref a6, .int u, .int ou])), (a1, .inl (y 0, 120, .inl tx))] t.heap ∧ va_D (va_A [(a0, .inr (5, [.int rf, .ref a1, .int sz, .ref a2, .ref a3, .ref a4, .int ac, .ref a5, .ref a6, .int sp, .int ou])), (a1, .inl (y 0, 120, .inl tx))] zh) [(a0, .inr (5, [.int rf, .ref a1, .int sz, .ref a2, .ref a3, .ref a4, .int ac, .ref a5, .ref a6, .int u, .int ou])), (a1, .inl (y 0, 120, .inl tx))]) (va_A [(a0, .inr (5, [.int rf, .ref a1, .int sz, .ref a2, .ref a3, .ref a4, .int ac, .ref a5, .ref a6, .int sp, .int ou])), (a1, .inl (y 0, 120, .inl tx))] zh)) 0 0 (va_A [(a0, .inr (5, [.int rf, .ref a1, .int sz, .ref a2, .ref a3, .ref a4, .int ac, .ref a5, .ref a6, .int sp, .int ou])), (a1, .inl (y 0, 120, .inl tx))] zh) := by
  refine Met.ofW (cc := cX6_figures) (maxL := 9) (ret := (some .int)) (by decide) rfl ?_
  intro p e s m args below meth c s₁ B hml hv
  obtain ⟨rfl, hsz, hP, hE, hD⟩ := hv
  have hx := B.exec
  have hb := B.bytes
  have hr := B.returns
  have hts := atoms_spec (ws := wsX6_figures) B.pre
  have hown : s.vm.findClass RX6 = some m.cls := findClass_of_methodNamed B.named
  have hlocks := B.notSynchronized
  have w_0 := hts (.fieldLink RX6 87 "GapLinesModel" "spot" "I") (List.mem_cons_of_mem _ (List.mem_append_left _ (List.mem_of_getElem? (i := 0) rfl)))
  have hi6 : ∀ w ∈ u_ws RX6 TX6 11, w ∈ wsX6_figures := fun w h => (List.mem_cons_of_mem _ (List.mem_append_right _ h))
  have w_2 := hts (.fieldLink RX6 80 "GapLinesModel" "size" "I") (List.mem_cons_of_mem _ (List.mem_append_left _ (List.mem_of_getElem? (i := 1) rfl)))
  have w_3 := hts (.constantLong RX6 90 (9)) (List.mem_cons_of_mem _ (List.mem_append_left _ (List.mem_of_getElem? (i := 3) rfl)))
  have w_4 := hts (.fieldLink RX6 7 "GapLinesModel" "text" "[I") (List.mem_cons_of_mem _ (List.mem_append_left _ (List.mem_of_getElem? (i := 2) rfl)))
  subst hsz
  have hD := hD.self (sz := s.heap.size)
  generalize hAe : va_A [(a0, .inr (5, [.int rf, .ref a1, .int sz, .ref a2, .ref a3, .ref a4, .int ac, .ref a5, .ref a6, .int sp, .int ou])), (a1, .inl (y 0, 120, .inl tx))] s.heap.size = A at hD ⊢
  have hA : ∀ q : Nat, s.heap.size ≤ q → A q := fun q h => by rw [← hAe]; exact Or.inr h
  have hS : va_S A s.heap s.heap [] := va_S.rf
  have hl := lv_entry ([.ref a0, .int p0, .int p1, .int p2, .int p3]) (n := 9) (Nat.le_of_ble_eq_true rfl)
  rw [lg_entry_eq]
  generalize (lg_sl ([.ref a0, .int p0, .int p1, .int p2, .int p3]) ++ List.replicate (9 - (lg_sl ([.ref a0, .int p0, .int p1, .int p2, .int p3])).length) Slot.unset).toArray = ls at hl ⊢
  have hl : lv_has ls 9 [(0, .ref a0), (1, .int p0), (2, .int p1), (3, .int p2), (4, .int p3)] := hl
  have loop_26 : ∀ (n : Nat) (x5 : Int32) (x6 : Int32) (sp_ : Int32) (hs_ : 0 ≤ sp_.toInt), x6.toInt.toNat < n → f_X6_figures rf sz ac sp ou tx p0 p1 p2 p3 = f_X6_figures_L26 sz tx p0 p2 p3 n x5 x6 sp_ → ∀ (H : Heap) (locs : List Loc), va_P D vwCl [(a0, .inr (5, [.int rf, .ref a1, .int sz, .ref a2, .ref a3, .ref a4, .int ac, .ref a5, .ref a6, .int sp_, .int ou])), (a1, .inl (y 0, 120, .inl tx))] H → va_D A [(a0, .inr (5, [.int rf, .ref a1, .int sz, .ref a2, .ref a3, .ref a4, .int ac, .ref a5, .ref a6, .int sp_, .int ou])), (a1, .inl (y 0, 120, .inl tx))] → va_S A s.heap H locs → ∀ (ls : Array Slot), lv_has ls 9 [(0, .ref a0), (1, .int p0), (2, .int p1), (3, .int p2), (4, .int p3), (5, .int x5), (6, .int x6)] → W p l e (headSpec wsX6_figures ({ frames := 1, cells := 0, slots := 0, locals := 25 })).room s m ([.ref a0, .int p0, .int p1, .int p2, .int p3] : List Value).toArray below meth c H locs 0 0 (MQ below (va_Qi (fun (v : Int32) (u : Int32) => f_X6_figures rf sz ac sp ou tx p0 p1 p2 p3 = (v, u)) (fun (u : Int32) t => va_P D vwCl [(a0, .inr (5, [.int rf, .ref a1, .int sz, .ref a2, .ref a3, .ref a4, .int ac, .ref a5, .ref a6, .int u, .int ou])), (a1, .inl (y 0, 120, .inl tx))] t.heap ∧ va_D (A) [(a0, .inr (5, [.int rf, .ref a1, .int sz, .ref a2, .ref a3, .ref a4, .int ac, .ref a5, .ref a6, .int u, .int ou])), (a1, .inl (y 0, 120, .inl tx))]) A) ([.ref a0, .int p0, .int p1, .int p2, .int p3] : List Value).toArray s 0 0 A) (F0 m 26 ls []) := by
    intro n
    induction n with
    | zero =>
      intro x5 x6 sp_ hs_ hμ
      exact absurd hμ (Nat.not_lt_zero _)
    | succ n ih =>
      intro x5 x6 sp_ hs_ hμ hF H locs hP hD hS ls hl
      have hF := hF.trans (f_X6_figures_L26_s sz tx p0 p2 p3 n x5 x6 sp_)
      refine lv_iload hx hb dX6_figures_26 (lv_at hl 6 rfl) ?_
      refine lv_if_le (tgt := 132) hx hb dX6_figures_28 (by decide) (fun c_1 => ?_) (fun c_1 => ?_)
      · have hF := hF.trans (if_pos c_1)
        refine lv_iload_n hx hb dX6_figures_132 rfl (lv_at hl 1 rfl) ?_
        refine lv_iconst (v := (-1)) hx hb dX6_figures_133 (by decide) ?_
        refine lv_icmp_ne (tgt := 141) hx hb dX6_figures_134 (by decide) (fun c_2 => ?_) (fun c_2 => ?_)
        · have hF := hF.trans (if_neg c_2)
          refine lv_iload hx hb dX6_figures_141 (lv_at hl 5 rfl) ?_
          exact W.iret (v := x5) hx hb hr (fun t ht hW => ⟨⟨x5, sp_, rfl, hF, ⟨by rw [ht]; exact hP, hD⟩⟩, hS.F ht⟩) hS.2.2 dX6_figures_143
        · have hF := hF.trans (if_pos c_2)
          refine lv_iconst (v := (-1)) hx hb dX6_figures_137 (by decide) ?_
          refine lv_goto (tgt := 143) hx hb dX6_figures_138 (by decide) ?_
          exact W.iret (v := (-1)) hx hb hr (fun t ht hW => ⟨⟨(-1), sp_, rfl, hF, ⟨by rw [ht]; exact hP, hD⟩⟩, hS.F ht⟩) hS.2.2 dX6_figures_143
      · have hF := hF.trans (if_neg c_1)
        refine lv_iload_n hx hb dX6_figures_31 rfl (lv_at hl 1 rfl) ?_
        refine lv_iconst (v := (-1)) hx hb dX6_figures_32 (by decide) ?_
        refine lv_icmp_eq (tgt := 132) hx hb dX6_figures_33 (by decide) (fun c_3 => ?_) (fun c_3 => ?_)
        · have hF := hF.trans (if_pos c_3)
          refine lv_iload_n hx hb dX6_figures_132 rfl (lv_at hl 1 rfl) ?_
          refine lv_iconst (v := (-1)) hx hb dX6_figures_133 (by decide) ?_
          refine lv_icmp_ne (tgt := 141) hx hb dX6_figures_134 (by decide) (fun c_4 => ?_) (fun c_4 => ?_)
          · have hF := hF.trans (if_neg c_4)
            refine lv_iload hx hb dX6_figures_141 (lv_at hl 5 rfl) ?_
            exact W.iret (v := x5) hx hb hr (fun t ht hW => ⟨⟨x5, sp_, rfl, hF, ⟨by rw [ht]; exact hP, hD⟩⟩, hS.F ht⟩) hS.2.2 dX6_figures_143
          · have hF := hF.trans (if_pos c_4)
            refine lv_iconst (v := (-1)) hx hb dX6_figures_137 (by decide) ?_
            refine lv_goto (tgt := 143) hx hb dX6_figures_138 (by decide) ?_
            exact W.iret (v := (-1)) hx hb hr (fun t ht hW => ⟨⟨(-1), sp_, rfl, hF, ⟨by rw [ht]; exact hP, hD⟩⟩, hS.F ht⟩) hS.2.2 dX6_figures_143
        · have hF := hF.trans (if_neg c_3)
          refine lv_aload_n hx hb dX6_figures_36 rfl (lv_at hl 0 rfl) ?_
          refine va_get (D := D) (ci := 5) (v := .int sp_) (C := RX6) (T := TX6) (N := 11) hx hb hts hi6 hown hE.1 hP 0 rfl rfl 9 (by decide) w_0 (fun _ h9 => h9) rfl dX6_figures_37 ?_
          refine lv_aload_n hx hb dX6_figures_40 rfl (lv_at hl 0 rfl) ?_
          refine va_get (D := D) (ci := 5) (v := .int sz) (C := RX6) (T := TX6) (N := 11) hx hb hts hi6 hown hE.1 hP 0 rfl rfl 2 (by decide) w_2 (fun _ h9 => h9) rfl dX6_figures_41 ?_
          refine lv_icmp_ge (tgt := 62) hx hb dX6_figures_44 (by decide) (fun c_5 => ?_) (fun c_5 => ?_)
          · have hF := hF.trans (if_pos c_5)
            refine lv_iconst (v := (-1)) hx hb dX6_figures_62 (by decide) ?_
            refine lv_istore (lv' := [(7, .int (-1)), (0, .ref a0), (1, .int p0), (2, .int p1), (3, .int p2), (4, .int p3), (5, .int x5), (6, .int x6)]) hx hb dX6_figures_63 hl (by decide) rfl (fun ls hl => ?_)
            refine lv_iload hx hb dX6_figures_65 (lv_at hl 6 rfl) ?_
            refine lv_iload hx hb dX6_figures_67 (lv_at hl 0 rfl) ?_
            refine lv_iload hx hb dX6_figures_69 (lv_at hl 7 rfl) ?_
            refine lv_imul hx hb dX6_figures_71 ?_
            refine lv_iadd hx hb dX6_figures_72 ?_
            refine lv_istore (lv' := [(8, .int (x5 + ((-1) * x6))), (7, .int (-1)), (0, .ref a0), (1, .int p0), (2, .int p1), (3, .int p2), (4, .int p3), (5, .int x5), (6, .int x6)]) hx hb dX6_figures_73 hl (by decide) rfl (fun ls hl => ?_)
            refine lv_iload hx hb dX6_figures_75 (lv_at hl 1 rfl) ?_
            refine lv_i2l (v := (-1)) hx hb dX6_figures_77 (by decide) ?_
            refine lv_lconst (v := 0) hx hb dX6_figures_78 (by decide) ?_
            refine lv_ldc2 (v := 9) hx hb hown w_3 dX6_figures_79 ?_
            refine xs_calli (va_runS (As := [.long (-1), .long 0, .long 9]) (rest := []) ⟨hx, hb, hml, hown, hts⟩ (c_X6_in l D y H.size (-1) 0 9) (va_cwS 3 hts gX6_figures_X6_in rfl rfl rfl hd_X6_in ⟨Nat.le_of_ble_eq_true rfl, Nat.le_of_ble_eq_true rfl⟩) (gS hE (hP.sub [] rfl) (hD.sub [] (by decide) rfl)) rfl rfl hl.1 rfl (lv_room (Nat.le_of_ble_eq_true rfl)) dX6_figures_82 ⟨Nat.le_of_ble_eq_true rfl, Nat.le_of_ble_eq_true rfl⟩) (fun v7 h6 => ?_)
            obtain rfl : 0 = v7 := ((by decide +kernel : f_X6_in (-1) 0 9 = 0)).symm.trans h6
            refine lv_if_eq (tgt := 106) hx hb dX6_figures_85 (by decide) (fun c_8 => ?_) (fun c_8 => absurd (by decide) c_8)
            refine lv_iconst (v := (-1)) hx hb dX6_figures_106 (by decide) ?_
            exact W.iret (v := (-1)) hx hb hr (fun t ht hW => ⟨⟨(-1), sp_, rfl, hF, ⟨by rw [ht]; exact hP, hD⟩⟩, hS.F ht⟩) hS.2.2 dX6_figures_107
          · have hF := hF.trans (if_neg c_5)
            refine lv_aload_n hx hb dX6_figures_47 rfl (lv_at hl 0 rfl) ?_
            refine va_get (D := D) (ci := 5) (v := .ref a1) (C := RX6) (T := TX6) (N := 11) hx hb hts hi6 hown hE.1 hP 0 rfl rfl 1 (by decide) w_4 (fun _ h9 => h9) rfl dX6_figures_48 ?_
            refine lv_aload_n hx hb dX6_figures_51 rfl (lv_at hl 0 rfl) ?_
            refine va_get (D := D) (ci := 5) (v := .int sp_) (C := RX6) (T := TX6) (N := 11) hx hb hts hi6 hown hE.1 hP 0 rfl rfl 9 (by decide) w_0 (fun _ h9 => h9) rfl dX6_figures_52 ?_
            refine xa_iald (k := sp_.toNatClampNeg) (v := tx sp_.toNatClampNeg) hx hb hE.1 hP 1 0 rfl rfl (ix_btL hs_ (by assumption) hz) rfl rfl dX6_figures_55 ?_
            refine lv_bipush (v := 48) hx hb dX6_figures_56 (by decide) ?_
            refine lv_isub hx hb dX6_figures_58 ?_
            refine lv_goto (tgt := 63) hx hb dX6_figures_59 (by decide) ?_
            refine lv_istore (lv' := [(7, .int ((tx sp_.toNatClampNeg) - 48)), (0, .ref a0), (1, .int p0), (2, .int p1), (3, .int p2), (4, .int p3), (5, .int x5), (6, .int x6)]) hx hb dX6_figures_63 hl (by decide) rfl (fun ls hl => ?_)
            refine lv_iload hx hb dX6_figures_65 (lv_at hl 6 rfl) ?_
            refine lv_iload hx hb dX6_figures_67 (lv_at hl 0 rfl) ?_
            refine lv_iload hx hb dX6_figures_69 (lv_at hl 7 rfl) ?_
            refine lv_imul hx hb dX6_figures_71 ?_
            refine lv_iadd hx hb dX6_figures_72 ?_
            refine lv_istore (lv' := [(8, .int (x5 + (((tx sp_.toNatClampNeg) - 48) * x6))), (7, .int ((tx sp_.toNatClampNeg) - 48)), (0, .ref a0), (1, .int p0), (2, .int p1), (3, .int p2), (4, .int p3), (5, .int x5), (6, .int x6)]) hx hb dX6_figures_73 hl (by decide) rfl (fun ls hl => ?_)
            refine lv_iload hx hb dX6_figures_75 (lv_at hl 1 rfl) ?_
            refine lv_i2l (v := ((tx sp_.toNatClampNeg) - 48).toInt64) hx hb dX6_figures_77 rfl ?_
            refine lv_lconst (v := 0) hx hb dX6_figures_78 (by decide) ?_
            refine lv_ldc2 (v := 9) hx hb hown w_3 dX6_figures_79 ?_
            refine xs_calli (va_runS (As := [.long (((tx sp_.toNatClampNeg) - 48).toInt64), .long 0, .long 9]) (rest := []) ⟨hx, hb, hml, hown, hts⟩ (c_X6_in l D y H.size (((tx sp_.toNatClampNeg) - 48).toInt64) 0 9) (va_cwS 3 hts gX6_figures_X6_in rfl rfl rfl hd_X6_in ⟨Nat.le_of_ble_eq_true rfl, Nat.le_of_ble_eq_true rfl⟩) (gS hE (hP.sub [] rfl) (hD.sub [] (by decide) rfl)) rfl rfl hl.1 rfl (lv_room (Nat.le_of_ble_eq_true rfl)) dX6_figures_82 ⟨Nat.le_of_ble_eq_true rfl, Nat.le_of_ble_eq_true rfl⟩) (fun v10 h9 => ?_)
            have hF := hF.trans (gLet_e h9)
            refine lv_if_eq (tgt := 106) hx hb dX6_figures_85 (by decide) (fun c_11 => ?_) (fun c_11 => ?_)
            · have hF := hF.trans (if_pos c_11)
              refine lv_iconst (v := (-1)) hx hb dX6_figures_106 (by decide) ?_
              exact W.iret (v := (-1)) hx hb hr (fun t ht hW => ⟨⟨(-1), sp_, rfl, hF, ⟨by rw [ht]; exact hP, hD⟩⟩, hS.F ht⟩) hS.2.2 dX6_figures_107
            · have hF := hF.trans (if_neg c_11)
              refine lv_iload hx hb dX6_figures_88 (lv_at hl 0 rfl) ?_
              refine lv_iload hx hb dX6_figures_90 (lv_at hl 6 rfl) ?_
              refine lv_icmp_gt (tgt := 106) hx hb dX6_figures_92 (by decide) (fun c_12 => ?_) (fun c_12 => ?_)
              · have hF := hF.trans (if_pos c_12)
                refine lv_iconst (v := (-1)) hx hb dX6_figures_106 (by decide) ?_
                exact W.iret (v := (-1)) hx hb hr (fun t ht hW => ⟨⟨(-1), sp_, rfl, hF, ⟨by rw [ht]; exact hP, hD⟩⟩, hS.F ht⟩) hS.2.2 dX6_figures_107
              · have hF := hF.trans (if_neg c_12)
                refine lv_iload hx hb dX6_figures_95 (lv_at hl 0 rfl) ?_
                refine lv_iload hx hb dX6_figures_97 (lv_at hl 8 rfl) ?_
                refine lv_iadd hx hb dX6_figures_99 ?_
                refine lv_iconst (v := 1) hx hb dX6_figures_100 (by decide) ?_
                refine lv_isub hx hb dX6_figures_101 ?_
                refine lv_iload_n hx hb dX6_figures_102 rfl (lv_at hl 5 rfl) ?_
                refine lv_icmp_ge (tgt := 108) hx hb dX6_figures_103 (by decide) (fun c_13 => ?_) (fun c_13 => ?_)
                · have hF := hF.trans (if_pos c_13)
                  refine lv_iload hx hb dX6_figures_108 (lv_at hl 0 rfl) ?_
                  refine lv_istore (lv' := [(5, .int (x5 + (((tx sp_.toNatClampNeg) - 48) * x6))), (8, .int (x5 + (((tx sp_.toNatClampNeg) - 48) * x6))), (7, .int ((tx sp_.toNatClampNeg) - 48)), (0, .ref a0), (1, .int p0), (2, .int p1), (3, .int p2), (4, .int p3), (6, .int x6)]) hx hb dX6_figures_110 hl (by decide) rfl (fun ls hl => ?_)
                  refine lv_aload_n hx hb dX6_figures_112 rfl (lv_at hl 3 rfl) ?_
                  refine lv_dup hx hb dX6_figures_113 rfl ?_
                  refine va_get (D := D) (ci := 5) (v := .int sp_) (C := RX6) (T := TX6) (N := 11) hx hb hts hi6 hown hE.1 hP 0 rfl rfl 9 (by decide) w_0 (fun _ h9 => h9) rfl dX6_figures_114 ?_
                  refine lv_iconst (v := 1) hx hb dX6_figures_117 (by decide) ?_
                  refine lv_iadd hx hb dX6_figures_118 ?_
                  refine va_put (D := D) (ci := 5) (v := .int (sp_ + 1)) (ty := .int) (C := RX6) (T := TX6) (N := 11) hx hb hts hi6 tyX6 tyX6_ok nmX6 hown hE.1 hP hD hS 0 rfl rfl 9 (by decide) w_0 (fun _ h9 => h9) rfl (by decide +kernel) rfl rfl (Nat.le_of_ble_eq_true rfl) dX6_figures_119 (fun H locs hP hD hS => ?_)
                  have hP : va_P D vwCl [(a0, .inr (5, [.int rf, .ref a1, .int sz, .ref a2, .ref a3, .ref a4, .int ac, .ref a5, .ref a6, .int (sp_ + 1), .int ou])), (a1, .inl (y 0, 120, .inl tx))] H := hP
                  have hD : va_D A [(a0, .inr (5, [.int rf, .ref a1, .int sz, .ref a2, .ref a3, .ref a4, .int ac, .ref a5, .ref a6, .int (sp_ + 1), .int ou])), (a1, .inl (y 0, 120, .inl tx))] := hD
                  refine lv_iload hx hb dX6_figures_122 (lv_at hl 8 rfl) ?_
                  refine lv_bipush (v := 10) hx hb dX6_figures_124 (by decide) ?_
                  refine lv_idiv hx hb dX6_figures_126 (by decide) ?_
                  refine lv_istore (lv' := [(6, .int (x6 / 10)), (5, .int (x5 + (((tx sp_.toNatClampNeg) - 48) * x6))), (8, .int (x5 + (((tx sp_.toNatClampNeg) - 48) * x6))), (7, .int ((tx sp_.toNatClampNeg) - 48)), (0, .ref a0), (1, .int p0), (2, .int p1), (3, .int p2), (4, .int p3)]) hx hb dX6_figures_127 hl (by decide) rfl (fun ls hl => ?_)
                  refine lv_goto (tgt := 26) hx hb dX6_figures_129 (by decide) ?_
                  exact ih (x5 + (((tx sp_.toNatClampNeg) - 48) * x6)) (x6 / 10) (sp_ + 1) (up_nn2 (by assumption) hs_) ((dv10 (by assumption) hμ)) hF _ _ hP hD hS ls (lv_sub hl [4, 5, 6, 7, 8, 1, 0] rfl)
                · have hF := hF.trans (if_neg c_13)
                  refine lv_iconst (v := (-1)) hx hb dX6_figures_106 (by decide) ?_
                  exact W.iret (v := (-1)) hx hb hr (fun t ht hW => ⟨⟨(-1), sp_, rfl, hF, ⟨by rw [ht]; exact hP, hD⟩⟩, hS.F ht⟩) hS.2.2 dX6_figures_107
  have hF := f_X6_figures_s rf sz ac sp ou tx p0 p1 p2 p3
  refine lv_iconst (v := 0) hx hb dX6_figures_0 (by decide) ?_
  refine lv_istore (lv' := [(5, .int 0), (0, .ref a0), (1, .int p0), (2, .int p1), (3, .int p2), (4, .int p3)]) hx hb dX6_figures_1 hl (by decide) rfl (fun ls hl => ?_)
  refine lv_iload_n hx hb dX6_figures_3 rfl (lv_at hl 3 rfl) ?_
  refine lv_iconst (v := 3) hx hb dX6_figures_4 (by decide) ?_
  refine lv_icmp_ne (tgt := 13) hx hb dX6_figures_5 (by decide) (fun c_14 => ?_) (fun c_14 => ?_)
  · have hF := hF.trans (if_neg c_14)
    refine lv_iload_n hx hb dX6_figures_13 rfl (lv_at hl 3 rfl) ?_
    refine lv_iconst (v := 2) hx hb dX6_figures_14 (by decide) ?_
    refine lv_icmp_ne (tgt := 23) hx hb dX6_figures_15 (by decide) (fun c_15 => ?_) (fun c_15 => ?_)
    · have hF := hF.trans (if_neg c_15)
      refine lv_iconst (v := 1) hx hb dX6_figures_23 (by decide) ?_
      refine lv_istore (lv' := [(6, .int 1), (5, .int 0), (0, .ref a0), (1, .int p0), (2, .int p1), (3, .int p2), (4, .int p3)]) hx hb dX6_figures_24 hl (by decide) rfl (fun ls hl => ?_)
      exact loop_26 _ 0 1 sp (hs) (Nat.lt_succ_self _) hF _ _ hP hD hS ls (lv_sub hl [2, 3, 4, 5, 6, 1, 0] rfl)
    · have hF := hF.trans (if_pos c_15)
      refine lv_bipush (v := 10) hx hb dX6_figures_18 (by decide) ?_
      refine lv_goto (tgt := 24) hx hb dX6_figures_20 (by decide) ?_
      refine lv_istore (lv' := [(6, .int 10), (5, .int 0), (0, .ref a0), (1, .int p0), (2, .int p1), (3, .int p2), (4, .int p3)]) hx hb dX6_figures_24 hl (by decide) rfl (fun ls hl => ?_)
      exact loop_26 _ 0 10 sp (hs) (Nat.lt_succ_self _) hF _ _ hP hD hS ls (lv_sub hl [2, 3, 4, 5, 6, 1, 0] rfl)
  · have hF := hF.trans (if_pos c_14)
    refine lv_bipush (v := 100) hx hb dX6_figures_8 (by decide) ?_
    refine lv_goto (tgt := 24) hx hb dX6_figures_10 (by decide) ?_
    refine lv_istore (lv' := [(6, .int 100), (5, .int 0), (0, .ref a0), (1, .int p0), (2, .int p1), (3, .int p2), (4, .int p3)]) hx hb dX6_figures_24 hl (by decide) rfl (fun ls hl => ?_)
    exact loop_26 _ 0 100 sp (hs) (Nat.lt_succ_self _) hF _ _ hP hD hS ls (lv_sub hl [2, 3, 4, 5, 6, 1, 0] rfl)
