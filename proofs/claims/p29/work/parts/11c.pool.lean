/-! WHAT IS REMEMBERED, WHAT IS SAVED -/

def f_X0_size (qz : Int32) (qn : Int32) : Int32 :=
    qz
theorem f_X0_size_s (qz : Int32) (qn : Int32) : f_X0_size qz qn =
    (qz) := rfl
theorem hd_X0_size : yX0_size.cls = RX0 ∧ yX0_size.cls ≠ "java/lang/invoke/MethodHandle" ∧ yX0_size.cls ≠ "java/lang/invoke/VarHandle" ∧ (parseMethodDescriptor yX0_size.desc).map (fun d => d.parameters.length) = some 0 := by decide +kernel
set_option maxHeartbeats 4000000 in
set_option maxRecDepth 100000 in
theorem c_X0_size (l : Launch) (D : va_G) (y : Nat → ClassId) (a0 a1 : Nat) (zh : Nat) (qz : Int32) (qn : Int32) : Met l yX0_size wsX0_size ({ frames := 0, cells := 0, slots := 0, locals := 0 }) (gP D y [.ref a0] zh [(a0, .inr (0, [.ref a1, .int qz, .int qn]))]) (vp_Si (fun v : Int32 => f_X0_size qz qn = v)) 0 0 (fun _ => False) := by
  refine Met.ofW (cc := cX0_size) (maxL := 1) (ret := (some .int)) (by decide) rfl ?_
  intro p e s m args below meth c s₁ B hml hv
  obtain ⟨rfl, hsz, hP, hE, hD⟩ := hv
  have hx := B.exec
  have hb := B.bytes
  have hr := B.returns
  have hts := atoms_spec (ws := wsX0_size) B.pre
  have hown : s.vm.findClass RX0 = some m.cls := findClass_of_methodNamed B.named
  have hlocks := B.notSynchronized
  have w_0 := hts (.fieldLink RX0 15 "GapLines$History" "size" "I") (List.mem_cons_of_mem _ (List.mem_append_left _ (List.mem_of_getElem? (i := 0) rfl)))
  have hi0 : ∀ w ∈ u_ws RX0 TX0 3, w ∈ wsX0_size := fun w h => (List.mem_cons_of_mem _ (List.mem_append_right _ h))
  have hl := lv_entry ([.ref a0]) (n := 1) (Nat.le_of_ble_eq_true rfl)
  rw [lg_entry_eq]
  generalize (lg_sl ([.ref a0]) ++ List.replicate (1 - (lg_sl ([.ref a0])).length) Slot.unset).toArray = ls at hl ⊢
  have hl : lv_has ls 1 [(0, .ref a0)] := hl
  have hF := f_X0_size_s qz qn
  refine lv_aload_n hx hb dX0_size_0 rfl (lv_at hl 0 rfl) ?_
  refine va_get (D := D) (ci := 0) (v := .int qz) (C := RX0) (T := TX0) (N := 3) hx hb hts hi0 hown hE.1 hP 0 rfl rfl 1 (by decide) w_0 (fun _ h9 => h9) rfl dX0_size_1 ?_
  exact W.iret (v := qz) hx hb hr (fun t ht hW => ⟨qz, rfl, hF, ht⟩) (fun _ h => nomatch h) dX0_size_4

def f_X0_forgetAll (qz : Int32) (qn : Int32) : Int32 :=
    0
theorem f_X0_forgetAll_s (qz : Int32) (qn : Int32) : f_X0_forgetAll qz qn =
    (0) := rfl
theorem hd_X0_forgetAll : yX0_forgetAll.cls = RX0 ∧ yX0_forgetAll.cls ≠ "java/lang/invoke/MethodHandle" ∧ yX0_forgetAll.cls ≠ "java/lang/invoke/VarHandle" ∧ (parseMethodDescriptor yX0_forgetAll.desc).map (fun d => d.parameters.length) = some 0 := by decide +kernel
set_option maxHeartbeats 4000000 in
set_option maxRecDepth 100000 in
theorem c_X0_forgetAll (l : Launch) (D : va_G) (y : Nat → ClassId) (a0 a1 : Nat) (zh : Nat) (qz : Int32) (qn : Int32) : Met l yX0_forgetAll wsX0_forgetAll ({ frames := 0, cells := 0, slots := 0, locals := 0 }) (gP D y [.ref a0] zh [(a0, .inr (0, [.ref a1, .int qz, .int qn]))]) (va_Qv (fun u : Int32 => f_X0_forgetAll qz qn = u) (fun (u : Int32) t => va_P D vwCl [(a0, .inr (0, [.ref a1, .int u, .int qn]))] t.heap ∧ va_D (va_A [(a0, .inr (0, [.ref a1, .int qz, .int qn]))] zh) [(a0, .inr (0, [.ref a1, .int u, .int qn]))]) (va_A [(a0, .inr (0, [.ref a1, .int qz, .int qn]))] zh)) 0 0 (va_A [(a0, .inr (0, [.ref a1, .int qz, .int qn]))] zh) := by
  refine Met.ofW (cc := cX0_forgetAll) (maxL := 1) (ret := none) (by decide) rfl ?_
  intro p e s m args below meth c s₁ B hml hv
  obtain ⟨rfl, hsz, hP, hE, hD⟩ := hv
  have hx := B.exec
  have hb := B.bytes
  have hr := B.returns
  have hts := atoms_spec (ws := wsX0_forgetAll) B.pre
  have hown : s.vm.findClass RX0 = some m.cls := findClass_of_methodNamed B.named
  have hlocks := B.notSynchronized
  have w_0 := hts (.fieldLink RX0 15 "GapLines$History" "size" "I") (List.mem_cons_of_mem _ (List.mem_append_left _ (List.mem_of_getElem? (i := 0) rfl)))
  have hi0 : ∀ w ∈ u_ws RX0 TX0 3, w ∈ wsX0_forgetAll := fun w h => (List.mem_cons_of_mem _ (List.mem_append_right _ h))
  subst hsz
  have hD := hD.self (sz := s.heap.size)
  generalize hAe : va_A [(a0, .inr (0, [.ref a1, .int qz, .int qn]))] s.heap.size = A at hD ⊢
  have hA : ∀ q : Nat, s.heap.size ≤ q → A q := fun q h => by rw [← hAe]; exact Or.inr h
  have hS : va_S A s.heap s.heap [] := va_S.rf
  have hl := lv_entry ([.ref a0]) (n := 1) (Nat.le_of_ble_eq_true rfl)
  rw [lg_entry_eq]
  generalize (lg_sl ([.ref a0]) ++ List.replicate (1 - (lg_sl ([.ref a0])).length) Slot.unset).toArray = ls at hl ⊢
  have hl : lv_has ls 1 [(0, .ref a0)] := hl
  have hF := f_X0_forgetAll_s qz qn
  refine lv_aload_n hx hb dX0_forgetAll_0 rfl (lv_at hl 0 rfl) ?_
  refine lv_iconst (v := 0) hx hb dX0_forgetAll_1 (by decide) ?_
  refine va_put (D := D) (ci := 0) (v := .int 0) (ty := .int) (C := RX0) (T := TX0) (N := 3) hx hb hts hi0 tyX0 tyX0_ok nmX0 hown hE.1 hP hD hS 0 rfl rfl 1 (by decide) w_0 (fun _ h9 => h9) rfl (by decide +kernel) rfl rfl (Nat.le_of_ble_eq_true rfl) dX0_forgetAll_2 (fun H locs hP hD hS => ?_)
  have hP : va_P D vwCl [(a0, .inr (0, [.ref a1, .int 0, .int qn]))] H := hP
  have hD : va_D A [(a0, .inr (0, [.ref a1, .int 0, .int qn]))] := hD
  exact W.vret hx hb hr (fun t ht hW => ⟨⟨0, rfl, hF, ⟨by rw [ht]; exact hP, hD⟩⟩, hS.F ht⟩) hS.2.2 dX0_forgetAll_5

def f_X2_has (p0 : Int32) : Int32 :=
    if p0 < 0 then
    0
  else
    if 2 ≤ p0 then
      0
    else
      1
theorem f_X2_has_s (p0 : Int32) : f_X2_has p0 =
    (if p0 < 0 then
    0
  else
    if 2 ≤ p0 then
      0
    else
      1) := rfl
theorem bo_X2_has (p0 : Int32) : (f_X2_has p0) = 0 ∨ (f_X2_has p0) = 1 := by
  unfold f_X2_has
  refine gIf_i (P := fun z : Int32 => z = 0 ∨ z = 1) (fun _ => ?_) (fun _ => ?_)
  · exact Or.inl rfl
  · refine gIf_i (P := fun z : Int32 => z = 0 ∨ z = 1) (fun _ => ?_) (fun _ => ?_)
    · exact Or.inl rfl
    · exact Or.inr rfl
theorem hd_X2_has : yX2_has.cls ≠ "java/lang/invoke/MethodHandle" ∧ yX2_has.cls ≠ "java/lang/invoke/VarHandle" ∧ (parseMethodDescriptor yX2_has.desc).map (fun d => d.parameters.length) = some 1 := by decide +kernel
set_option maxHeartbeats 4000000 in
set_option maxRecDepth 100000 in
theorem c_X2_has (l : Launch) (D : va_G) (y : Nat → ClassId) (zh : Nat) (p0 : Int32) : Met l yX2_has wsX2_has ({ frames := 0, cells := 0, slots := 0, locals := 0 }) (gP D y [.int p0] zh []) (vp_Si (fun v : Int32 => f_X2_has p0 = v)) 0 0 (fun _ => False) := by
  refine Met.ofW (cc := cX2_has) (maxL := 1) (ret := (some .boolean)) (by decide) rfl ?_
  intro p e s m args below meth c s₁ B hml hv
  obtain ⟨rfl, hsz, hP, hE, hD⟩ := hv
  have hx := B.exec
  have hb := B.bytes
  have hr := B.returns
  have hts := atoms_spec (ws := wsX2_has) B.pre
  have hown : s.vm.findClass RX2 = some m.cls := findClass_of_methodNamed B.named
  have hlocks := B.notSynchronized
  have hl := lv_entry ([.int p0]) (n := 1) (Nat.le_of_ble_eq_true rfl)
  rw [lg_entry_eq]
  generalize (lg_sl ([.int p0]) ++ List.replicate (1 - (lg_sl ([.int p0])).length) Slot.unset).toArray = ls at hl ⊢
  have hl : lv_has ls 1 [(0, .int p0)] := hl
  have hF := f_X2_has_s p0
  refine lv_iload_n hx hb dX2_has_0 rfl (lv_at hl 0 rfl) ?_
  refine lv_if_lt (tgt := 13) hx hb dX2_has_1 (by decide) (fun c_1 => ?_) (fun c_1 => ?_)
  · have hF := hF.trans (if_pos c_1)
    refine lv_iconst (v := 0) hx hb dX2_has_13 (by decide) ?_
    exact W.zret (v := 0) hx hb hr rfl (fun t ht hW => ⟨0, rfl, hF, ht⟩) (fun _ h => nomatch h) dX2_has_14
  · have hF := hF.trans (if_neg c_1)
    refine lv_iload_n hx hb dX2_has_4 rfl (lv_at hl 0 rfl) ?_
    refine lv_iconst (v := 2) hx hb dX2_has_5 (by decide) ?_
    refine lv_icmp_ge (tgt := 13) hx hb dX2_has_6 (by decide) (fun c_2 => ?_) (fun c_2 => ?_)
    · have hF := hF.trans (if_pos c_2)
      refine lv_iconst (v := 0) hx hb dX2_has_13 (by decide) ?_
      exact W.zret (v := 0) hx hb hr rfl (fun t ht hW => ⟨0, rfl, hF, ht⟩) (fun _ h => nomatch h) dX2_has_14
    · have hF := hF.trans (if_neg c_2)
      refine lv_iconst (v := 1) hx hb dX2_has_9 (by decide) ?_
      refine lv_goto (tgt := 14) hx hb dX2_has_10 (by decide) ?_
      exact W.zret (v := 1) hx hb hr rfl (fun t ht hW => ⟨1, rfl, hF, ht⟩) (fun _ h => nomatch h) dX2_has_14

def f_X2_forgetAll_L2 : Nat → Int32 → (Nat → Int32) → (Nat → Int32)
  | 0, _, lfl_ => lfl_
  | n + 1, x1, lfl_ =>
    if 2 ≤ x1 then
    lfl_
  else
    gLet (upd lfl_ x1.toNatClampNeg 0) (fun (r2 : Nat → Int32) =>
      f_X2_forgetAll_L2 n (x1 + 1) r2)
theorem f_X2_forgetAll_L2_s  (n : Nat) (x1 : Int32) (lfl_ : Nat → Int32) : f_X2_forgetAll_L2 (n + 1) x1 lfl_ =
    (if 2 ≤ x1 then
    lfl_
  else
    gLet (upd lfl_ x1.toNatClampNeg 0) (fun (r2 : Nat → Int32) =>
      f_X2_forgetAll_L2 n (x1 + 1) r2)) := rfl
def f_X2_forgetAll (lfl : Nat → Int32) : (Nat → Int32) :=
    f_X2_forgetAll_L2 (((2 : Int32).toInt - (0 : Int32).toInt).toNat + 1) 0 lfl
theorem f_X2_forgetAll_s (lfl : Nat → Int32) : f_X2_forgetAll lfl =
    (f_X2_forgetAll_L2 (((2 : Int32).toInt - (0 : Int32).toInt).toNat + 1) 0 lfl) := rfl
theorem hd_X2_forgetAll : yX2_forgetAll.cls = RX2 ∧ yX2_forgetAll.cls ≠ "java/lang/invoke/MethodHandle" ∧ yX2_forgetAll.cls ≠ "java/lang/invoke/VarHandle" ∧ (parseMethodDescriptor yX2_forgetAll.desc).map (fun d => d.parameters.length) = some 0 := by decide +kernel
set_option maxHeartbeats 4000000 in
set_option maxRecDepth 100000 in
theorem c_X2_forgetAll (l : Launch) (D : va_G) (y : Nat → ClassId) (a0 a1 a2 : Nat) (zh : Nat) (lfl : Nat → Int32) : Met l yX2_forgetAll wsX2_forgetAll ({ frames := 0, cells := 0, slots := 0, locals := 0 }) (gP D y [.ref a0] zh [(a0, .inr (1, [.ref a1, .ref a2])), (a2, .inl (y 2, 2, .inl lfl))]) (va_Qv (fun u : (Nat → Int32) => f_X2_forgetAll lfl = u) (fun (u : (Nat → Int32)) t => va_P D vwCl [(a0, .inr (1, [.ref a1, .ref a2])), (a2, .inl (y 2, 2, .inl u))] t.heap ∧ va_D (va_A [(a0, .inr (1, [.ref a1, .ref a2])), (a2, .inl (y 2, 2, .inl lfl))] zh) [(a0, .inr (1, [.ref a1, .ref a2])), (a2, .inl (y 2, 2, .inl u))]) (va_A [(a0, .inr (1, [.ref a1, .ref a2])), (a2, .inl (y 2, 2, .inl lfl))] zh)) 0 0 (va_A [(a0, .inr (1, [.ref a1, .ref a2])), (a2, .inl (y 2, 2, .inl lfl))] zh) := by
  refine Met.ofW (cc := cX2_forgetAll) (maxL := 2) (ret := none) (by decide) rfl ?_
  intro p e s m args below meth c s₁ B hml hv
  obtain ⟨rfl, hsz, hP, hE, hD⟩ := hv
  have hx := B.exec
  have hb := B.bytes
  have hr := B.returns
  have hts := atoms_spec (ws := wsX2_forgetAll) B.pre
  have hown : s.vm.findClass RX2 = some m.cls := findClass_of_methodNamed B.named
  have hlocks := B.notSynchronized
  have w_0 := hts (.fieldLink RX2 15 "GapLines$Slots" "filled" "[Z") (List.mem_cons_of_mem _ (List.mem_append_left _ (List.mem_of_getElem? (i := 0) rfl)))
  have hi2 : ∀ w ∈ u_ws RX2 TX2 2, w ∈ wsX2_forgetAll := fun w h => (List.mem_cons_of_mem _ (List.mem_append_right _ h))
  subst hsz
  have hD := hD.self (sz := s.heap.size)
  generalize hAe : va_A [(a0, .inr (1, [.ref a1, .ref a2])), (a2, .inl (y 2, 2, .inl lfl))] s.heap.size = A at hD ⊢
  have hA : ∀ q : Nat, s.heap.size ≤ q → A q := fun q h => by rw [← hAe]; exact Or.inr h
  have hS : va_S A s.heap s.heap [] := va_S.rf
  have hl := lv_entry ([.ref a0]) (n := 2) (Nat.le_of_ble_eq_true rfl)
  rw [lg_entry_eq]
  generalize (lg_sl ([.ref a0]) ++ List.replicate (2 - (lg_sl ([.ref a0])).length) Slot.unset).toArray = ls at hl ⊢
  have hl : lv_has ls 2 [(0, .ref a0)] := hl
  have loop_2 : ∀ (n : Nat) (x1 : Int32) (lfl_ : Nat → Int32) (hhx : 0 ≤ x1.toInt), ((2 : Int32).toInt - x1.toInt).toNat < n → f_X2_forgetAll lfl = f_X2_forgetAll_L2 n x1 lfl_ → ∀ (H : Heap) (locs : List Loc), va_P D vwCl [(a0, .inr (1, [.ref a1, .ref a2])), (a2, .inl (y 2, 2, .inl lfl_))] H → va_D A [(a0, .inr (1, [.ref a1, .ref a2])), (a2, .inl (y 2, 2, .inl lfl_))] → va_S A s.heap H locs → ∀ (ls : Array Slot), lv_has ls 2 [(0, .ref a0), (1, .int x1)] → W p l e (headSpec wsX2_forgetAll ({ frames := 0, cells := 0, slots := 0, locals := 0 })).room s m ([.ref a0] : List Value).toArray below meth c H locs 0 0 (MQ below (va_Qv (fun u : (Nat → Int32) => f_X2_forgetAll lfl = u) (fun (u : (Nat → Int32)) t => va_P D vwCl [(a0, .inr (1, [.ref a1, .ref a2])), (a2, .inl (y 2, 2, .inl u))] t.heap ∧ va_D (A) [(a0, .inr (1, [.ref a1, .ref a2])), (a2, .inl (y 2, 2, .inl u))]) A) ([.ref a0] : List Value).toArray s 0 0 A) (F0 m 2 ls []) := by
    intro n
    induction n with
    | zero =>
      intro x1 lfl_ hhx hμ
      exact absurd hμ (Nat.not_lt_zero _)
    | succ n ih =>
      intro x1 lfl_ hhx hμ hF H locs hP hD hS ls hl
      have hF := hF.trans (f_X2_forgetAll_L2_s n x1 lfl_)
      refine lv_iload_n hx hb dX2_forgetAll_2 rfl (lv_at hl 1 rfl) ?_
      refine lv_iconst (v := 2) hx hb dX2_forgetAll_3 (by decide) ?_
      refine lv_icmp_ge (tgt := 20) hx hb dX2_forgetAll_4 (by decide) (fun c_1 => ?_) (fun c_1 => ?_)
      · have hF := hF.trans (if_pos c_1)
        exact W.vret hx hb hr (fun t ht hW => ⟨⟨lfl_, rfl, hF, ⟨by rw [ht]; exact hP, hD⟩⟩, hS.F ht⟩) hS.2.2 dX2_forgetAll_20
      · have hF := hF.trans (if_neg c_1)
        refine lv_aload_n hx hb dX2_forgetAll_7 rfl (lv_at hl 0 rfl) ?_
        refine va_get (D := D) (ci := 1) (v := .ref a2) (C := RX2) (T := TX2) (N := 2) hx hb hts hi2 hown hE.1 hP 0 rfl rfl 1 (by decide) w_0 (fun _ h9 => h9) rfl dX2_forgetAll_8 ?_
        refine lv_iload_n hx hb dX2_forgetAll_11 rfl (lv_at hl 1 rfl) ?_
        refine lv_iconst (v := 0) hx hb dX2_forgetAll_12 (by decide) ?_
        refine xa_zast (k := x1.toNatClampNeg) (x' := 0) hx hb hE.1 hP hD hS 1 2 rfl rfl (ix_btL hhx (by assumption) (by decide)) rfl rfl dX2_forgetAll_13 (fun H locs hP hD hS => ?_)
        obtain ⟨r2, er2⟩ : ∃ z : Nat → Int32, upd lfl_ x1.toNatClampNeg 0 = z := ⟨_, rfl⟩
        have hF := hF.trans (gLet_e er2)
        rw [er2] at hP hD
        have hP : va_P D vwCl [(a0, .inr (1, [.ref a1, .ref a2])), (a2, .inl (y 2, 2, .inl r2))] H := hP
        have hD : va_D A [(a0, .inr (1, [.ref a1, .ref a2])), (a2, .inl (y 2, 2, .inl r2))] := hD
        refine lv_iinc (v := (x1 + 1)) (lv' := [(1, .int (x1 + 1)), (0, .ref a0)]) hx hb dX2_forgetAll_14 hl (k := 1) rfl rfl (by decide) rfl (fun ls hl => ?_)
        refine lv_goto (tgt := 2) hx hb dX2_forgetAll_17 (by decide) ?_
        exact ih (x1 + 1) r2 (up_nn2 (by assumption) hhx) (lp_up (by assumption) hμ) hF _ _ hP hD hS ls (lv_sub hl [1, 0] rfl)
  have hF := f_X2_forgetAll_s lfl
  refine lv_iconst (v := 0) hx hb dX2_forgetAll_0 (by decide) ?_
  refine lv_istore_n (lv' := [(1, .int 0), (0, .ref a0)]) hx hb dX2_forgetAll_1 rfl hl (by decide) rfl (fun ls hl => ?_)
  exact loop_2 _ 0 lfl (by decide) (Nat.lt_succ_self _) hF _ _ hP hD hS ls (lv_sub hl [1, 0] rfl)

def f_X0_remember (r : gR) (qz qn : Int32) (hq : Nat → Option gR) : (Nat → Option gR) × Int32 × Int32 := (gPut hq qn.toNatClampNeg r, if 14 < qz + 1 then 14 else qz + 1, if 14 ≤ qn + 1 then 0 else qn + 1)
theorem hd_X0_remember : yX0_remember.cls = RX0 ∧ yX0_remember.cls ≠ "java/lang/invoke/MethodHandle" ∧ yX0_remember.cls ≠ "java/lang/invoke/VarHandle" ∧ (parseMethodDescriptor yX0_remember.desc).map (fun d => d.parameters.length) = some 1 := by decide +kernel
set_option maxHeartbeats 4000000 in
set_option maxRecDepth 100000 in
theorem c_X0_remember (l : Launch) (D : va_G) (y : Nat → ClassId) (a0 a1 a2 a3 a4 a5 a6 a7 a8 a9 a10 a11 a12 a13 : Nat) (ga gb : Nat → Nat × Nat × Nat) (zh : Nat) (tn : Int32) (tf : Nat → Int32) (r : gR) (rc : gR) (qz : Int32) (qn : Int32) (hq : Nat → Option gR) (lq : Nat → Option gR) (lfl : Nat → Int32) (hh : 0 ≤ qn.toInt ∧ qn.toInt < (14 : Nat)) (ho : okC r) : Met l yX0_remember wsX0_remember ({ frames := 2, cells := 3, slots := 80, locals := 39 }) (gP D y [.ref a4, .ref a2] zh ((a0, .inr (4, [.ref a1, .ref a2, .ref a3, .ref a4, .ref a5])) :: (a1, .inr (3, [.ref a6, .int tn])) :: (a6, .inl (y 1, 120, .inl tf)) :: (a2, soF a7 a8 r) :: (a7, soV y r) :: (a8, soW y r) :: (a3, soF a9 a10 rc) :: (a9, soV y rc) :: (a10, soW y rc) :: (a4, .inr (0, [.ref a11, .int qz, .int qn])) :: (a11, .inl (y 3, 14, .inr (.inr (.inr (.inr (gRf ga hq)))))) :: (a5, .inr (1, [.ref a12, .ref a13])) :: (a12, .inl (y 3, 2, .inr (.inr (.inr (.inr (gRf gb lq)))))) :: (a13, .inl (y 2, 2, .inl lfl)) :: gTail y ga gb hq lq)) (va_Qv (fun u : (Nat → Option gR) × Int32 × Int32 => f_X0_remember r qz qn hq = u) (fun (u : (Nat → Option gR) × Int32 × Int32) t => ∃ (g1 g2 : Nat → Nat × Nat × Nat), va_P D vwCl ((a0, .inr (4, [.ref a1, .ref a2, .ref a3, .ref a4, .ref a5])) :: (a1, .inr (3, [.ref a6, .int tn])) :: (a6, .inl (y 1, 120, .inl tf)) :: (a2, soF a7 a8 r) :: (a7, soV y r) :: (a8, soW y r) :: (a3, soF a9 a10 rc) :: (a9, soV y rc) :: (a10, soW y rc) :: (a4, .inr (0, [.ref a11, .int u.2.1, .int u.2.2])) :: (a11, .inl (y 3, 14, .inr (.inr (.inr (.inr (gRf g1 u.1)))))) :: (a5, .inr (1, [.ref a12, .ref a13])) :: (a12, .inl (y 3, 2, .inr (.inr (.inr (.inr (gRf g2 lq)))))) :: (a13, .inl (y 2, 2, .inl lfl)) :: gTail y g1 g2 u.1 lq) t.heap ∧ va_D (va_A ((a0, .inr (4, [.ref a1, .ref a2, .ref a3, .ref a4, .ref a5])) :: (a1, .inr (3, [.ref a6, .int tn])) :: (a6, .inl (y 1, 120, .inl tf)) :: (a2, soF a7 a8 r) :: (a7, soV y r) :: (a8, soW y r) :: (a3, soF a9 a10 rc) :: (a9, soV y rc) :: (a10, soW y rc) :: (a4, .inr (0, [.ref a11, .int qz, .int qn])) :: (a11, .inl (y 3, 14, .inr (.inr (.inr (.inr (gRf ga hq)))))) :: (a5, .inr (1, [.ref a12, .ref a13])) :: (a12, .inl (y 3, 2, .inr (.inr (.inr (.inr (gRf gb lq)))))) :: (a13, .inl (y 2, 2, .inl lfl)) :: gTail y ga gb hq lq) zh) ((a0, .inr (4, [.ref a1, .ref a2, .ref a3, .ref a4, .ref a5])) :: (a1, .inr (3, [.ref a6, .int tn])) :: (a6, .inl (y 1, 120, .inl tf)) :: (a2, soF a7 a8 r) :: (a7, soV y r) :: (a8, soW y r) :: (a3, soF a9 a10 rc) :: (a9, soV y rc) :: (a10, soW y rc) :: (a4, .inr (0, [.ref a11, .int u.2.1, .int u.2.2])) :: (a11, .inl (y 3, 14, .inr (.inr (.inr (.inr (gRf g1 u.1)))))) :: (a5, .inr (1, [.ref a12, .ref a13])) :: (a12, .inl (y 3, 2, .inr (.inr (.inr (.inr (gRf g2 lq)))))) :: (a13, .inl (y 2, 2, .inl lfl)) :: gTail y g1 g2 u.1 lq)) (va_A ((a0, .inr (4, [.ref a1, .ref a2, .ref a3, .ref a4, .ref a5])) :: (a1, .inr (3, [.ref a6, .int tn])) :: (a6, .inl (y 1, 120, .inl tf)) :: (a2, soF a7 a8 r) :: (a7, soV y r) :: (a8, soW y r) :: (a3, soF a9 a10 rc) :: (a9, soV y rc) :: (a10, soW y rc) :: (a4, .inr (0, [.ref a11, .int qz, .int qn])) :: (a11, .inl (y 3, 14, .inr (.inr (.inr (.inr (gRf ga hq)))))) :: (a5, .inr (1, [.ref a12, .ref a13])) :: (a12, .inl (y 3, 2, .inr (.inr (.inr (.inr (gRf gb lq)))))) :: (a13, .inl (y 2, 2, .inl lfl)) :: gTail y ga gb hq lq) zh)) 3 80 (va_A ((a0, .inr (4, [.ref a1, .ref a2, .ref a3, .ref a4, .ref a5])) :: (a1, .inr (3, [.ref a6, .int tn])) :: (a6, .inl (y 1, 120, .inl tf)) :: (a2, soF a7 a8 r) :: (a7, soV y r) :: (a8, soW y r) :: (a3, soF a9 a10 rc) :: (a9, soV y rc) :: (a10, soW y rc) :: (a4, .inr (0, [.ref a11, .int qz, .int qn])) :: (a11, .inl (y 3, 14, .inr (.inr (.inr (.inr (gRf ga hq)))))) :: (a5, .inr (1, [.ref a12, .ref a13])) :: (a12, .inl (y 3, 2, .inr (.inr (.inr (.inr (gRf gb lq)))))) :: (a13, .inl (y 2, 2, .inl lfl)) :: gTail y ga gb hq lq) zh) := by
  refine Met.ofW (cc := cX0_remember) (maxL := 2) (ret := none) (by decide) rfl ?_
  intro p e s m args below meth c s₁ B hml hv
  obtain ⟨rfl, hsz, hP, hE, hD⟩ := hv
  have hx := B.exec
  have hb := B.bytes
  have hr := B.returns
  have hts := atoms_spec (ws := wsX0_remember) B.pre
  have hown : s.vm.findClass RX0 = some m.cls := findClass_of_methodNamed B.named
  have hlocks := B.notSynchronized
  have w_0 := hts (.fieldLink RX0 11 "GapLines$History" "states" "[LGapLines$State;") (List.mem_cons_of_mem _ (List.mem_append_left _ (List.mem_append_left _ (List.mem_append_left _ (List.mem_of_getElem? (i := 0) rfl)))))
  have hi0 : ∀ w ∈ u_ws RX0 TX0 3, w ∈ wsX0_remember := fun w h => (List.mem_cons_of_mem _ (List.mem_append_left _ (List.mem_append_right _ h)))
  have w_2 := hts (.fieldLink RX0 19 "GapLines$History" "next" "I") (List.mem_cons_of_mem _ (List.mem_append_left _ (List.mem_append_left _ (List.mem_append_left _ (List.mem_of_getElem? (i := 1) rfl)))))
  have hi3 : ∀ w ∈ u_ws RX3 TX3 15, w ∈ wsX0_remember := fun w h => (List.mem_cons_of_mem _ (List.mem_append_right _ h))
  have w_4 := hts (.classLink RX0 9 RX3) (List.mem_cons_of_mem _ (List.mem_append_left _ (List.mem_append_left _ (List.mem_append_left _ (List.mem_of_getElem? (i := 2) rfl)))))
  have w_5 := hts (.instantiable RX3 15) (List.mem_cons_of_mem _ (List.mem_append_left _ (List.mem_append_left _ (List.mem_append_left _ (List.mem_of_getElem? (i := 3) rfl)))))
  have w_6 := hts (.initialized RX3) (List.mem_cons_of_mem _ (List.mem_append_left _ (List.mem_append_left _ (List.mem_append_left _ (List.mem_of_getElem? (i := 4) rfl)))))
  have w_7 := hts (.instanceMethod yX3_init) (List.mem_cons_of_mem _ (List.mem_append_left _ (List.mem_append_left _ (List.mem_append_left _ (List.mem_of_getElem? (i := 10) rfl)))))
  have w_8 := hts (.fieldLink RX0 15 "GapLines$History" "size" "I") (List.mem_cons_of_mem _ (List.mem_append_left _ (List.mem_append_left _ (List.mem_append_left _ (List.mem_of_getElem? (i := 5) rfl)))))
  have w_9 := hts (.methodLink RX0 27 Lib.Math.min.name) (List.mem_cons_of_mem _ (List.mem_append_left _ (List.mem_append_left _ (List.mem_append_left _ (List.mem_of_getElem? (i := 6) rfl)))))
  have w_10 := hts (.static Lib.Math.min.name) (List.mem_cons_of_mem _ (List.mem_append_left _ (List.mem_append_left _ (List.mem_append_left _ (List.mem_of_getElem? (i := 7) rfl)))))
  have w_11 := hts (.initialized "java/lang/Math") (List.mem_cons_of_mem _ (List.mem_append_left _ (List.mem_append_left _ (List.mem_append_left _ (List.mem_of_getElem? (i := 8) rfl)))))
  have w_12 := hts (.code Lib.Math.min.name Lib.Math.min.code 2 (some .int)) (List.mem_cons_of_mem _ (List.mem_append_left _ (List.mem_append_left _ (List.mem_append_left _ (List.mem_of_getElem? (i := 9) rfl)))))
  subst hsz
  have hD := hD.self (sz := s.heap.size)
  generalize hAe : va_A ((a0, .inr (4, [.ref a1, .ref a2, .ref a3, .ref a4, .ref a5])) :: (a1, .inr (3, [.ref a6, .int tn])) :: (a6, .inl (y 1, 120, .inl tf)) :: (a2, soF a7 a8 r) :: (a7, soV y r) :: (a8, soW y r) :: (a3, soF a9 a10 rc) :: (a9, soV y rc) :: (a10, soW y rc) :: (a4, .inr (0, [.ref a11, .int qz, .int qn])) :: (a11, .inl (y 3, 14, .inr (.inr (.inr (.inr (gRf ga hq)))))) :: (a5, .inr (1, [.ref a12, .ref a13])) :: (a12, .inl (y 3, 2, .inr (.inr (.inr (.inr (gRf gb lq)))))) :: (a13, .inl (y 2, 2, .inl lfl)) :: gTail y ga gb hq lq) s.heap.size = A at hD ⊢
  have hA : ∀ q : Nat, s.heap.size ≤ q → A q := fun q h => by rw [← hAe]; exact Or.inr h
  have hS : va_S A s.heap s.heap [] := va_S.rf
  have hl := lv_entry ([.ref a4, .ref a2]) (n := 2) (Nat.le_of_ble_eq_true rfl)
  rw [lg_entry_eq]
  generalize (lg_sl ([.ref a4, .ref a2]) ++ List.replicate (2 - (lg_sl ([.ref a4, .ref a2])).length) Slot.unset).toArray = ls at hl ⊢
  have hl : lv_has ls 2 [(0, .ref a4), (1, .ref a2)] := hl
  obtain ⟨T, hT⟩ : ∃ T : va_W, gTail y ga gb hq lq = T := ⟨_, rfl⟩
  rw [hT] at hP hD
  refine lv_aload_n hx hb dX0_remember_0 rfl (lv_at hl 0 rfl) ?_
  refine va_get (D := D) (ci := 0) (v := .ref a11) (C := RX0) (T := TX0) (N := 3) hx hb hts hi0 hown hE.1 hP 9 rfl rfl 0 (by decide) w_0 (fun _ h9 => h9) rfl dX0_remember_1 ?_
  refine lv_aload_n hx hb dX0_remember_4 rfl (lv_at hl 0 rfl) ?_
  refine va_get (D := D) (ci := 0) (v := .int qn) (C := RX0) (T := TX0) (N := 3) hx hb hts hi0 hown hE.1 hP 9 rfl rfl 2 (by decide) w_2 (fun _ h9 => h9) rfl dX0_remember_5 ?_
  refine va_aldq hx hb hE.1 hP 10 3 rfl rfl (xin2 hh.1 hh.2) dX0_remember_8 ?_
  rcases hk1 : hq (qn.toNatClampNeg) with _ | s2
  · rw [gRf_none hk1]
    refine lv_ifnonnullN hx hb dX0_remember_9 ?_
    obtain ⟨T3, hT3⟩ : ∃ T : va_W, gPool y ga (gHole hq (qn.toNatClampNeg)) 14 ++ gPool y gb lq 2 = T := ⟨_, rfl⟩
    have hTT : T = T3 := by rw [← hT, ← hT3, gHole_none hk1, gTail]
    rw [hTT] at hP hD
    refine lv_aload_n hx hb dX0_remember_12 rfl (lv_at hl 0 rfl) ?_
    refine va_get (D := D) (ci := 0) (v := .ref a11) (C := RX0) (T := TX0) (N := 3) hx hb hts hi0 hown hE.1 hP 9 rfl rfl 0 (by decide) w_0 (fun _ h9 => h9) rfl dX0_remember_13 ?_
    refine lv_aload_n hx hb dX0_remember_16 rfl (lv_at hl 0 rfl) ?_
    refine va_get (D := D) (ci := 0) (v := .int qn) (C := RX0) (T := TX0) (N := 3) hx hb hts hi0 hown hE.1 hP 9 rfl rfl 2 (by decide) w_2 (fun _ h9 => h9) rfl dX0_remember_17 ?_
    refine va_new (ci := 2) (fs := [.int 0, .int 0, .int 0, .int 0, .int 0, .int 0, .int 0, .int 0, .int 0, .int 0, .int 0, .int 0, .int 0, .null, .null]) (C := RX3) (T := TX3) (N := 15) hx hb hts hi3 tyX3 tyX3_ok hown w_4 w_5 w_6 hE.1 hP hD hS hA rfl (fun j hj => by rcases (show j = 0 ∨ j = 1 ∨ j = 2 ∨ j = 3 ∨ j = 4 ∨ j = 5 ∨ j = 6 ∨ j = 7 ∨ j = 8 ∨ j = 9 ∨ j = 10 ∨ j = 11 ∨ j = 12 ∨ j = 13 ∨ j = 14 by omega) with rfl | rfl | rfl | rfl | rfl | rfl | rfl | rfl | rfl | rfl | rfl | rfl | rfl | rfl | rfl <;> rfl) (Nat.le_of_ble_eq_true rfl) (Nat.le_of_ble_eq_true rfl) dX0_remember_20 (fun q4 H hP hD hS => ?_)
    have hp := xa_swap [(a0, .inr (4, [.ref a1, .ref a2, .ref a3, .ref a4, .ref a5])), (a1, .inr (3, [.ref a6, .int tn])), (a6, .inl (y 1, 120, .inl tf)), (a2, soF a7 a8 r), (a7, soV y r), (a8, soW y r), (a3, soF a9 a10 rc), (a9, soV y rc), (a10, soW y rc), (a4, .inr (0, [.ref a11, .int qz, .int qn])), (a11, .inl (y 3, 14, .inr (.inr (.inr (.inr (gRf ga hq)))))), (a5, .inr (1, [.ref a12, .ref a13])), (a12, .inl (y 3, 2, .inr (.inr (.inr (.inr (gRf gb lq)))))), (a13, .inl (y 2, 2, .inl lfl))] T3 [(q4, .inr (2, [.int 0, .int 0, .int 0, .int 0, .int 0, .int 0, .int 0, .int 0, .int 0, .int 0, .int 0, .int 0, .int 0, .null, .null]))]
    have hP := xa_permP hp hP
    have hD := xa_permD hp hD
    have hP : va_P D vwCl ((a0, .inr (4, [.ref a1, .ref a2, .ref a3, .ref a4, .ref a5])) :: (a1, .inr (3, [.ref a6, .int tn])) :: (a6, .inl (y 1, 120, .inl tf)) :: (a2, soF a7 a8 r) :: (a7, soV y r) :: (a8, soW y r) :: (a3, soF a9 a10 rc) :: (a9, soV y rc) :: (a10, soW y rc) :: (a4, .inr (0, [.ref a11, .int qz, .int qn])) :: (a11, .inl (y 3, 14, .inr (.inr (.inr (.inr (gRf ga hq)))))) :: (a5, .inr (1, [.ref a12, .ref a13])) :: (a12, .inl (y 3, 2, .inr (.inr (.inr (.inr (gRf gb lq)))))) :: (a13, .inl (y 2, 2, .inl lfl)) :: (q4, .inr (2, [.int 0, .int 0, .int 0, .int 0, .int 0, .int 0, .int 0, .int 0, .int 0, .int 0, .int 0, .int 0, .int 0, .null, .null])) :: T3) H := hP
    have hD : va_D A ((a0, .inr (4, [.ref a1, .ref a2, .ref a3, .ref a4, .ref a5])) :: (a1, .inr (3, [.ref a6, .int tn])) :: (a6, .inl (y 1, 120, .inl tf)) :: (a2, soF a7 a8 r) :: (a7, soV y r) :: (a8, soW y r) :: (a3, soF a9 a10 rc) :: (a9, soV y rc) :: (a10, soW y rc) :: (a4, .inr (0, [.ref a11, .int qz, .int qn])) :: (a11, .inl (y 3, 14, .inr (.inr (.inr (.inr (gRf ga hq)))))) :: (a5, .inr (1, [.ref a12, .ref a13])) :: (a12, .inl (y 3, 2, .inr (.inr (.inr (.inr (gRf gb lq)))))) :: (a13, .inl (y 2, 2, .inl lfl)) :: (q4, .inr (2, [.int 0, .int 0, .int 0, .int 0, .int 0, .int 0, .int 0, .int 0, .int 0, .int 0, .int 0, .int 0, .int 0, .null, .null])) :: T3) := hD
    refine lv_dup hx hb dX0_remember_23 rfl ?_
    refine xw_new (w1a := fun (u : Nat × Nat) => [(q4, soF u.1 u.2 iniR)]) (w1b := fun (u : Nat × Nat) => [(u.1, soV y iniR), (u.2, soW y iniR)]) (va_runIN (As := []) (rest := [.ref q4, .int qn, .ref a11]) ⟨hx, hb, hml, hown, hts⟩ (c_X3_init l D y q4 H.size) ⟨va_cnB 0 hts gX0_remember_X3_init_n22 rfl rfl rfl (hE.2.1 _ (List.mem_of_getElem? (i := 4) rfl)) w_6 hd_X3_init ⟨Nat.le_of_ble_eq_true rfl, Nat.le_of_ble_eq_true rfl⟩, rfl, w_7⟩ (gS (As := [.ref q4]) hE (hP.sub [14] rfl) (hD.sub [14] (by decide) rfl)) rfl rfl hl.1 rfl (lv_room (Nat.le_of_ble_eq_true rfl)) dX0_remember_24 ⟨Nat.le_of_ble_eq_true rfl, Nat.le_of_ble_eq_true rfl⟩) hP hD hS hA [14] rfl (by decide) (fun _ => rfl) (fun u5 H locs h6 hP hD hS => ?_)
    have hp := xa_swap [(a0, .inr (4, [.ref a1, .ref a2, .ref a3, .ref a4, .ref a5])), (a1, .inr (3, [.ref a6, .int tn])), (a6, .inl (y 1, 120, .inl tf)), (a2, soF a7 a8 r), (a7, soV y r), (a8, soW y r), (a3, soF a9 a10 rc), (a9, soV y rc), (a10, soW y rc), (a4, .inr (0, [.ref a11, .int qz, .int qn])), (a11, .inl (y 3, 14, .inr (.inr (.inr (.inr (gRf ga hq)))))), (a5, .inr (1, [.ref a12, .ref a13])), (a12, .inl (y 3, 2, .inr (.inr (.inr (.inr (gRf gb lq)))))), (a13, .inl (y 2, 2, .inl lfl)), (q4, soF u5.1 u5.2 iniR)] T3 [(u5.1, soV y iniR), (u5.2, soW y iniR)]
    have hP := xa_permP hp hP
    have hD := xa_permD hp hD
    have hP : va_P D vwCl ((a0, .inr (4, [.ref a1, .ref a2, .ref a3, .ref a4, .ref a5])) :: (a1, .inr (3, [.ref a6, .int tn])) :: (a6, .inl (y 1, 120, .inl tf)) :: (a2, soF a7 a8 r) :: (a7, soV y r) :: (a8, soW y r) :: (a3, soF a9 a10 rc) :: (a9, soV y rc) :: (a10, soW y rc) :: (a4, .inr (0, [.ref a11, .int qz, .int qn])) :: (a11, .inl (y 3, 14, .inr (.inr (.inr (.inr (gRf ga hq)))))) :: (a5, .inr (1, [.ref a12, .ref a13])) :: (a12, .inl (y 3, 2, .inr (.inr (.inr (.inr (gRf gb lq)))))) :: (a13, .inl (y 2, 2, .inl lfl)) :: (q4, soF u5.1 u5.2 iniR) :: (u5.1, soV y iniR) :: (u5.2, soW y iniR) :: T3) H := hP
    have hD : va_D A ((a0, .inr (4, [.ref a1, .ref a2, .ref a3, .ref a4, .ref a5])) :: (a1, .inr (3, [.ref a6, .int tn])) :: (a6, .inl (y 1, 120, .inl tf)) :: (a2, soF a7 a8 r) :: (a7, soV y r) :: (a8, soW y r) :: (a3, soF a9 a10 rc) :: (a9, soV y rc) :: (a10, soW y rc) :: (a4, .inr (0, [.ref a11, .int qz, .int qn])) :: (a11, .inl (y 3, 14, .inr (.inr (.inr (.inr (gRf ga hq)))))) :: (a5, .inr (1, [.ref a12, .ref a13])) :: (a12, .inl (y 3, 2, .inr (.inr (.inr (.inr (gRf gb lq)))))) :: (a13, .inl (y 2, 2, .inl lfl)) :: (q4, soF u5.1 u5.2 iniR) :: (u5.1, soV y iniR) :: (u5.2, soW y iniR) :: T3) := hD
    refine va_astq hx hb hE.1 hP hD hS 10 3 14 2 rfl rfl rfl rfl (xin2 hh.1 hh.2) dX0_remember_27 (fun H locs hP hD hS => ?_)
    have hP : va_P D vwCl ((a0, .inr (4, [.ref a1, .ref a2, .ref a3, .ref a4, .ref a5])) :: (a1, .inr (3, [.ref a6, .int tn])) :: (a6, .inl (y 1, 120, .inl tf)) :: (a2, soF a7 a8 r) :: (a7, soV y r) :: (a8, soW y r) :: (a3, soF a9 a10 rc) :: (a9, soV y rc) :: (a10, soW y rc) :: (a4, .inr (0, [.ref a11, .int qz, .int qn])) :: (a11, .inl (y 3, 14, .inr (.inr (.inr (.inr (va_up (gRf ga hq) (qn.toNatClampNeg) (some q4))))))) :: (a5, .inr (1, [.ref a12, .ref a13])) :: (a12, .inl (y 3, 2, .inr (.inr (.inr (.inr (gRf gb lq)))))) :: (a13, .inl (y 2, 2, .inl lfl)) :: (q4, soF u5.1 u5.2 iniR) :: (u5.1, soV y iniR) :: (u5.2, soW y iniR) :: T3) H := hP
    have hD : va_D A ((a0, .inr (4, [.ref a1, .ref a2, .ref a3, .ref a4, .ref a5])) :: (a1, .inr (3, [.ref a6, .int tn])) :: (a6, .inl (y 1, 120, .inl tf)) :: (a2, soF a7 a8 r) :: (a7, soV y r) :: (a8, soW y r) :: (a3, soF a9 a10 rc) :: (a9, soV y rc) :: (a10, soW y rc) :: (a4, .inr (0, [.ref a11, .int qz, .int qn])) :: (a11, .inl (y 3, 14, .inr (.inr (.inr (.inr (va_up (gRf ga hq) (qn.toNatClampNeg) (some q4))))))) :: (a5, .inr (1, [.ref a12, .ref a13])) :: (a12, .inl (y 3, 2, .inr (.inr (.inr (.inr (gRf gb lq)))))) :: (a13, .inl (y 2, 2, .inl lfl)) :: (q4, soF u5.1 u5.2 iniR) :: (u5.1, soV y iniR) :: (u5.2, soW y iniR) :: T3) := hD
    refine lv_aload_n hx hb dX0_remember_28 rfl (lv_at hl 0 rfl) ?_
    refine va_get (D := D) (ci := 0) (v := .ref a11) (C := RX0) (T := TX0) (N := 3) hx hb hts hi0 hown hE.1 hP 9 rfl rfl 0 (by decide) w_0 (fun _ h9 => h9) rfl dX0_remember_29 ?_
    refine lv_aload_n hx hb dX0_remember_32 rfl (lv_at hl 0 rfl) ?_
    refine va_get (D := D) (ci := 0) (v := .int qn) (C := RX0) (T := TX0) (N := 3) hx hb hts hi0 hown hE.1 hP 9 rfl rfl 2 (by decide) w_2 (fun _ h9 => h9) rfl dX0_remember_33 ?_
    refine va_aldq hx hb hE.1 hP 10 3 rfl rfl (xin2 hh.1 hh.2) dX0_remember_36 ?_
    rw [gUp_at]
    refine W.eq (g2 := F0 m 37 ls (.ref q4 :: [])) rfl ?_
    refine lv_aload_n hx hb dX0_remember_37 rfl (lv_at hl 1 rfl) ?_
    refine xw_callv (va_runV (As := [.ref a2]) (rest := []) ⟨hx, hb, hml, hown, hts⟩ (c_X3_copyFrom l D y q4 u5.1 u5.2 a2 a7 a8 H.size iniR r ho) (cwV 1 hts gX0_remember_X3_copyFrom rfl rfl rfl hd_X3_copyFrom ⟨Nat.le_of_ble_eq_true rfl, Nat.le_of_ble_eq_true rfl⟩) (gV (q := (RX3, TX3, 15)) hE (hP.sub [14, 15, 16, 3, 4, 5] rfl) (hD.sub [14, 15, 16, 3, 4, 5] (by decide) rfl) 0 rfl rfl) rfl rfl hl.1 rfl (lv_room (Nat.le_of_ble_eq_true rfl)) dX0_remember_38 ⟨Nat.le_of_ble_eq_true rfl, Nat.le_of_ble_eq_true rfl⟩) hP hD hS hA [14, 15, 16, 3, 4, 5] rfl (by decide) (fun _ => rfl) (fun u8 H locs h7 hP hD hS => ?_)
    obtain rfl : r = u8 := h7
    have hP : va_P D vwCl ((a0, .inr (4, [.ref a1, .ref a2, .ref a3, .ref a4, .ref a5])) :: (a1, .inr (3, [.ref a6, .int tn])) :: (a6, .inl (y 1, 120, .inl tf)) :: (a2, soF a7 a8 r) :: (a7, soV y r) :: (a8, soW y r) :: (a3, soF a9 a10 rc) :: (a9, soV y rc) :: (a10, soW y rc) :: (a4, .inr (0, [.ref a11, .int qz, .int qn])) :: (a11, .inl (y 3, 14, .inr (.inr (.inr (.inr (va_up (gRf ga hq) (qn.toNatClampNeg) (some q4))))))) :: (a5, .inr (1, [.ref a12, .ref a13])) :: (a12, .inl (y 3, 2, .inr (.inr (.inr (.inr (gRf gb lq)))))) :: (a13, .inl (y 2, 2, .inl lfl)) :: (q4, soF u5.1 u5.2 r) :: (u5.1, soV y r) :: (u5.2, soW y r) :: T3) H := hP
    have hD : va_D A ((a0, .inr (4, [.ref a1, .ref a2, .ref a3, .ref a4, .ref a5])) :: (a1, .inr (3, [.ref a6, .int tn])) :: (a6, .inl (y 1, 120, .inl tf)) :: (a2, soF a7 a8 r) :: (a7, soV y r) :: (a8, soW y r) :: (a3, soF a9 a10 rc) :: (a9, soV y rc) :: (a10, soW y rc) :: (a4, .inr (0, [.ref a11, .int qz, .int qn])) :: (a11, .inl (y 3, 14, .inr (.inr (.inr (.inr (va_up (gRf ga hq) (qn.toNatClampNeg) (some q4))))))) :: (a5, .inr (1, [.ref a12, .ref a13])) :: (a12, .inl (y 3, 2, .inr (.inr (.inr (.inr (gRf gb lq)))))) :: (a13, .inl (y 2, 2, .inl lfl)) :: (q4, soF u5.1 u5.2 r) :: (u5.1, soV y r) :: (u5.2, soW y r) :: T3) := hD
    refine lv_aload_n hx hb dX0_remember_41 rfl (lv_at hl 0 rfl) ?_
    refine lv_aload_n hx hb dX0_remember_42 rfl (lv_at hl 0 rfl) ?_
    refine va_get (D := D) (ci := 0) (v := .int qn) (C := RX0) (T := TX0) (N := 3) hx hb hts hi0 hown hE.1 hP 9 rfl rfl 2 (by decide) w_2 (fun _ h9 => h9) rfl dX0_remember_43 ?_
    refine lv_iconst (v := 1) hx hb dX0_remember_46 (by decide) ?_
    refine lv_iadd hx hb dX0_remember_47 ?_
    refine lv_bipush (v := 14) hx hb dX0_remember_48 (by decide) ?_
    refine lv_icmp_ge (tgt := 62) hx hb dX0_remember_50 (by decide) (fun c_9 => ?_) (fun c_9 => ?_)
    · skip
      refine lv_iconst (v := 0) hx hb dX0_remember_62 (by decide) ?_
      refine va_put (D := D) (ci := 0) (v := .int 0) (ty := .int) (C := RX0) (T := TX0) (N := 3) hx hb hts hi0 tyX0 tyX0_ok nmX0 hown hE.1 hP hD hS 9 rfl rfl 2 (by decide) w_2 (fun _ h9 => h9) rfl (by decide +kernel) rfl rfl (Nat.le_of_ble_eq_true rfl) dX0_remember_63 (fun H locs hP hD hS => ?_)
      have hP : va_P D vwCl ((a0, .inr (4, [.ref a1, .ref a2, .ref a3, .ref a4, .ref a5])) :: (a1, .inr (3, [.ref a6, .int tn])) :: (a6, .inl (y 1, 120, .inl tf)) :: (a2, soF a7 a8 r) :: (a7, soV y r) :: (a8, soW y r) :: (a3, soF a9 a10 rc) :: (a9, soV y rc) :: (a10, soW y rc) :: (a4, .inr (0, [.ref a11, .int qz, .int 0])) :: (a11, .inl (y 3, 14, .inr (.inr (.inr (.inr (va_up (gRf ga hq) (qn.toNatClampNeg) (some q4))))))) :: (a5, .inr (1, [.ref a12, .ref a13])) :: (a12, .inl (y 3, 2, .inr (.inr (.inr (.inr (gRf gb lq)))))) :: (a13, .inl (y 2, 2, .inl lfl)) :: (q4, soF u5.1 u5.2 r) :: (u5.1, soV y r) :: (u5.2, soW y r) :: T3) H := hP
      have hD : va_D A ((a0, .inr (4, [.ref a1, .ref a2, .ref a3, .ref a4, .ref a5])) :: (a1, .inr (3, [.ref a6, .int tn])) :: (a6, .inl (y 1, 120, .inl tf)) :: (a2, soF a7 a8 r) :: (a7, soV y r) :: (a8, soW y r) :: (a3, soF a9 a10 rc) :: (a9, soV y rc) :: (a10, soW y rc) :: (a4, .inr (0, [.ref a11, .int qz, .int 0])) :: (a11, .inl (y 3, 14, .inr (.inr (.inr (.inr (va_up (gRf ga hq) (qn.toNatClampNeg) (some q4))))))) :: (a5, .inr (1, [.ref a12, .ref a13])) :: (a12, .inl (y 3, 2, .inr (.inr (.inr (.inr (gRf gb lq)))))) :: (a13, .inl (y 2, 2, .inl lfl)) :: (q4, soF u5.1 u5.2 r) :: (u5.1, soV y r) :: (u5.2, soW y r) :: T3) := hD
      refine lv_aload_n hx hb dX0_remember_66 rfl (lv_at hl 0 rfl) ?_
      refine lv_aload_n hx hb dX0_remember_67 rfl (lv_at hl 0 rfl) ?_
      refine va_get (D := D) (ci := 0) (v := .int qz) (C := RX0) (T := TX0) (N := 3) hx hb hts hi0 hown hE.1 hP 9 rfl rfl 1 (by decide) w_8 (fun _ h9 => h9) rfl dX0_remember_68 ?_
      refine lv_iconst (v := 1) hx hb dX0_remember_71 (by decide) ?_
      refine lv_iadd hx hb dX0_remember_72 ?_
      refine lv_bipush (v := 14) hx hb dX0_remember_73 (by decide) ?_
      refine va_mmin hx hb (hml.trans hl.1.symm) hown w_9 w_10 w_11 w_12 (Nat.le_of_ble_eq_true rfl) (Nat.le_of_ble_eq_true rfl) (Nat.le_of_ble_eq_true rfl) (Nat.le_of_ble_eq_true rfl) dX0_remember_75 ?_
      obtain ⟨v10, ev10⟩ : ∃ z : Int32, (if 14 < (qz + 1) then 14 else (qz + 1)) = z := ⟨_, rfl⟩
      rw [ev10]
      skip
      refine va_put (D := D) (ci := 0) (v := .int v10) (ty := .int) (C := RX0) (T := TX0) (N := 3) hx hb hts hi0 tyX0 tyX0_ok nmX0 hown hE.1 hP hD hS 9 rfl rfl 1 (by decide) w_8 (fun _ h9 => h9) rfl (by decide +kernel) rfl rfl (Nat.le_of_ble_eq_true rfl) dX0_remember_78 (fun H locs hP hD hS => ?_)
      have hP : va_P D vwCl ((a0, .inr (4, [.ref a1, .ref a2, .ref a3, .ref a4, .ref a5])) :: (a1, .inr (3, [.ref a6, .int tn])) :: (a6, .inl (y 1, 120, .inl tf)) :: (a2, soF a7 a8 r) :: (a7, soV y r) :: (a8, soW y r) :: (a3, soF a9 a10 rc) :: (a9, soV y rc) :: (a10, soW y rc) :: (a4, .inr (0, [.ref a11, .int v10, .int 0])) :: (a11, .inl (y 3, 14, .inr (.inr (.inr (.inr (va_up (gRf ga hq) (qn.toNatClampNeg) (some q4))))))) :: (a5, .inr (1, [.ref a12, .ref a13])) :: (a12, .inl (y 3, 2, .inr (.inr (.inr (.inr (gRf gb lq)))))) :: (a13, .inl (y 2, 2, .inl lfl)) :: (q4, soF u5.1 u5.2 r) :: (u5.1, soV y r) :: (u5.2, soW y r) :: T3) H := hP
      have hD : va_D A ((a0, .inr (4, [.ref a1, .ref a2, .ref a3, .ref a4, .ref a5])) :: (a1, .inr (3, [.ref a6, .int tn])) :: (a6, .inl (y 1, 120, .inl tf)) :: (a2, soF a7 a8 r) :: (a7, soV y r) :: (a8, soW y r) :: (a3, soF a9 a10 rc) :: (a9, soV y rc) :: (a10, soW y rc) :: (a4, .inr (0, [.ref a11, .int v10, .int 0])) :: (a11, .inl (y 3, 14, .inr (.inr (.inr (.inr (va_up (gRf ga hq) (qn.toNatClampNeg) (some q4))))))) :: (a5, .inr (1, [.ref a12, .ref a13])) :: (a12, .inl (y 3, 2, .inr (.inr (.inr (.inr (gRf gb lq)))))) :: (a13, .inl (y 2, 2, .inl lfl)) :: (q4, soF u5.1 u5.2 r) :: (u5.1, soV y r) :: (u5.2, soW y r) :: T3) := hD
      obtain ⟨T11, hT11⟩ : ∃ T : va_W, gTail y (gSet ga (qn.toNatClampNeg) (q4, u5.1, u5.2)) gb (gPut hq (qn.toNatClampNeg) r) lq = T := ⟨_, rfl⟩
      have hp := gT_inH' hT11 hT3 (vp_lt (xin2 hh.1 hh.2)) [(a0, .inr (4, [.ref a1, .ref a2, .ref a3, .ref a4, .ref a5])), (a1, .inr (3, [.ref a6, .int tn])), (a6, .inl (y 1, 120, .inl tf)), (a2, soF a7 a8 r), (a7, soV y r), (a8, soW y r), (a3, soF a9 a10 rc), (a9, soV y rc), (a10, soW y rc), (a4, .inr (0, [.ref a11, .int v10, .int 0])), (a11, .inl (y 3, 14, .inr (.inr (.inr (.inr (va_up (gRf ga hq) (qn.toNatClampNeg) (some q4))))))), (a5, .inr (1, [.ref a12, .ref a13])), (a12, .inl (y 3, 2, .inr (.inr (.inr (.inr (gRf gb lq)))))), (a13, .inl (y 2, 2, .inl lfl))]
      have hP := xa_permP hp hP
      have hD := xa_permD hp hD
      have hP : va_P D vwCl ((a0, .inr (4, [.ref a1, .ref a2, .ref a3, .ref a4, .ref a5])) :: (a1, .inr (3, [.ref a6, .int tn])) :: (a6, .inl (y 1, 120, .inl tf)) :: (a2, soF a7 a8 r) :: (a7, soV y r) :: (a8, soW y r) :: (a3, soF a9 a10 rc) :: (a9, soV y rc) :: (a10, soW y rc) :: (a4, .inr (0, [.ref a11, .int v10, .int 0])) :: (a11, .inl (y 3, 14, .inr (.inr (.inr (.inr (va_up (gRf ga hq) (qn.toNatClampNeg) (some q4))))))) :: (a5, .inr (1, [.ref a12, .ref a13])) :: (a12, .inl (y 3, 2, .inr (.inr (.inr (.inr (gRf gb lq)))))) :: (a13, .inl (y 2, 2, .inl lfl)) :: T11) H := hP
      have hD : va_D A ((a0, .inr (4, [.ref a1, .ref a2, .ref a3, .ref a4, .ref a5])) :: (a1, .inr (3, [.ref a6, .int tn])) :: (a6, .inl (y 1, 120, .inl tf)) :: (a2, soF a7 a8 r) :: (a7, soV y r) :: (a8, soW y r) :: (a3, soF a9 a10 rc) :: (a9, soV y rc) :: (a10, soW y rc) :: (a4, .inr (0, [.ref a11, .int v10, .int 0])) :: (a11, .inl (y 3, 14, .inr (.inr (.inr (.inr (va_up (gRf ga hq) (qn.toNatClampNeg) (some q4))))))) :: (a5, .inr (1, [.ref a12, .ref a13])) :: (a12, .inl (y 3, 2, .inr (.inr (.inr (.inr (gRf gb lq)))))) :: (a13, .inl (y 2, 2, .inl lfl)) :: T11) := hD
      have hP : va_P D vwCl ((a0, .inr (4, [.ref a1, .ref a2, .ref a3, .ref a4, .ref a5])) :: (a1, .inr (3, [.ref a6, .int tn])) :: (a6, .inl (y 1, 120, .inl tf)) :: (a2, soF a7 a8 r) :: (a7, soV y r) :: (a8, soW y r) :: (a3, soF a9 a10 rc) :: (a9, soV y rc) :: (a10, soW y rc) :: (a4, .inr (0, [.ref a11, .int v10, .int 0])) :: (a11, .inl (y 3, 14, .inr (.inr (.inr (.inr (gRf (gSet ga (qn.toNatClampNeg) (q4, u5.1, u5.2)) (gPut hq (qn.toNatClampNeg) r))))))) :: (a5, .inr (1, [.ref a12, .ref a13])) :: (a12, .inl (y 3, 2, .inr (.inr (.inr (.inr (gRf gb lq)))))) :: (a13, .inl (y 2, 2, .inl lfl)) :: T11) H := by rw [gRf_set]; exact hP
      have hD : va_D A ((a0, .inr (4, [.ref a1, .ref a2, .ref a3, .ref a4, .ref a5])) :: (a1, .inr (3, [.ref a6, .int tn])) :: (a6, .inl (y 1, 120, .inl tf)) :: (a2, soF a7 a8 r) :: (a7, soV y r) :: (a8, soW y r) :: (a3, soF a9 a10 rc) :: (a9, soV y rc) :: (a10, soW y rc) :: (a4, .inr (0, [.ref a11, .int v10, .int 0])) :: (a11, .inl (y 3, 14, .inr (.inr (.inr (.inr (gRf (gSet ga (qn.toNatClampNeg) (q4, u5.1, u5.2)) (gPut hq (qn.toNatClampNeg) r))))))) :: (a5, .inr (1, [.ref a12, .ref a13])) :: (a12, .inl (y 3, 2, .inr (.inr (.inr (.inr (gRf gb lq)))))) :: (a13, .inl (y 2, 2, .inl lfl)) :: T11) := by rw [gRf_set]; exact hD
      have hF : f_X0_remember r qz qn hq = ((gPut hq (qn.toNatClampNeg) r), v10, 0) := by
        unfold f_X0_remember
        rw [ev10]
        first | rw [if_pos (show 14 ≤ qn + 1 from by assumption)] | rw [if_neg (show ¬ 14 ≤ qn + 1 from by assumption)]
      refine W.widen (k := 3) (n := 80) (Nat.le_of_ble_eq_true rfl) (Nat.le_of_ble_eq_true rfl) ?_
      rw [← hT11] at hP hD
      exact W.vret hx hb hr (fun t ht hW => ⟨⟨⟨(gPut hq (qn.toNatClampNeg) r), v10, 0⟩, rfl, hF, ⟨(gSet ga (qn.toNatClampNeg) (q4, u5.1, u5.2)), gb, by rw [ht]; exact hP, hD⟩⟩, hS.F ht⟩) hS.2.2 dX0_remember_81
    · skip
      refine lv_aload_n hx hb dX0_remember_53 rfl (lv_at hl 0 rfl) ?_
      refine va_get (D := D) (ci := 0) (v := .int qn) (C := RX0) (T := TX0) (N := 3) hx hb hts hi0 hown hE.1 hP 9 rfl rfl 2 (by decide) w_2 (fun _ h9 => h9) rfl dX0_remember_54 ?_
      refine lv_iconst (v := 1) hx hb dX0_remember_57 (by decide) ?_
      refine lv_iadd hx hb dX0_remember_58 ?_
      refine lv_goto (tgt := 63) hx hb dX0_remember_59 (by decide) ?_
      refine va_put (D := D) (ci := 0) (v := .int (qn + 1)) (ty := .int) (C := RX0) (T := TX0) (N := 3) hx hb hts hi0 tyX0 tyX0_ok nmX0 hown hE.1 hP hD hS 9 rfl rfl 2 (by decide) w_2 (fun _ h9 => h9) rfl (by decide +kernel) rfl rfl (Nat.le_of_ble_eq_true rfl) dX0_remember_63 (fun H locs hP hD hS => ?_)
      have hP : va_P D vwCl ((a0, .inr (4, [.ref a1, .ref a2, .ref a3, .ref a4, .ref a5])) :: (a1, .inr (3, [.ref a6, .int tn])) :: (a6, .inl (y 1, 120, .inl tf)) :: (a2, soF a7 a8 r) :: (a7, soV y r) :: (a8, soW y r) :: (a3, soF a9 a10 rc) :: (a9, soV y rc) :: (a10, soW y rc) :: (a4, .inr (0, [.ref a11, .int qz, .int (qn + 1)])) :: (a11, .inl (y 3, 14, .inr (.inr (.inr (.inr (va_up (gRf ga hq) (qn.toNatClampNeg) (some q4))))))) :: (a5, .inr (1, [.ref a12, .ref a13])) :: (a12, .inl (y 3, 2, .inr (.inr (.inr (.inr (gRf gb lq)))))) :: (a13, .inl (y 2, 2, .inl lfl)) :: (q4, soF u5.1 u5.2 r) :: (u5.1, soV y r) :: (u5.2, soW y r) :: T3) H := hP
      have hD : va_D A ((a0, .inr (4, [.ref a1, .ref a2, .ref a3, .ref a4, .ref a5])) :: (a1, .inr (3, [.ref a6, .int tn])) :: (a6, .inl (y 1, 120, .inl tf)) :: (a2, soF a7 a8 r) :: (a7, soV y r) :: (a8, soW y r) :: (a3, soF a9 a10 rc) :: (a9, soV y rc) :: (a10, soW y rc) :: (a4, .inr (0, [.ref a11, .int qz, .int (qn + 1)])) :: (a11, .inl (y 3, 14, .inr (.inr (.inr (.inr (va_up (gRf ga hq) (qn.toNatClampNeg) (some q4))))))) :: (a5, .inr (1, [.ref a12, .ref a13])) :: (a12, .inl (y 3, 2, .inr (.inr (.inr (.inr (gRf gb lq)))))) :: (a13, .inl (y 2, 2, .inl lfl)) :: (q4, soF u5.1 u5.2 r) :: (u5.1, soV y r) :: (u5.2, soW y r) :: T3) := hD
      refine lv_aload_n hx hb dX0_remember_66 rfl (lv_at hl 0 rfl) ?_
      refine lv_aload_n hx hb dX0_remember_67 rfl (lv_at hl 0 rfl) ?_
      refine va_get (D := D) (ci := 0) (v := .int qz) (C := RX0) (T := TX0) (N := 3) hx hb hts hi0 hown hE.1 hP 9 rfl rfl 1 (by decide) w_8 (fun _ h9 => h9) rfl dX0_remember_68 ?_
      refine lv_iconst (v := 1) hx hb dX0_remember_71 (by decide) ?_
      refine lv_iadd hx hb dX0_remember_72 ?_
      refine lv_bipush (v := 14) hx hb dX0_remember_73 (by decide) ?_
      refine va_mmin hx hb (hml.trans hl.1.symm) hown w_9 w_10 w_11 w_12 (Nat.le_of_ble_eq_true rfl) (Nat.le_of_ble_eq_true rfl) (Nat.le_of_ble_eq_true rfl) (Nat.le_of_ble_eq_true rfl) dX0_remember_75 ?_
      obtain ⟨v12, ev12⟩ : ∃ z : Int32, (if 14 < (qz + 1) then 14 else (qz + 1)) = z := ⟨_, rfl⟩
      rw [ev12]
      skip
      refine va_put (D := D) (ci := 0) (v := .int v12) (ty := .int) (C := RX0) (T := TX0) (N := 3) hx hb hts hi0 tyX0 tyX0_ok nmX0 hown hE.1 hP hD hS 9 rfl rfl 1 (by decide) w_8 (fun _ h9 => h9) rfl (by decide +kernel) rfl rfl (Nat.le_of_ble_eq_true rfl) dX0_remember_78 (fun H locs hP hD hS => ?_)
      have hP : va_P D vwCl ((a0, .inr (4, [.ref a1, .ref a2, .ref a3, .ref a4, .ref a5])) :: (a1, .inr (3, [.ref a6, .int tn])) :: (a6, .inl (y 1, 120, .inl tf)) :: (a2, soF a7 a8 r) :: (a7, soV y r) :: (a8, soW y r) :: (a3, soF a9 a10 rc) :: (a9, soV y rc) :: (a10, soW y rc) :: (a4, .inr (0, [.ref a11, .int v12, .int (qn + 1)])) :: (a11, .inl (y 3, 14, .inr (.inr (.inr (.inr (va_up (gRf ga hq) (qn.toNatClampNeg) (some q4))))))) :: (a5, .inr (1, [.ref a12, .ref a13])) :: (a12, .inl (y 3, 2, .inr (.inr (.inr (.inr (gRf gb lq)))))) :: (a13, .inl (y 2, 2, .inl lfl)) :: (q4, soF u5.1 u5.2 r) :: (u5.1, soV y r) :: (u5.2, soW y r) :: T3) H := hP
      have hD : va_D A ((a0, .inr (4, [.ref a1, .ref a2, .ref a3, .ref a4, .ref a5])) :: (a1, .inr (3, [.ref a6, .int tn])) :: (a6, .inl (y 1, 120, .inl tf)) :: (a2, soF a7 a8 r) :: (a7, soV y r) :: (a8, soW y r) :: (a3, soF a9 a10 rc) :: (a9, soV y rc) :: (a10, soW y rc) :: (a4, .inr (0, [.ref a11, .int v12, .int (qn + 1)])) :: (a11, .inl (y 3, 14, .inr (.inr (.inr (.inr (va_up (gRf ga hq) (qn.toNatClampNeg) (some q4))))))) :: (a5, .inr (1, [.ref a12, .ref a13])) :: (a12, .inl (y 3, 2, .inr (.inr (.inr (.inr (gRf gb lq)))))) :: (a13, .inl (y 2, 2, .inl lfl)) :: (q4, soF u5.1 u5.2 r) :: (u5.1, soV y r) :: (u5.2, soW y r) :: T3) := hD
      obtain ⟨T13, hT13⟩ : ∃ T : va_W, gTail y (gSet ga (qn.toNatClampNeg) (q4, u5.1, u5.2)) gb (gPut hq (qn.toNatClampNeg) r) lq = T := ⟨_, rfl⟩
      have hp := gT_inH' hT13 hT3 (vp_lt (xin2 hh.1 hh.2)) [(a0, .inr (4, [.ref a1, .ref a2, .ref a3, .ref a4, .ref a5])), (a1, .inr (3, [.ref a6, .int tn])), (a6, .inl (y 1, 120, .inl tf)), (a2, soF a7 a8 r), (a7, soV y r), (a8, soW y r), (a3, soF a9 a10 rc), (a9, soV y rc), (a10, soW y rc), (a4, .inr (0, [.ref a11, .int v12, .int (qn + 1)])), (a11, .inl (y 3, 14, .inr (.inr (.inr (.inr (va_up (gRf ga hq) (qn.toNatClampNeg) (some q4))))))), (a5, .inr (1, [.ref a12, .ref a13])), (a12, .inl (y 3, 2, .inr (.inr (.inr (.inr (gRf gb lq)))))), (a13, .inl (y 2, 2, .inl lfl))]
      have hP := xa_permP hp hP
      have hD := xa_permD hp hD
      have hP : va_P D vwCl ((a0, .inr (4, [.ref a1, .ref a2, .ref a3, .ref a4, .ref a5])) :: (a1, .inr (3, [.ref a6, .int tn])) :: (a6, .inl (y 1, 120, .inl tf)) :: (a2, soF a7 a8 r) :: (a7, soV y r) :: (a8, soW y r) :: (a3, soF a9 a10 rc) :: (a9, soV y rc) :: (a10, soW y rc) :: (a4, .inr (0, [.ref a11, .int v12, .int (qn + 1)])) :: (a11, .inl (y 3, 14, .inr (.inr (.inr (.inr (va_up (gRf ga hq) (qn.toNatClampNeg) (some q4))))))) :: (a5, .inr (1, [.ref a12, .ref a13])) :: (a12, .inl (y 3, 2, .inr (.inr (.inr (.inr (gRf gb lq)))))) :: (a13, .inl (y 2, 2, .inl lfl)) :: T13) H := hP
      have hD : va_D A ((a0, .inr (4, [.ref a1, .ref a2, .ref a3, .ref a4, .ref a5])) :: (a1, .inr (3, [.ref a6, .int tn])) :: (a6, .inl (y 1, 120, .inl tf)) :: (a2, soF a7 a8 r) :: (a7, soV y r) :: (a8, soW y r) :: (a3, soF a9 a10 rc) :: (a9, soV y rc) :: (a10, soW y rc) :: (a4, .inr (0, [.ref a11, .int v12, .int (qn + 1)])) :: (a11, .inl (y 3, 14, .inr (.inr (.inr (.inr (va_up (gRf ga hq) (qn.toNatClampNeg) (some q4))))))) :: (a5, .inr (1, [.ref a12, .ref a13])) :: (a12, .inl (y 3, 2, .inr (.inr (.inr (.inr (gRf gb lq)))))) :: (a13, .inl (y 2, 2, .inl lfl)) :: T13) := hD
      have hP : va_P D vwCl ((a0, .inr (4, [.ref a1, .ref a2, .ref a3, .ref a4, .ref a5])) :: (a1, .inr (3, [.ref a6, .int tn])) :: (a6, .inl (y 1, 120, .inl tf)) :: (a2, soF a7 a8 r) :: (a7, soV y r) :: (a8, soW y r) :: (a3, soF a9 a10 rc) :: (a9, soV y rc) :: (a10, soW y rc) :: (a4, .inr (0, [.ref a11, .int v12, .int (qn + 1)])) :: (a11, .inl (y 3, 14, .inr (.inr (.inr (.inr (gRf (gSet ga (qn.toNatClampNeg) (q4, u5.1, u5.2)) (gPut hq (qn.toNatClampNeg) r))))))) :: (a5, .inr (1, [.ref a12, .ref a13])) :: (a12, .inl (y 3, 2, .inr (.inr (.inr (.inr (gRf gb lq)))))) :: (a13, .inl (y 2, 2, .inl lfl)) :: T13) H := by rw [gRf_set]; exact hP
      have hD : va_D A ((a0, .inr (4, [.ref a1, .ref a2, .ref a3, .ref a4, .ref a5])) :: (a1, .inr (3, [.ref a6, .int tn])) :: (a6, .inl (y 1, 120, .inl tf)) :: (a2, soF a7 a8 r) :: (a7, soV y r) :: (a8, soW y r) :: (a3, soF a9 a10 rc) :: (a9, soV y rc) :: (a10, soW y rc) :: (a4, .inr (0, [.ref a11, .int v12, .int (qn + 1)])) :: (a11, .inl (y 3, 14, .inr (.inr (.inr (.inr (gRf (gSet ga (qn.toNatClampNeg) (q4, u5.1, u5.2)) (gPut hq (qn.toNatClampNeg) r))))))) :: (a5, .inr (1, [.ref a12, .ref a13])) :: (a12, .inl (y 3, 2, .inr (.inr (.inr (.inr (gRf gb lq)))))) :: (a13, .inl (y 2, 2, .inl lfl)) :: T13) := by rw [gRf_set]; exact hD
      have hF : f_X0_remember r qz qn hq = ((gPut hq (qn.toNatClampNeg) r), v12, (qn + 1)) := by
        unfold f_X0_remember
        rw [ev12]
        first | rw [if_pos (show 14 ≤ qn + 1 from by assumption)] | rw [if_neg (show ¬ 14 ≤ qn + 1 from by assumption)]
      refine W.widen (k := 3) (n := 80) (Nat.le_of_ble_eq_true rfl) (Nat.le_of_ble_eq_true rfl) ?_
      rw [← hT13] at hP hD
      exact W.vret hx hb hr (fun t ht hW => ⟨⟨⟨(gPut hq (qn.toNatClampNeg) r), v12, (qn + 1)⟩, rfl, hF, ⟨(gSet ga (qn.toNatClampNeg) (q4, u5.1, u5.2)), gb, by rw [ht]; exact hP, hD⟩⟩, hS.F ht⟩) hS.2.2 dX0_remember_81
  · rw [gRf_some hk1]
    refine lv_ifnonnull (tgt := 28) hx hb dX0_remember_9 (by decide) ?_
    obtain ⟨T14, hT14⟩ : ∃ T : va_W, gPool y ga (gHole hq (qn.toNatClampNeg)) 14 ++ gPool y gb lq 2 = T := ⟨_, rfl⟩
    have hp := gT_outH' hT hT14 (vp_lt (xin2 hh.1 hh.2)) hk1 [(a0, .inr (4, [.ref a1, .ref a2, .ref a3, .ref a4, .ref a5])), (a1, .inr (3, [.ref a6, .int tn])), (a6, .inl (y 1, 120, .inl tf)), (a2, soF a7 a8 r), (a7, soV y r), (a8, soW y r), (a3, soF a9 a10 rc), (a9, soV y rc), (a10, soW y rc), (a4, .inr (0, [.ref a11, .int qz, .int qn])), (a11, .inl (y 3, 14, .inr (.inr (.inr (.inr (gRf ga hq)))))), (a5, .inr (1, [.ref a12, .ref a13])), (a12, .inl (y 3, 2, .inr (.inr (.inr (.inr (gRf gb lq)))))), (a13, .inl (y 2, 2, .inl lfl))]
    have hP := xa_permP hp hP
    have hD := xa_permD hp hD
    have hP : va_P D vwCl ((a0, .inr (4, [.ref a1, .ref a2, .ref a3, .ref a4, .ref a5])) :: (a1, .inr (3, [.ref a6, .int tn])) :: (a6, .inl (y 1, 120, .inl tf)) :: (a2, soF a7 a8 r) :: (a7, soV y r) :: (a8, soW y r) :: (a3, soF a9 a10 rc) :: (a9, soV y rc) :: (a10, soW y rc) :: (a4, .inr (0, [.ref a11, .int qz, .int qn])) :: (a11, .inl (y 3, 14, .inr (.inr (.inr (.inr (gRf ga hq)))))) :: (a5, .inr (1, [.ref a12, .ref a13])) :: (a12, .inl (y 3, 2, .inr (.inr (.inr (.inr (gRf gb lq)))))) :: (a13, .inl (y 2, 2, .inl lfl)) :: ((ga (qn.toNatClampNeg)).1, soF (ga (qn.toNatClampNeg)).2.1 (ga (qn.toNatClampNeg)).2.2 s2) :: ((ga (qn.toNatClampNeg)).2.1, soV y s2) :: ((ga (qn.toNatClampNeg)).2.2, soW y s2) :: T14) s.heap := hP
    have hD : va_D A ((a0, .inr (4, [.ref a1, .ref a2, .ref a3, .ref a4, .ref a5])) :: (a1, .inr (3, [.ref a6, .int tn])) :: (a6, .inl (y 1, 120, .inl tf)) :: (a2, soF a7 a8 r) :: (a7, soV y r) :: (a8, soW y r) :: (a3, soF a9 a10 rc) :: (a9, soV y rc) :: (a10, soW y rc) :: (a4, .inr (0, [.ref a11, .int qz, .int qn])) :: (a11, .inl (y 3, 14, .inr (.inr (.inr (.inr (gRf ga hq)))))) :: (a5, .inr (1, [.ref a12, .ref a13])) :: (a12, .inl (y 3, 2, .inr (.inr (.inr (.inr (gRf gb lq)))))) :: (a13, .inl (y 2, 2, .inl lfl)) :: ((ga (qn.toNatClampNeg)).1, soF (ga (qn.toNatClampNeg)).2.1 (ga (qn.toNatClampNeg)).2.2 s2) :: ((ga (qn.toNatClampNeg)).2.1, soV y s2) :: ((ga (qn.toNatClampNeg)).2.2, soW y s2) :: T14) := hD
    refine lv_aload_n hx hb dX0_remember_28 rfl (lv_at hl 0 rfl) ?_
    refine va_get (D := D) (ci := 0) (v := .ref a11) (C := RX0) (T := TX0) (N := 3) hx hb hts hi0 hown hE.1 hP 9 rfl rfl 0 (by decide) w_0 (fun _ h9 => h9) rfl dX0_remember_29 ?_
    refine lv_aload_n hx hb dX0_remember_32 rfl (lv_at hl 0 rfl) ?_
    refine va_get (D := D) (ci := 0) (v := .int qn) (C := RX0) (T := TX0) (N := 3) hx hb hts hi0 hown hE.1 hP 9 rfl rfl 2 (by decide) w_2 (fun _ h9 => h9) rfl dX0_remember_33 ?_
    refine va_aldq hx hb hE.1 hP 10 3 rfl rfl (xin2 hh.1 hh.2) dX0_remember_36 ?_
    rw [gRf_some hk1]
    refine W.eq (g2 := F0 m 37 ls (.ref (ga (qn.toNatClampNeg)).1 :: [])) rfl ?_
    refine lv_aload_n hx hb dX0_remember_37 rfl (lv_at hl 1 rfl) ?_
    refine xw_callv (va_runV (As := [.ref a2]) (rest := []) ⟨hx, hb, hml, hown, hts⟩ (c_X3_copyFrom l D y (ga (qn.toNatClampNeg)).1 (ga (qn.toNatClampNeg)).2.1 (ga (qn.toNatClampNeg)).2.2 a2 a7 a8 s.heap.size s2 r ho) (cwV 1 hts gX0_remember_X3_copyFrom rfl rfl rfl hd_X3_copyFrom ⟨Nat.le_of_ble_eq_true rfl, Nat.le_of_ble_eq_true rfl⟩) (gV (q := (RX3, TX3, 15)) hE (hP.sub [14, 15, 16, 3, 4, 5] rfl) (hD.sub [14, 15, 16, 3, 4, 5] (by decide) rfl) 0 rfl rfl) rfl rfl hl.1 rfl (lv_room (Nat.le_of_ble_eq_true rfl)) dX0_remember_38 ⟨Nat.le_of_ble_eq_true rfl, Nat.le_of_ble_eq_true rfl⟩) hP hD hS hA [14, 15, 16, 3, 4, 5] rfl (by decide) (fun _ => rfl) (fun u16 H locs h15 hP hD hS => ?_)
    obtain rfl : r = u16 := h15
    have hP : va_P D vwCl ((a0, .inr (4, [.ref a1, .ref a2, .ref a3, .ref a4, .ref a5])) :: (a1, .inr (3, [.ref a6, .int tn])) :: (a6, .inl (y 1, 120, .inl tf)) :: (a2, soF a7 a8 r) :: (a7, soV y r) :: (a8, soW y r) :: (a3, soF a9 a10 rc) :: (a9, soV y rc) :: (a10, soW y rc) :: (a4, .inr (0, [.ref a11, .int qz, .int qn])) :: (a11, .inl (y 3, 14, .inr (.inr (.inr (.inr (gRf ga hq)))))) :: (a5, .inr (1, [.ref a12, .ref a13])) :: (a12, .inl (y 3, 2, .inr (.inr (.inr (.inr (gRf gb lq)))))) :: (a13, .inl (y 2, 2, .inl lfl)) :: ((ga (qn.toNatClampNeg)).1, soF (ga (qn.toNatClampNeg)).2.1 (ga (qn.toNatClampNeg)).2.2 r) :: ((ga (qn.toNatClampNeg)).2.1, soV y r) :: ((ga (qn.toNatClampNeg)).2.2, soW y r) :: T14) H := hP
    have hD : va_D A ((a0, .inr (4, [.ref a1, .ref a2, .ref a3, .ref a4, .ref a5])) :: (a1, .inr (3, [.ref a6, .int tn])) :: (a6, .inl (y 1, 120, .inl tf)) :: (a2, soF a7 a8 r) :: (a7, soV y r) :: (a8, soW y r) :: (a3, soF a9 a10 rc) :: (a9, soV y rc) :: (a10, soW y rc) :: (a4, .inr (0, [.ref a11, .int qz, .int qn])) :: (a11, .inl (y 3, 14, .inr (.inr (.inr (.inr (gRf ga hq)))))) :: (a5, .inr (1, [.ref a12, .ref a13])) :: (a12, .inl (y 3, 2, .inr (.inr (.inr (.inr (gRf gb lq)))))) :: (a13, .inl (y 2, 2, .inl lfl)) :: ((ga (qn.toNatClampNeg)).1, soF (ga (qn.toNatClampNeg)).2.1 (ga (qn.toNatClampNeg)).2.2 r) :: ((ga (qn.toNatClampNeg)).2.1, soV y r) :: ((ga (qn.toNatClampNeg)).2.2, soW y r) :: T14) := hD
    refine lv_aload_n hx hb dX0_remember_41 rfl (lv_at hl 0 rfl) ?_
    refine lv_aload_n hx hb dX0_remember_42 rfl (lv_at hl 0 rfl) ?_
    refine va_get (D := D) (ci := 0) (v := .int qn) (C := RX0) (T := TX0) (N := 3) hx hb hts hi0 hown hE.1 hP 9 rfl rfl 2 (by decide) w_2 (fun _ h9 => h9) rfl dX0_remember_43 ?_
    refine lv_iconst (v := 1) hx hb dX0_remember_46 (by decide) ?_
    refine lv_iadd hx hb dX0_remember_47 ?_
    refine lv_bipush (v := 14) hx hb dX0_remember_48 (by decide) ?_
    refine lv_icmp_ge (tgt := 62) hx hb dX0_remember_50 (by decide) (fun c_17 => ?_) (fun c_17 => ?_)
    · skip
      refine lv_iconst (v := 0) hx hb dX0_remember_62 (by decide) ?_
      refine va_put (D := D) (ci := 0) (v := .int 0) (ty := .int) (C := RX0) (T := TX0) (N := 3) hx hb hts hi0 tyX0 tyX0_ok nmX0 hown hE.1 hP hD hS 9 rfl rfl 2 (by decide) w_2 (fun _ h9 => h9) rfl (by decide +kernel) rfl rfl (Nat.le_of_ble_eq_true rfl) dX0_remember_63 (fun H locs hP hD hS => ?_)
      have hP : va_P D vwCl ((a0, .inr (4, [.ref a1, .ref a2, .ref a3, .ref a4, .ref a5])) :: (a1, .inr (3, [.ref a6, .int tn])) :: (a6, .inl (y 1, 120, .inl tf)) :: (a2, soF a7 a8 r) :: (a7, soV y r) :: (a8, soW y r) :: (a3, soF a9 a10 rc) :: (a9, soV y rc) :: (a10, soW y rc) :: (a4, .inr (0, [.ref a11, .int qz, .int 0])) :: (a11, .inl (y 3, 14, .inr (.inr (.inr (.inr (gRf ga hq)))))) :: (a5, .inr (1, [.ref a12, .ref a13])) :: (a12, .inl (y 3, 2, .inr (.inr (.inr (.inr (gRf gb lq)))))) :: (a13, .inl (y 2, 2, .inl lfl)) :: ((ga (qn.toNatClampNeg)).1, soF (ga (qn.toNatClampNeg)).2.1 (ga (qn.toNatClampNeg)).2.2 r) :: ((ga (qn.toNatClampNeg)).2.1, soV y r) :: ((ga (qn.toNatClampNeg)).2.2, soW y r) :: T14) H := hP
      have hD : va_D A ((a0, .inr (4, [.ref a1, .ref a2, .ref a3, .ref a4, .ref a5])) :: (a1, .inr (3, [.ref a6, .int tn])) :: (a6, .inl (y 1, 120, .inl tf)) :: (a2, soF a7 a8 r) :: (a7, soV y r) :: (a8, soW y r) :: (a3, soF a9 a10 rc) :: (a9, soV y rc) :: (a10, soW y rc) :: (a4, .inr (0, [.ref a11, .int qz, .int 0])) :: (a11, .inl (y 3, 14, .inr (.inr (.inr (.inr (gRf ga hq)))))) :: (a5, .inr (1, [.ref a12, .ref a13])) :: (a12, .inl (y 3, 2, .inr (.inr (.inr (.inr (gRf gb lq)))))) :: (a13, .inl (y 2, 2, .inl lfl)) :: ((ga (qn.toNatClampNeg)).1, soF (ga (qn.toNatClampNeg)).2.1 (ga (qn.toNatClampNeg)).2.2 r) :: ((ga (qn.toNatClampNeg)).2.1, soV y r) :: ((ga (qn.toNatClampNeg)).2.2, soW y r) :: T14) := hD
      refine lv_aload_n hx hb dX0_remember_66 rfl (lv_at hl 0 rfl) ?_
      refine lv_aload_n hx hb dX0_remember_67 rfl (lv_at hl 0 rfl) ?_
      refine va_get (D := D) (ci := 0) (v := .int qz) (C := RX0) (T := TX0) (N := 3) hx hb hts hi0 hown hE.1 hP 9 rfl rfl 1 (by decide) w_8 (fun _ h9 => h9) rfl dX0_remember_68 ?_
      refine lv_iconst (v := 1) hx hb dX0_remember_71 (by decide) ?_
      refine lv_iadd hx hb dX0_remember_72 ?_
      refine lv_bipush (v := 14) hx hb dX0_remember_73 (by decide) ?_
      refine va_mmin hx hb (hml.trans hl.1.symm) hown w_9 w_10 w_11 w_12 (Nat.le_of_ble_eq_true rfl) (Nat.le_of_ble_eq_true rfl) (Nat.le_of_ble_eq_true rfl) (Nat.le_of_ble_eq_true rfl) dX0_remember_75 ?_
      obtain ⟨v18, ev18⟩ : ∃ z : Int32, (if 14 < (qz + 1) then 14 else (qz + 1)) = z := ⟨_, rfl⟩
      rw [ev18]
      skip
      refine va_put (D := D) (ci := 0) (v := .int v18) (ty := .int) (C := RX0) (T := TX0) (N := 3) hx hb hts hi0 tyX0 tyX0_ok nmX0 hown hE.1 hP hD hS 9 rfl rfl 1 (by decide) w_8 (fun _ h9 => h9) rfl (by decide +kernel) rfl rfl (Nat.le_of_ble_eq_true rfl) dX0_remember_78 (fun H locs hP hD hS => ?_)
      have hP : va_P D vwCl ((a0, .inr (4, [.ref a1, .ref a2, .ref a3, .ref a4, .ref a5])) :: (a1, .inr (3, [.ref a6, .int tn])) :: (a6, .inl (y 1, 120, .inl tf)) :: (a2, soF a7 a8 r) :: (a7, soV y r) :: (a8, soW y r) :: (a3, soF a9 a10 rc) :: (a9, soV y rc) :: (a10, soW y rc) :: (a4, .inr (0, [.ref a11, .int v18, .int 0])) :: (a11, .inl (y 3, 14, .inr (.inr (.inr (.inr (gRf ga hq)))))) :: (a5, .inr (1, [.ref a12, .ref a13])) :: (a12, .inl (y 3, 2, .inr (.inr (.inr (.inr (gRf gb lq)))))) :: (a13, .inl (y 2, 2, .inl lfl)) :: ((ga (qn.toNatClampNeg)).1, soF (ga (qn.toNatClampNeg)).2.1 (ga (qn.toNatClampNeg)).2.2 r) :: ((ga (qn.toNatClampNeg)).2.1, soV y r) :: ((ga (qn.toNatClampNeg)).2.2, soW y r) :: T14) H := hP
      have hD : va_D A ((a0, .inr (4, [.ref a1, .ref a2, .ref a3, .ref a4, .ref a5])) :: (a1, .inr (3, [.ref a6, .int tn])) :: (a6, .inl (y 1, 120, .inl tf)) :: (a2, soF a7 a8 r) :: (a7, soV y r) :: (a8, soW y r) :: (a3, soF a9 a10 rc) :: (a9, soV y rc) :: (a10, soW y rc) :: (a4, .inr (0, [.ref a11, .int v18, .int 0])) :: (a11, .inl (y 3, 14, .inr (.inr (.inr (.inr (gRf ga hq)))))) :: (a5, .inr (1, [.ref a12, .ref a13])) :: (a12, .inl (y 3, 2, .inr (.inr (.inr (.inr (gRf gb lq)))))) :: (a13, .inl (y 2, 2, .inl lfl)) :: ((ga (qn.toNatClampNeg)).1, soF (ga (qn.toNatClampNeg)).2.1 (ga (qn.toNatClampNeg)).2.2 r) :: ((ga (qn.toNatClampNeg)).2.1, soV y r) :: ((ga (qn.toNatClampNeg)).2.2, soW y r) :: T14) := hD
      obtain ⟨T19, hT19⟩ : ∃ T : va_W, gTail y (gSet ga (qn.toNatClampNeg) ((ga (qn.toNatClampNeg)).1, (ga (qn.toNatClampNeg)).2.1, (ga (qn.toNatClampNeg)).2.2)) gb (gPut hq (qn.toNatClampNeg) r) lq = T := ⟨_, rfl⟩
      have hp := gT_inH' hT19 hT14 (vp_lt (xin2 hh.1 hh.2)) [(a0, .inr (4, [.ref a1, .ref a2, .ref a3, .ref a4, .ref a5])), (a1, .inr (3, [.ref a6, .int tn])), (a6, .inl (y 1, 120, .inl tf)), (a2, soF a7 a8 r), (a7, soV y r), (a8, soW y r), (a3, soF a9 a10 rc), (a9, soV y rc), (a10, soW y rc), (a4, .inr (0, [.ref a11, .int v18, .int 0])), (a11, .inl (y 3, 14, .inr (.inr (.inr (.inr (gRf ga hq)))))), (a5, .inr (1, [.ref a12, .ref a13])), (a12, .inl (y 3, 2, .inr (.inr (.inr (.inr (gRf gb lq)))))), (a13, .inl (y 2, 2, .inl lfl))]
      have hP := xa_permP hp hP
      have hD := xa_permD hp hD
      have hP : va_P D vwCl ((a0, .inr (4, [.ref a1, .ref a2, .ref a3, .ref a4, .ref a5])) :: (a1, .inr (3, [.ref a6, .int tn])) :: (a6, .inl (y 1, 120, .inl tf)) :: (a2, soF a7 a8 r) :: (a7, soV y r) :: (a8, soW y r) :: (a3, soF a9 a10 rc) :: (a9, soV y rc) :: (a10, soW y rc) :: (a4, .inr (0, [.ref a11, .int v18, .int 0])) :: (a11, .inl (y 3, 14, .inr (.inr (.inr (.inr (gRf ga hq)))))) :: (a5, .inr (1, [.ref a12, .ref a13])) :: (a12, .inl (y 3, 2, .inr (.inr (.inr (.inr (gRf gb lq)))))) :: (a13, .inl (y 2, 2, .inl lfl)) :: T19) H := hP
      have hD : va_D A ((a0, .inr (4, [.ref a1, .ref a2, .ref a3, .ref a4, .ref a5])) :: (a1, .inr (3, [.ref a6, .int tn])) :: (a6, .inl (y 1, 120, .inl tf)) :: (a2, soF a7 a8 r) :: (a7, soV y r) :: (a8, soW y r) :: (a3, soF a9 a10 rc) :: (a9, soV y rc) :: (a10, soW y rc) :: (a4, .inr (0, [.ref a11, .int v18, .int 0])) :: (a11, .inl (y 3, 14, .inr (.inr (.inr (.inr (gRf ga hq)))))) :: (a5, .inr (1, [.ref a12, .ref a13])) :: (a12, .inl (y 3, 2, .inr (.inr (.inr (.inr (gRf gb lq)))))) :: (a13, .inl (y 2, 2, .inl lfl)) :: T19) := hD
      have hP : va_P D vwCl ((a0, .inr (4, [.ref a1, .ref a2, .ref a3, .ref a4, .ref a5])) :: (a1, .inr (3, [.ref a6, .int tn])) :: (a6, .inl (y 1, 120, .inl tf)) :: (a2, soF a7 a8 r) :: (a7, soV y r) :: (a8, soW y r) :: (a3, soF a9 a10 rc) :: (a9, soV y rc) :: (a10, soW y rc) :: (a4, .inr (0, [.ref a11, .int v18, .int 0])) :: (a11, .inl (y 3, 14, .inr (.inr (.inr (.inr (gRf (gSet ga (qn.toNatClampNeg) ((ga (qn.toNatClampNeg)).1, (ga (qn.toNatClampNeg)).2.1, (ga (qn.toNatClampNeg)).2.2)) (gPut hq (qn.toNatClampNeg) r))))))) :: (a5, .inr (1, [.ref a12, .ref a13])) :: (a12, .inl (y 3, 2, .inr (.inr (.inr (.inr (gRf gb lq)))))) :: (a13, .inl (y 2, 2, .inl lfl)) :: T19) H := by rw [gRf_set, gRf_self (gRf_some hk1)]; exact hP
      have hD : va_D A ((a0, .inr (4, [.ref a1, .ref a2, .ref a3, .ref a4, .ref a5])) :: (a1, .inr (3, [.ref a6, .int tn])) :: (a6, .inl (y 1, 120, .inl tf)) :: (a2, soF a7 a8 r) :: (a7, soV y r) :: (a8, soW y r) :: (a3, soF a9 a10 rc) :: (a9, soV y rc) :: (a10, soW y rc) :: (a4, .inr (0, [.ref a11, .int v18, .int 0])) :: (a11, .inl (y 3, 14, .inr (.inr (.inr (.inr (gRf (gSet ga (qn.toNatClampNeg) ((ga (qn.toNatClampNeg)).1, (ga (qn.toNatClampNeg)).2.1, (ga (qn.toNatClampNeg)).2.2)) (gPut hq (qn.toNatClampNeg) r))))))) :: (a5, .inr (1, [.ref a12, .ref a13])) :: (a12, .inl (y 3, 2, .inr (.inr (.inr (.inr (gRf gb lq)))))) :: (a13, .inl (y 2, 2, .inl lfl)) :: T19) := by rw [gRf_set, gRf_self (gRf_some hk1)]; exact hD
      have hF : f_X0_remember r qz qn hq = ((gPut hq (qn.toNatClampNeg) r), v18, 0) := by
        unfold f_X0_remember
        rw [ev18]
        first | rw [if_pos (show 14 ≤ qn + 1 from by assumption)] | rw [if_neg (show ¬ 14 ≤ qn + 1 from by assumption)]
      refine W.widen (k := 3) (n := 80) (Nat.le_of_ble_eq_true rfl) (Nat.le_of_ble_eq_true rfl) ?_
      rw [← hT19] at hP hD
      exact W.vret hx hb hr (fun t ht hW => ⟨⟨⟨(gPut hq (qn.toNatClampNeg) r), v18, 0⟩, rfl, hF, ⟨(gSet ga (qn.toNatClampNeg) ((ga (qn.toNatClampNeg)).1, (ga (qn.toNatClampNeg)).2.1, (ga (qn.toNatClampNeg)).2.2)), gb, by rw [ht]; exact hP, hD⟩⟩, hS.F ht⟩) hS.2.2 dX0_remember_81
    · skip
      refine lv_aload_n hx hb dX0_remember_53 rfl (lv_at hl 0 rfl) ?_
      refine va_get (D := D) (ci := 0) (v := .int qn) (C := RX0) (T := TX0) (N := 3) hx hb hts hi0 hown hE.1 hP 9 rfl rfl 2 (by decide) w_2 (fun _ h9 => h9) rfl dX0_remember_54 ?_
      refine lv_iconst (v := 1) hx hb dX0_remember_57 (by decide) ?_
      refine lv_iadd hx hb dX0_remember_58 ?_
      refine lv_goto (tgt := 63) hx hb dX0_remember_59 (by decide) ?_
      refine va_put (D := D) (ci := 0) (v := .int (qn + 1)) (ty := .int) (C := RX0) (T := TX0) (N := 3) hx hb hts hi0 tyX0 tyX0_ok nmX0 hown hE.1 hP hD hS 9 rfl rfl 2 (by decide) w_2 (fun _ h9 => h9) rfl (by decide +kernel) rfl rfl (Nat.le_of_ble_eq_true rfl) dX0_remember_63 (fun H locs hP hD hS => ?_)
      have hP : va_P D vwCl ((a0, .inr (4, [.ref a1, .ref a2, .ref a3, .ref a4, .ref a5])) :: (a1, .inr (3, [.ref a6, .int tn])) :: (a6, .inl (y 1, 120, .inl tf)) :: (a2, soF a7 a8 r) :: (a7, soV y r) :: (a8, soW y r) :: (a3, soF a9 a10 rc) :: (a9, soV y rc) :: (a10, soW y rc) :: (a4, .inr (0, [.ref a11, .int qz, .int (qn + 1)])) :: (a11, .inl (y 3, 14, .inr (.inr (.inr (.inr (gRf ga hq)))))) :: (a5, .inr (1, [.ref a12, .ref a13])) :: (a12, .inl (y 3, 2, .inr (.inr (.inr (.inr (gRf gb lq)))))) :: (a13, .inl (y 2, 2, .inl lfl)) :: ((ga (qn.toNatClampNeg)).1, soF (ga (qn.toNatClampNeg)).2.1 (ga (qn.toNatClampNeg)).2.2 r) :: ((ga (qn.toNatClampNeg)).2.1, soV y r) :: ((ga (qn.toNatClampNeg)).2.2, soW y r) :: T14) H := hP
      have hD : va_D A ((a0, .inr (4, [.ref a1, .ref a2, .ref a3, .ref a4, .ref a5])) :: (a1, .inr (3, [.ref a6, .int tn])) :: (a6, .inl (y 1, 120, .inl tf)) :: (a2, soF a7 a8 r) :: (a7, soV y r) :: (a8, soW y r) :: (a3, soF a9 a10 rc) :: (a9, soV y rc) :: (a10, soW y rc) :: (a4, .inr (0, [.ref a11, .int qz, .int (qn + 1)])) :: (a11, .inl (y 3, 14, .inr (.inr (.inr (.inr (gRf ga hq)))))) :: (a5, .inr (1, [.ref a12, .ref a13])) :: (a12, .inl (y 3, 2, .inr (.inr (.inr (.inr (gRf gb lq)))))) :: (a13, .inl (y 2, 2, .inl lfl)) :: ((ga (qn.toNatClampNeg)).1, soF (ga (qn.toNatClampNeg)).2.1 (ga (qn.toNatClampNeg)).2.2 r) :: ((ga (qn.toNatClampNeg)).2.1, soV y r) :: ((ga (qn.toNatClampNeg)).2.2, soW y r) :: T14) := hD
      refine lv_aload_n hx hb dX0_remember_66 rfl (lv_at hl 0 rfl) ?_
      refine lv_aload_n hx hb dX0_remember_67 rfl (lv_at hl 0 rfl) ?_
      refine va_get (D := D) (ci := 0) (v := .int qz) (C := RX0) (T := TX0) (N := 3) hx hb hts hi0 hown hE.1 hP 9 rfl rfl 1 (by decide) w_8 (fun _ h9 => h9) rfl dX0_remember_68 ?_
      refine lv_iconst (v := 1) hx hb dX0_remember_71 (by decide) ?_
      refine lv_iadd hx hb dX0_remember_72 ?_
      refine lv_bipush (v := 14) hx hb dX0_remember_73 (by decide) ?_
      refine va_mmin hx hb (hml.trans hl.1.symm) hown w_9 w_10 w_11 w_12 (Nat.le_of_ble_eq_true rfl) (Nat.le_of_ble_eq_true rfl) (Nat.le_of_ble_eq_true rfl) (Nat.le_of_ble_eq_true rfl) dX0_remember_75 ?_
      obtain ⟨v20, ev20⟩ : ∃ z : Int32, (if 14 < (qz + 1) then 14 else (qz + 1)) = z := ⟨_, rfl⟩
      rw [ev20]
      skip
      refine va_put (D := D) (ci := 0) (v := .int v20) (ty := .int) (C := RX0) (T := TX0) (N := 3) hx hb hts hi0 tyX0 tyX0_ok nmX0 hown hE.1 hP hD hS 9 rfl rfl 1 (by decide) w_8 (fun _ h9 => h9) rfl (by decide +kernel) rfl rfl (Nat.le_of_ble_eq_true rfl) dX0_remember_78 (fun H locs hP hD hS => ?_)
      have hP : va_P D vwCl ((a0, .inr (4, [.ref a1, .ref a2, .ref a3, .ref a4, .ref a5])) :: (a1, .inr (3, [.ref a6, .int tn])) :: (a6, .inl (y 1, 120, .inl tf)) :: (a2, soF a7 a8 r) :: (a7, soV y r) :: (a8, soW y r) :: (a3, soF a9 a10 rc) :: (a9, soV y rc) :: (a10, soW y rc) :: (a4, .inr (0, [.ref a11, .int v20, .int (qn + 1)])) :: (a11, .inl (y 3, 14, .inr (.inr (.inr (.inr (gRf ga hq)))))) :: (a5, .inr (1, [.ref a12, .ref a13])) :: (a12, .inl (y 3, 2, .inr (.inr (.inr (.inr (gRf gb lq)))))) :: (a13, .inl (y 2, 2, .inl lfl)) :: ((ga (qn.toNatClampNeg)).1, soF (ga (qn.toNatClampNeg)).2.1 (ga (qn.toNatClampNeg)).2.2 r) :: ((ga (qn.toNatClampNeg)).2.1, soV y r) :: ((ga (qn.toNatClampNeg)).2.2, soW y r) :: T14) H := hP
      have hD : va_D A ((a0, .inr (4, [.ref a1, .ref a2, .ref a3, .ref a4, .ref a5])) :: (a1, .inr (3, [.ref a6, .int tn])) :: (a6, .inl (y 1, 120, .inl tf)) :: (a2, soF a7 a8 r) :: (a7, soV y r) :: (a8, soW y r) :: (a3, soF a9 a10 rc) :: (a9, soV y rc) :: (a10, soW y rc) :: (a4, .inr (0, [.ref a11, .int v20, .int (qn + 1)])) :: (a11, .inl (y 3, 14, .inr (.inr (.inr (.inr (gRf ga hq)))))) :: (a5, .inr (1, [.ref a12, .ref a13])) :: (a12, .inl (y 3, 2, .inr (.inr (.inr (.inr (gRf gb lq)))))) :: (a13, .inl (y 2, 2, .inl lfl)) :: ((ga (qn.toNatClampNeg)).1, soF (ga (qn.toNatClampNeg)).2.1 (ga (qn.toNatClampNeg)).2.2 r) :: ((ga (qn.toNatClampNeg)).2.1, soV y r) :: ((ga (qn.toNatClampNeg)).2.2, soW y r) :: T14) := hD
      obtain ⟨T21, hT21⟩ : ∃ T : va_W, gTail y (gSet ga (qn.toNatClampNeg) ((ga (qn.toNatClampNeg)).1, (ga (qn.toNatClampNeg)).2.1, (ga (qn.toNatClampNeg)).2.2)) gb (gPut hq (qn.toNatClampNeg) r) lq = T := ⟨_, rfl⟩
      have hp := gT_inH' hT21 hT14 (vp_lt (xin2 hh.1 hh.2)) [(a0, .inr (4, [.ref a1, .ref a2, .ref a3, .ref a4, .ref a5])), (a1, .inr (3, [.ref a6, .int tn])), (a6, .inl (y 1, 120, .inl tf)), (a2, soF a7 a8 r), (a7, soV y r), (a8, soW y r), (a3, soF a9 a10 rc), (a9, soV y rc), (a10, soW y rc), (a4, .inr (0, [.ref a11, .int v20, .int (qn + 1)])), (a11, .inl (y 3, 14, .inr (.inr (.inr (.inr (gRf ga hq)))))), (a5, .inr (1, [.ref a12, .ref a13])), (a12, .inl (y 3, 2, .inr (.inr (.inr (.inr (gRf gb lq)))))), (a13, .inl (y 2, 2, .inl lfl))]
      have hP := xa_permP hp hP
      have hD := xa_permD hp hD
      have hP : va_P D vwCl ((a0, .inr (4, [.ref a1, .ref a2, .ref a3, .ref a4, .ref a5])) :: (a1, .inr (3, [.ref a6, .int tn])) :: (a6, .inl (y 1, 120, .inl tf)) :: (a2, soF a7 a8 r) :: (a7, soV y r) :: (a8, soW y r) :: (a3, soF a9 a10 rc) :: (a9, soV y rc) :: (a10, soW y rc) :: (a4, .inr (0, [.ref a11, .int v20, .int (qn + 1)])) :: (a11, .inl (y 3, 14, .inr (.inr (.inr (.inr (gRf ga hq)))))) :: (a5, .inr (1, [.ref a12, .ref a13])) :: (a12, .inl (y 3, 2, .inr (.inr (.inr (.inr (gRf gb lq)))))) :: (a13, .inl (y 2, 2, .inl lfl)) :: T21) H := hP
      have hD : va_D A ((a0, .inr (4, [.ref a1, .ref a2, .ref a3, .ref a4, .ref a5])) :: (a1, .inr (3, [.ref a6, .int tn])) :: (a6, .inl (y 1, 120, .inl tf)) :: (a2, soF a7 a8 r) :: (a7, soV y r) :: (a8, soW y r) :: (a3, soF a9 a10 rc) :: (a9, soV y rc) :: (a10, soW y rc) :: (a4, .inr (0, [.ref a11, .int v20, .int (qn + 1)])) :: (a11, .inl (y 3, 14, .inr (.inr (.inr (.inr (gRf ga hq)))))) :: (a5, .inr (1, [.ref a12, .ref a13])) :: (a12, .inl (y 3, 2, .inr (.inr (.inr (.inr (gRf gb lq)))))) :: (a13, .inl (y 2, 2, .inl lfl)) :: T21) := hD
      have hP : va_P D vwCl ((a0, .inr (4, [.ref a1, .ref a2, .ref a3, .ref a4, .ref a5])) :: (a1, .inr (3, [.ref a6, .int tn])) :: (a6, .inl (y 1, 120, .inl tf)) :: (a2, soF a7 a8 r) :: (a7, soV y r) :: (a8, soW y r) :: (a3, soF a9 a10 rc) :: (a9, soV y rc) :: (a10, soW y rc) :: (a4, .inr (0, [.ref a11, .int v20, .int (qn + 1)])) :: (a11, .inl (y 3, 14, .inr (.inr (.inr (.inr (gRf (gSet ga (qn.toNatClampNeg) ((ga (qn.toNatClampNeg)).1, (ga (qn.toNatClampNeg)).2.1, (ga (qn.toNatClampNeg)).2.2)) (gPut hq (qn.toNatClampNeg) r))))))) :: (a5, .inr (1, [.ref a12, .ref a13])) :: (a12, .inl (y 3, 2, .inr (.inr (.inr (.inr (gRf gb lq)))))) :: (a13, .inl (y 2, 2, .inl lfl)) :: T21) H := by rw [gRf_set, gRf_self (gRf_some hk1)]; exact hP
      have hD : va_D A ((a0, .inr (4, [.ref a1, .ref a2, .ref a3, .ref a4, .ref a5])) :: (a1, .inr (3, [.ref a6, .int tn])) :: (a6, .inl (y 1, 120, .inl tf)) :: (a2, soF a7 a8 r) :: (a7, soV y r) :: (a8, soW y r) :: (a3, soF a9 a10 rc) :: (a9, soV y rc) :: (a10, soW y rc) :: (a4, .inr (0, [.ref a11, .int v20, .int (qn + 1)])) :: (a11, .inl (y 3, 14, .inr (.inr (.inr (.inr (gRf (gSet ga (qn.toNatClampNeg) ((ga (qn.toNatClampNeg)).1, (ga (qn.toNatClampNeg)).2.1, (ga (qn.toNatClampNeg)).2.2)) (gPut hq (qn.toNatClampNeg) r))))))) :: (a5, .inr (1, [.ref a12, .ref a13])) :: (a12, .inl (y 3, 2, .inr (.inr (.inr (.inr (gRf gb lq)))))) :: (a13, .inl (y 2, 2, .inl lfl)) :: T21) := by rw [gRf_set, gRf_self (gRf_some hk1)]; exact hD
      have hF : f_X0_remember r qz qn hq = ((gPut hq (qn.toNatClampNeg) r), v20, (qn + 1)) := by
        unfold f_X0_remember
        rw [ev20]
        first | rw [if_pos (show 14 ≤ qn + 1 from by assumption)] | rw [if_neg (show ¬ 14 ≤ qn + 1 from by assumption)]
      refine W.widen (k := 3) (n := 80) (Nat.le_of_ble_eq_true rfl) (Nat.le_of_ble_eq_true rfl) ?_
      rw [← hT21] at hP hD
      exact W.vret hx hb hr (fun t ht hW => ⟨⟨⟨(gPut hq (qn.toNatClampNeg) r), v20, (qn + 1)⟩, rfl, hF, ⟨(gSet ga (qn.toNatClampNeg) ((ga (qn.toNatClampNeg)).1, (ga (qn.toNatClampNeg)).2.1, (ga (qn.toNatClampNeg)).2.2)), gb, by rw [ht]; exact hP, hD⟩⟩, hS.F ht⟩) hS.2.2 dX0_remember_81
