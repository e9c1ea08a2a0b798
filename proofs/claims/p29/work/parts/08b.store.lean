def f_X3_begin_L85 : Nat → Int32 → gR → gR
  | 0, _, r_ => r_
  | n + 1, x4, r_ =>
    if 33 ≤ x4 then
    r_
  else
    gLet (upd r_ (45 + x4.toNatClampNeg) 0) (fun (r2 : gR) =>
      f_X3_begin_L85 n (x4 + 1) r2)
theorem f_X3_begin_L85_s  (n : Nat) (x4 : Int32) (r_ : gR) : f_X3_begin_L85 (n + 1) x4 r_ =
    (if 33 ≤ x4 then
    r_
  else
    gLet (upd r_ (45 + x4.toNatClampNeg) 0) (fun (r2 : gR) =>
      f_X3_begin_L85 n (x4 + 1) r2)) := rfl
def f_X3_begin_L58 : Nat → Int32 → gR → gR
  | 0, _, r_ => r_
  | n + 1, x4, r_ =>
    if 32 ≤ x4 then
    f_X3_begin_L85 (((33 : Int32).toInt - (0 : Int32).toInt).toNat + 1) 0 r_
  else
    gLet (upd r_ (13 + x4.toNatClampNeg) 0) (fun (r4 : gR) =>
      f_X3_begin_L58 n (x4 + 1) r4)
theorem f_X3_begin_L58_s  (n : Nat) (x4 : Int32) (r_ : gR) : f_X3_begin_L58 (n + 1) x4 r_ =
    (if 32 ≤ x4 then
    f_X3_begin_L85 (((33 : Int32).toInt - (0 : Int32).toInt).toNat + 1) 0 r_
  else
    gLet (upd r_ (13 + x4.toNatClampNeg) 0) (fun (r4 : gR) =>
      f_X3_begin_L58 n (x4 + 1) r4)) := rfl
def f_X3_begin (r : gR) (p0 : Int32) (p1 : Int32) (p2 : Int32) : gR :=
    f_X3_begin_L58 (((32 : Int32).toInt - (0 : Int32).toInt).toNat + 1) 0 (upd (upd (upd (upd (upd (upd (upd (upd (upd (upd (upd r 0 p0) 1 p1) 2 0) 3 p0) 4 p2) 5 0) 6 0) 7 0) 9 0) 10 0) 8 0)
theorem f_X3_begin_s (r : gR) (p0 : Int32) (p1 : Int32) (p2 : Int32) : f_X3_begin r p0 p1 p2 =
    (f_X3_begin_L58 (((32 : Int32).toInt - (0 : Int32).toInt).toNat + 1) 0 (upd (upd (upd (upd (upd (upd (upd (upd (upd (upd (upd r 0 p0) 1 p1) 2 0) 3 p0) 4 p2) 5 0) 6 0) 7 0) 9 0) 10 0) 8 0)) := rfl
theorem ok_X3_begin_L85 : ∀ (n : Nat) (i : Int32) (r : gR), okC r → okC (f_X3_begin_L85 n i r)
  | 0, i, r, h => h
  | n + 1, i, r, h => by
    rw [f_X3_begin_L85_s]
    split
    · exact h
    · exact ok_X3_begin_L85 n _ _ (ok_upd (by omega) h)
theorem ok_X3_begin_L58 : ∀ (n : Nat) (i : Int32) (r : gR), okC r → okC (f_X3_begin_L58 n i r)
  | 0, i, r, h => h
  | n + 1, i, r, h => by
    rw [f_X3_begin_L58_s]
    split
    · exact ok_X3_begin_L85 _ _ _ h
    · exact ok_X3_begin_L58 n _ _ (ok_upd (by omega) h)
theorem ok_X3_begin (r : gR) (a b c : Int32) (h : 0 ≤ a.toInt ∧ a.toInt ≤ 32) : okC (f_X3_begin r a b c) := by
  rw [f_X3_begin_s]
  refine ok_X3_begin_L58 _ _ _ ?_
  refine ⟨?_, ?_, Or.inl ?_⟩
  · simpa [upd] using h.1
  · simpa [upd] using h.2
  · simp [upd]
theorem hd_X3_begin : yX3_begin.cls = RX3 ∧ yX3_begin.cls ≠ "java/lang/invoke/MethodHandle" ∧ yX3_begin.cls ≠ "java/lang/invoke/VarHandle" ∧ (parseMethodDescriptor yX3_begin.desc).map (fun d => d.parameters.length) = some 3 := by decide +kernel
set_option maxHeartbeats 4000000 in
set_option maxRecDepth 100000 in
theorem c_X3_begin (l : Launch) (D : va_G) (y : Nat → ClassId) (a0 a1 a2 : Nat) (zh : Nat) (r : gR) (p0 : Int32) (p1 : Int32) (p2 : Int32) : Met l yX3_begin wsX3_begin ({ frames := 0, cells := 0, slots := 0, locals := 0 }) (gP D y [.ref a0, .int p0, .int p1, .int p2] zh [(a0, soF a1 a2 r), (a1, soV y r), (a2, soW y r)]) (va_Qv (fun u : gR => f_X3_begin r p0 p1 p2 = u) (fun (u : gR) t => va_P D vwCl [(a0, soF a1 a2 u), (a1, soV y u), (a2, soW y u)] t.heap ∧ va_D (va_A [(a0, soF a1 a2 r), (a1, soV y r), (a2, soW y r)] zh) [(a0, soF a1 a2 u), (a1, soV y u), (a2, soW y u)]) (va_A [(a0, soF a1 a2 r), (a1, soV y r), (a2, soW y r)] zh)) 0 0 (va_A [(a0, soF a1 a2 r), (a1, soV y r), (a2, soW y r)] zh) := by
  refine Met.ofW (cc := cX3_begin) (maxL := 5) (ret := none) (by decide) rfl ?_
  intro p e s m args below meth c s₁ B hml hv
  obtain ⟨rfl, hsz, hP, hE, hD⟩ := hv
  have hx := B.exec
  have hb := B.bytes
  have hr := B.returns
  have hts := atoms_spec (ws := wsX3_begin) B.pre
  have hown : s.vm.findClass RX3 = some m.cls := findClass_of_methodNamed B.named
  have hlocks := B.notSynchronized
  have w_0 := hts (.fieldLink RX3 22 "GapLines$State" "wears" "[I") (List.mem_cons_of_mem _ (List.mem_append_left _ (List.mem_of_getElem? (i := 12) rfl)))
  have hi3 : ∀ w ∈ u_ws RX3 TX3 15, w ∈ wsX3_begin := fun w h => (List.mem_cons_of_mem _ (List.mem_append_right _ h))
  have w_2 := hts (.fieldLink RX3 18 "GapLines$State" "values" "[I") (List.mem_cons_of_mem _ (List.mem_append_left _ (List.mem_of_getElem? (i := 11) rfl)))
  have w_3 := hts (.fieldLink RX3 25 "GapLines$State" "lines" "I") (List.mem_cons_of_mem _ (List.mem_append_left _ (List.mem_of_getElem? (i := 0) rfl)))
  have w_4 := hts (.fieldLink RX3 28 "GapLines$State" "key" "I") (List.mem_cons_of_mem _ (List.mem_append_left _ (List.mem_of_getElem? (i := 1) rfl)))
  have w_5 := hts (.fieldLink RX3 31 "GapLines$State" "start" "I") (List.mem_cons_of_mem _ (List.mem_append_left _ (List.mem_of_getElem? (i := 2) rfl)))
  have w_6 := hts (.fieldLink RX3 34 "GapLines$State" "gap" "I") (List.mem_cons_of_mem _ (List.mem_append_left _ (List.mem_of_getElem? (i := 3) rfl)))
  have w_7 := hts (.fieldLink RX3 37 "GapLines$State" "spares" "I") (List.mem_cons_of_mem _ (List.mem_append_left _ (List.mem_of_getElem? (i := 4) rfl)))
  have w_8 := hts (.fieldLink RX3 40 "GapLines$State" "writes" "I") (List.mem_cons_of_mem _ (List.mem_append_left _ (List.mem_of_getElem? (i := 5) rfl)))
  have w_9 := hts (.fieldLink RX3 43 "GapLines$State" "moves" "I") (List.mem_cons_of_mem _ (List.mem_append_left _ (List.mem_of_getElem? (i := 6) rfl)))
  have w_10 := hts (.fieldLink RX3 46 "GapLines$State" "writesSinceMove" "I") (List.mem_cons_of_mem _ (List.mem_append_left _ (List.mem_of_getElem? (i := 7) rfl)))
  have w_11 := hts (.fieldLink RX3 49 "GapLines$State" "replaced" "I") (List.mem_cons_of_mem _ (List.mem_append_left _ (List.mem_of_getElem? (i := 8) rfl)))
  have w_12 := hts (.fieldLink RX3 52 "GapLines$State" "laid" "I") (List.mem_cons_of_mem _ (List.mem_append_left _ (List.mem_of_getElem? (i := 9) rfl)))
  have w_13 := hts (.fieldLink RX3 55 "GapLines$State" "dead" "Z") (List.mem_cons_of_mem _ (List.mem_append_left _ (List.mem_of_getElem? (i := 10) rfl)))
  subst hsz
  have hD := hD.self (sz := s.heap.size)
  generalize hAe : va_A [(a0, soF a1 a2 r), (a1, soV y r), (a2, soW y r)] s.heap.size = A at hD ⊢
  have hA : ∀ q : Nat, s.heap.size ≤ q → A q := fun q h => by rw [← hAe]; exact Or.inr h
  have hS : va_S A s.heap s.heap [] := va_S.rf
  have hl := lv_entry ([.ref a0, .int p0, .int p1, .int p2]) (n := 5) (Nat.le_of_ble_eq_true rfl)
  rw [lg_entry_eq]
  generalize (lg_sl ([.ref a0, .int p0, .int p1, .int p2]) ++ List.replicate (5 - (lg_sl ([.ref a0, .int p0, .int p1, .int p2])).length) Slot.unset).toArray = ls at hl ⊢
  have hl : lv_has ls 5 [(0, .ref a0), (1, .int p0), (2, .int p1), (3, .int p2)] := hl
  have loop_85 : ∀ (n : Nat) (x4 : Int32) (r_ : gR) (hx4 : 0 ≤ x4.toInt), ((33 : Int32).toInt - x4.toInt).toNat < n → f_X3_begin r p0 p1 p2 = f_X3_begin_L85 n x4 r_ → ∀ (H : Heap) (locs : List Loc), va_P D vwCl [(a0, soF a1 a2 r_), (a1, soV y r_), (a2, soW y r_)] H → va_D A [(a0, soF a1 a2 r_), (a1, soV y r_), (a2, soW y r_)] → va_S A s.heap H locs → ∀ (ls : Array Slot), lv_has ls 5 [(0, .ref a0), (4, .int x4)] → W p l e (headSpec wsX3_begin ({ frames := 0, cells := 0, slots := 0, locals := 0 })).room s m ([.ref a0, .int p0, .int p1, .int p2] : List Value).toArray below meth c H locs 0 0 (MQ below (va_Qv (fun u : gR => f_X3_begin r p0 p1 p2 = u) (fun (u : gR) t => va_P D vwCl [(a0, soF a1 a2 u), (a1, soV y u), (a2, soW y u)] t.heap ∧ va_D (A) [(a0, soF a1 a2 u), (a1, soV y u), (a2, soW y u)]) A) ([.ref a0, .int p0, .int p1, .int p2] : List Value).toArray s 0 0 A) (F0 m 85 ls []) := by
    intro n
    induction n with
    | zero =>
      intro x4 r_ hx4 hμ
      exact absurd hμ (Nat.not_lt_zero _)
    | succ n ih =>
      intro x4 r_ hx4 hμ hF H locs hP hD hS ls hl
      have hF := hF.trans (f_X3_begin_L85_s n x4 r_)
      refine lv_iload hx hb dX3_begin_85 (lv_at hl 1 rfl) ?_
      refine lv_aload_n hx hb dX3_begin_87 rfl (lv_at hl 0 rfl) ?_
      refine va_get (D := D) (ci := 2) (v := .ref a2) (C := RX3) (T := TX3) (N := 15) hx hb hts hi3 hown hE.1 hP 0 rfl rfl 14 (by decide) w_0 (fun _ h9 => h9) rfl dX3_begin_88 ?_
      refine va_alen (v := 33) hx hb hE.1 hP 2 0 rfl rfl rfl dX3_begin_91 ?_
      refine lv_icmp_ge (tgt := 109) hx hb dX3_begin_92 (by decide) (fun c_1 => ?_) (fun c_1 => ?_)
      · have hF := hF.trans (if_pos c_1)
        exact W.vret hx hb hr (fun t ht hW => ⟨⟨r_, rfl, hF, ⟨by rw [ht]; exact hP, hD⟩⟩, hS.F ht⟩) hS.2.2 dX3_begin_109
      · have hF := hF.trans (if_neg c_1)
        refine lv_aload_n hx hb dX3_begin_95 rfl (lv_at hl 0 rfl) ?_
        refine va_get (D := D) (ci := 2) (v := .ref a2) (C := RX3) (T := TX3) (N := 15) hx hb hts hi3 hown hE.1 hP 0 rfl rfl 14 (by decide) w_0 (fun _ h9 => h9) rfl dX3_begin_96 ?_
        refine lv_iload hx hb dX3_begin_99 (lv_at hl 1 rfl) ?_
        refine lv_iconst (v := 0) hx hb dX3_begin_101 (by decide) ?_
        refine xa_iast (k := x4.toNatClampNeg) hx hb hE.1 hP hD hS 2 0 rfl rfl (ix_btL hx4 (by assumption) (by decide)) rfl dX3_begin_102 (fun H locs hP hD hS => ?_)
        obtain ⟨hP, hD⟩ := so_wear (r := r_) (x := 0) (x4.toNatClampNeg) hP hD
        obtain ⟨r2, er2⟩ : ∃ z : gR, upd r_ (45 + x4.toNatClampNeg) 0 = z := ⟨_, rfl⟩
        have hF := hF.trans (gLet_e er2)
        rw [er2] at hP hD
        refine lv_iinc (v := (x4 + 1)) (lv' := [(4, .int (x4 + 1)), (0, .ref a0)]) hx hb dX3_begin_103 hl (k := 1) rfl rfl (by decide) rfl (fun ls hl => ?_)
        refine lv_goto (tgt := 85) hx hb dX3_begin_106 (by decide) ?_
        exact ih (x4 + 1) r2 (up_nn2 (by assumption) hx4) (lp_up (by assumption) hμ) hF _ _ hP hD hS ls (lv_sub hl [1, 0] rfl)
  have loop_58 : ∀ (n : Nat) (x4 : Int32) (r_ : gR) (hx4 : 0 ≤ x4.toInt), ((32 : Int32).toInt - x4.toInt).toNat < n → f_X3_begin r p0 p1 p2 = f_X3_begin_L58 n x4 r_ → ∀ (H : Heap) (locs : List Loc), va_P D vwCl [(a0, soF a1 a2 r_), (a1, soV y r_), (a2, soW y r_)] H → va_D A [(a0, soF a1 a2 r_), (a1, soV y r_), (a2, soW y r_)] → va_S A s.heap H locs → ∀ (ls : Array Slot), lv_has ls 5 [(0, .ref a0), (4, .int x4)] → W p l e (headSpec wsX3_begin ({ frames := 0, cells := 0, slots := 0, locals := 0 })).room s m ([.ref a0, .int p0, .int p1, .int p2] : List Value).toArray below meth c H locs 0 0 (MQ below (va_Qv (fun u : gR => f_X3_begin r p0 p1 p2 = u) (fun (u : gR) t => va_P D vwCl [(a0, soF a1 a2 u), (a1, soV y u), (a2, soW y u)] t.heap ∧ va_D (A) [(a0, soF a1 a2 u), (a1, soV y u), (a2, soW y u)]) A) ([.ref a0, .int p0, .int p1, .int p2] : List Value).toArray s 0 0 A) (F0 m 58 ls []) := by
    intro n
    induction n with
    | zero =>
      intro x4 r_ hx4 hμ
      exact absurd hμ (Nat.not_lt_zero _)
    | succ n ih =>
      intro x4 r_ hx4 hμ hF H locs hP hD hS ls hl
      have hF := hF.trans (f_X3_begin_L58_s n x4 r_)
      refine lv_iload hx hb dX3_begin_58 (lv_at hl 1 rfl) ?_
      refine lv_aload_n hx hb dX3_begin_60 rfl (lv_at hl 0 rfl) ?_
      refine va_get (D := D) (ci := 2) (v := .ref a1) (C := RX3) (T := TX3) (N := 15) hx hb hts hi3 hown hE.1 hP 0 rfl rfl 13 (by decide) w_2 (fun _ h9 => h9) rfl dX3_begin_61 ?_
      refine va_alen (v := 32) hx hb hE.1 hP 1 0 rfl rfl rfl dX3_begin_64 ?_
      refine lv_icmp_ge (tgt := 82) hx hb dX3_begin_65 (by decide) (fun c_3 => ?_) (fun c_3 => ?_)
      · have hF := hF.trans (if_pos c_3)
        refine lv_iconst (v := 0) hx hb dX3_begin_82 (by decide) ?_
        refine lv_istore (lv' := [(4, .int 0), (0, .ref a0)]) hx hb dX3_begin_83 hl (by decide) rfl (fun ls hl => ?_)
        exact loop_85 _ 0 r_ (by decide) (Nat.lt_succ_self _) hF _ _ hP hD hS ls (lv_sub hl [1, 0] rfl)
      · have hF := hF.trans (if_neg c_3)
        refine lv_aload_n hx hb dX3_begin_68 rfl (lv_at hl 0 rfl) ?_
        refine va_get (D := D) (ci := 2) (v := .ref a1) (C := RX3) (T := TX3) (N := 15) hx hb hts hi3 hown hE.1 hP 0 rfl rfl 13 (by decide) w_2 (fun _ h9 => h9) rfl dX3_begin_69 ?_
        refine lv_iload hx hb dX3_begin_72 (lv_at hl 1 rfl) ?_
        refine lv_iconst (v := 0) hx hb dX3_begin_74 (by decide) ?_
        refine xa_iast (k := x4.toNatClampNeg) hx hb hE.1 hP hD hS 1 0 rfl rfl (ix_btL hx4 (by assumption) (by decide)) rfl dX3_begin_75 (fun H locs hP hD hS => ?_)
        obtain ⟨hP, hD⟩ := so_val (r := r_) (x := 0) (x4.toNatClampNeg) (vp_lt (ix_btL hx4 (by assumption) (by decide))) hP hD
        obtain ⟨r4, er4⟩ : ∃ z : gR, upd r_ (13 + x4.toNatClampNeg) 0 = z := ⟨_, rfl⟩
        have hF := hF.trans (gLet_e er4)
        rw [er4] at hP hD
        refine lv_iinc (v := (x4 + 1)) (lv' := [(4, .int (x4 + 1)), (0, .ref a0)]) hx hb dX3_begin_76 hl (k := 1) rfl rfl (by decide) rfl (fun ls hl => ?_)
        refine lv_goto (tgt := 58) hx hb dX3_begin_79 (by decide) ?_
        exact ih (x4 + 1) r4 (up_nn2 (by assumption) hx4) (lp_up (by assumption) hμ) hF _ _ hP hD hS ls (lv_sub hl [1, 0] rfl)
  have hF := f_X3_begin_s r p0 p1 p2
  refine lv_aload_n hx hb dX3_begin_0 rfl (lv_at hl 0 rfl) ?_
  refine lv_iload_n hx hb dX3_begin_1 rfl (lv_at hl 1 rfl) ?_
  refine va_put (D := D) (ci := 2) (v := .int p0) (ty := .int) (C := RX3) (T := TX3) (N := 15) hx hb hts hi3 tyX3 tyX3_ok nmX3 hown hE.1 hP hD hS 0 rfl rfl 0 (by decide) w_3 (fun _ h9 => h9) rfl (by decide +kernel) rfl rfl (Nat.le_of_ble_eq_true rfl) dX3_begin_2 (fun H locs hP hD hS => ?_)
  obtain ⟨hP, hD⟩ := so_put (r := r) (x := p0) 0 (by decide) (by rfl) hP hD
  refine lv_aload_n hx hb dX3_begin_5 rfl (lv_at hl 0 rfl) ?_
  refine lv_iload_n hx hb dX3_begin_6 rfl (lv_at hl 2 rfl) ?_
  refine va_put (D := D) (ci := 2) (v := .int p1) (ty := .int) (C := RX3) (T := TX3) (N := 15) hx hb hts hi3 tyX3 tyX3_ok nmX3 hown hE.1 hP hD hS 0 rfl rfl 1 (by decide) w_4 (fun _ h9 => h9) rfl (by decide +kernel) rfl rfl (Nat.le_of_ble_eq_true rfl) dX3_begin_7 (fun H locs hP hD hS => ?_)
  obtain ⟨hP, hD⟩ := so_put (r := (upd r 0 p0)) (x := p1) 1 (by decide) (by rfl) hP hD
  refine lv_aload_n hx hb dX3_begin_10 rfl (lv_at hl 0 rfl) ?_
  refine lv_iconst (v := 0) hx hb dX3_begin_11 (by decide) ?_
  refine va_put (D := D) (ci := 2) (v := .int 0) (ty := .int) (C := RX3) (T := TX3) (N := 15) hx hb hts hi3 tyX3 tyX3_ok nmX3 hown hE.1 hP hD hS 0 rfl rfl 2 (by decide) w_5 (fun _ h9 => h9) rfl (by decide +kernel) rfl rfl (Nat.le_of_ble_eq_true rfl) dX3_begin_12 (fun H locs hP hD hS => ?_)
  obtain ⟨hP, hD⟩ := so_put (r := (upd (upd r 0 p0) 1 p1)) (x := 0) 2 (by decide) (by rfl) hP hD
  refine lv_aload_n hx hb dX3_begin_15 rfl (lv_at hl 0 rfl) ?_
  refine lv_iload_n hx hb dX3_begin_16 rfl (lv_at hl 1 rfl) ?_
  refine va_put (D := D) (ci := 2) (v := .int p0) (ty := .int) (C := RX3) (T := TX3) (N := 15) hx hb hts hi3 tyX3 tyX3_ok nmX3 hown hE.1 hP hD hS 0 rfl rfl 3 (by decide) w_6 (fun _ h9 => h9) rfl (by decide +kernel) rfl rfl (Nat.le_of_ble_eq_true rfl) dX3_begin_17 (fun H locs hP hD hS => ?_)
  obtain ⟨hP, hD⟩ := so_put (r := (upd (upd (upd r 0 p0) 1 p1) 2 0)) (x := p0) 3 (by decide) (by rfl) hP hD
  refine lv_aload_n hx hb dX3_begin_20 rfl (lv_at hl 0 rfl) ?_
  refine lv_iload_n hx hb dX3_begin_21 rfl (lv_at hl 3 rfl) ?_
  refine va_put (D := D) (ci := 2) (v := .int p2) (ty := .int) (C := RX3) (T := TX3) (N := 15) hx hb hts hi3 tyX3 tyX3_ok nmX3 hown hE.1 hP hD hS 0 rfl rfl 4 (by decide) w_7 (fun _ h9 => h9) rfl (by decide +kernel) rfl rfl (Nat.le_of_ble_eq_true rfl) dX3_begin_22 (fun H locs hP hD hS => ?_)
  obtain ⟨hP, hD⟩ := so_put (r := (upd (upd (upd (upd r 0 p0) 1 p1) 2 0) 3 p0)) (x := p2) 4 (by decide) (by rfl) hP hD
  refine lv_aload_n hx hb dX3_begin_25 rfl (lv_at hl 0 rfl) ?_
  refine lv_iconst (v := 0) hx hb dX3_begin_26 (by decide) ?_
  refine va_put (D := D) (ci := 2) (v := .int 0) (ty := .int) (C := RX3) (T := TX3) (N := 15) hx hb hts hi3 tyX3 tyX3_ok nmX3 hown hE.1 hP hD hS 0 rfl rfl 5 (by decide) w_8 (fun _ h9 => h9) rfl (by decide +kernel) rfl rfl (Nat.le_of_ble_eq_true rfl) dX3_begin_27 (fun H locs hP hD hS => ?_)
  obtain ⟨hP, hD⟩ := so_put (r := (upd (upd (upd (upd (upd r 0 p0) 1 p1) 2 0) 3 p0) 4 p2)) (x := 0) 5 (by decide) (by rfl) hP hD
  refine lv_aload_n hx hb dX3_begin_30 rfl (lv_at hl 0 rfl) ?_
  refine lv_iconst (v := 0) hx hb dX3_begin_31 (by decide) ?_
  refine va_put (D := D) (ci := 2) (v := .int 0) (ty := .int) (C := RX3) (T := TX3) (N := 15) hx hb hts hi3 tyX3 tyX3_ok nmX3 hown hE.1 hP hD hS 0 rfl rfl 6 (by decide) w_9 (fun _ h9 => h9) rfl (by decide +kernel) rfl rfl (Nat.le_of_ble_eq_true rfl) dX3_begin_32 (fun H locs hP hD hS => ?_)
  obtain ⟨hP, hD⟩ := so_put (r := (upd (upd (upd (upd (upd (upd r 0 p0) 1 p1) 2 0) 3 p0) 4 p2) 5 0)) (x := 0) 6 (by decide) (by rfl) hP hD
  refine lv_aload_n hx hb dX3_begin_35 rfl (lv_at hl 0 rfl) ?_
  refine lv_iconst (v := 0) hx hb dX3_begin_36 (by decide) ?_
  refine va_put (D := D) (ci := 2) (v := .int 0) (ty := .int) (C := RX3) (T := TX3) (N := 15) hx hb hts hi3 tyX3 tyX3_ok nmX3 hown hE.1 hP hD hS 0 rfl rfl 7 (by decide) w_10 (fun _ h9 => h9) rfl (by decide +kernel) rfl rfl (Nat.le_of_ble_eq_true rfl) dX3_begin_37 (fun H locs hP hD hS => ?_)
  obtain ⟨hP, hD⟩ := so_put (r := (upd (upd (upd (upd (upd (upd (upd r 0 p0) 1 p1) 2 0) 3 p0) 4 p2) 5 0) 6 0)) (x := 0) 7 (by decide) (by rfl) hP hD
  refine lv_aload_n hx hb dX3_begin_40 rfl (lv_at hl 0 rfl) ?_
  refine lv_iconst (v := 0) hx hb dX3_begin_41 (by decide) ?_
  refine va_put (D := D) (ci := 2) (v := .int 0) (ty := .int) (C := RX3) (T := TX3) (N := 15) hx hb hts hi3 tyX3 tyX3_ok nmX3 hown hE.1 hP hD hS 0 rfl rfl 8 (by decide) w_11 (fun _ h9 => h9) rfl (by decide +kernel) rfl rfl (Nat.le_of_ble_eq_true rfl) dX3_begin_42 (fun H locs hP hD hS => ?_)
  obtain ⟨hP, hD⟩ := so_put (r := (upd (upd (upd (upd (upd (upd (upd (upd r 0 p0) 1 p1) 2 0) 3 p0) 4 p2) 5 0) 6 0) 7 0)) (x := 0) 9 (by decide) (by rfl) hP hD
  refine lv_aload_n hx hb dX3_begin_45 rfl (lv_at hl 0 rfl) ?_
  refine lv_iconst (v := 0) hx hb dX3_begin_46 (by decide) ?_
  refine va_put (D := D) (ci := 2) (v := .int 0) (ty := .int) (C := RX3) (T := TX3) (N := 15) hx hb hts hi3 tyX3 tyX3_ok nmX3 hown hE.1 hP hD hS 0 rfl rfl 9 (by decide) w_12 (fun _ h9 => h9) rfl (by decide +kernel) rfl rfl (Nat.le_of_ble_eq_true rfl) dX3_begin_47 (fun H locs hP hD hS => ?_)
  obtain ⟨hP, hD⟩ := so_put (r := (upd (upd (upd (upd (upd (upd (upd (upd (upd r 0 p0) 1 p1) 2 0) 3 p0) 4 p2) 5 0) 6 0) 7 0) 9 0)) (x := 0) 10 (by decide) (by rfl) hP hD
  refine lv_aload_n hx hb dX3_begin_50 rfl (lv_at hl 0 rfl) ?_
  refine lv_iconst (v := 0) hx hb dX3_begin_51 (by decide) ?_
  refine va_put (D := D) (ci := 2) (v := .int 0) (ty := .boolean) (C := RX3) (T := TX3) (N := 15) hx hb hts hi3 tyX3 tyX3_ok nmX3 hown hE.1 hP hD hS 0 rfl rfl 10 (by decide) w_13 (fun _ h9 => h9) rfl (by decide +kernel) rfl rfl (Nat.le_of_ble_eq_true rfl) dX3_begin_52 (fun H locs hP hD hS => ?_)
  obtain ⟨hP, hD⟩ := so_put (r := (upd (upd (upd (upd (upd (upd (upd (upd (upd (upd r 0 p0) 1 p1) 2 0) 3 p0) 4 p2) 5 0) 6 0) 7 0) 9 0) 10 0)) (x := 0) 8 (by decide) (by rfl) hP hD
  refine lv_iconst (v := 0) hx hb dX3_begin_55 (by decide) ?_
  refine lv_istore (lv' := [(4, .int 0), (0, .ref a0), (1, .int p0), (2, .int p1), (3, .int p2)]) hx hb dX3_begin_56 hl (by decide) rfl (fun ls hl => ?_)
  exact loop_58 _ 0 (upd (upd (upd (upd (upd (upd (upd (upd (upd (upd (upd r 0 p0) 1 p1) 2 0) 3 p0) 4 p2) 5 0) 6 0) 7 0) 9 0) 10 0) 8 0) (by decide) (Nat.lt_succ_self _) hF _ _ hP hD hS ls (lv_sub hl [1, 0] rfl)

def f_X3_beginAnew (r : gR) : gR :=
    gLet (f_X3_begin r 0 0 0) (fun (u2 : gR) =>
    (upd (upd u2 11 100) 12 8))
theorem f_X3_beginAnew_s (r : gR) : f_X3_beginAnew r =
    (gLet (f_X3_begin r 0 0 0) (fun (u2 : gR) =>
    (upd (upd u2 11 100) 12 8))) := rfl
theorem hd_X3_beginAnew : yX3_beginAnew.cls = RX3 ∧ yX3_beginAnew.cls ≠ "java/lang/invoke/MethodHandle" ∧ yX3_beginAnew.cls ≠ "java/lang/invoke/VarHandle" ∧ (parseMethodDescriptor yX3_beginAnew.desc).map (fun d => d.parameters.length) = some 0 := by decide +kernel
set_option maxHeartbeats 4000000 in
set_option maxRecDepth 100000 in
theorem c_X3_beginAnew (l : Launch) (D : va_G) (y : Nat → ClassId) (a0 a1 a2 : Nat) (zh : Nat) (r : gR) : Met l yX3_beginAnew wsX3_beginAnew ({ frames := 1, cells := 0, slots := 0, locals := 24 }) (gP D y [.ref a0] zh [(a0, soF a1 a2 r), (a1, soV y r), (a2, soW y r)]) (va_Qv (fun u : gR => f_X3_beginAnew r = u) (fun (u : gR) t => va_P D vwCl [(a0, soF a1 a2 u), (a1, soV y u), (a2, soW y u)] t.heap ∧ va_D (va_A [(a0, soF a1 a2 r), (a1, soV y r), (a2, soW y r)] zh) [(a0, soF a1 a2 u), (a1, soV y u), (a2, soW y u)]) (va_A [(a0, soF a1 a2 r), (a1, soV y r), (a2, soW y r)] zh)) 0 0 (va_A [(a0, soF a1 a2 r), (a1, soV y r), (a2, soW y r)] zh) := by
  refine Met.ofW (cc := cX3_beginAnew) (maxL := 1) (ret := none) (by decide) rfl ?_
  intro p e s m args below meth c s₁ B hml hv
  obtain ⟨rfl, hsz, hP, hE, hD⟩ := hv
  have hx := B.exec
  have hb := B.bytes
  have hr := B.returns
  have hts := atoms_spec (ws := wsX3_beginAnew) B.pre
  have hown : s.vm.findClass RX3 = some m.cls := findClass_of_methodNamed B.named
  have hlocks := B.notSynchronized
  have w_0 := hts (.fieldLink RX3 9 "GapLines$State" "endurance" "I") (List.mem_cons_of_mem _ (List.mem_append_left _ (List.mem_of_getElem? (i := 0) rfl)))
  have hi3 : ∀ w ∈ u_ws RX3 TX3 15, w ∈ wsX3_beginAnew := fun w h => (List.mem_cons_of_mem _ (List.mem_append_right _ h))
  have w_2 := hts (.fieldLink RX3 15 "GapLines$State" "every" "I") (List.mem_cons_of_mem _ (List.mem_append_left _ (List.mem_of_getElem? (i := 1) rfl)))
  subst hsz
  have hD := hD.self (sz := s.heap.size)
  generalize hAe : va_A [(a0, soF a1 a2 r), (a1, soV y r), (a2, soW y r)] s.heap.size = A at hD ⊢
  have hA : ∀ q : Nat, s.heap.size ≤ q → A q := fun q h => by rw [← hAe]; exact Or.inr h
  have hS : va_S A s.heap s.heap [] := va_S.rf
  have hl := lv_entry ([.ref a0]) (n := 1) (Nat.le_of_ble_eq_true rfl)
  rw [lg_entry_eq]
  generalize (lg_sl ([.ref a0]) ++ List.replicate (1 - (lg_sl ([.ref a0])).length) Slot.unset).toArray = ls at hl ⊢
  have hl : lv_has ls 1 [(0, .ref a0)] := hl
  have hF := f_X3_beginAnew_s r
  refine lv_aload_n hx hb dX3_beginAnew_0 rfl (lv_at hl 0 rfl) ?_
  refine lv_iconst (v := 0) hx hb dX3_beginAnew_1 (by decide) ?_
  refine lv_iconst (v := 0) hx hb dX3_beginAnew_2 (by decide) ?_
  refine lv_iconst (v := 0) hx hb dX3_beginAnew_3 (by decide) ?_
  refine xw_callv (va_runV (As := [.int 0, .int 0, .int 0]) (rest := []) ⟨hx, hb, hml, hown, hts⟩ (c_X3_begin l D y a0 a1 a2 s.heap.size r 0 0 0) (cwV 3 hts gX3_beginAnew_X3_begin rfl rfl rfl hd_X3_begin ⟨Nat.le_of_ble_eq_true rfl, Nat.le_of_ble_eq_true rfl⟩) (gV (q := (RX3, TX3, 15)) hE hP hD 0 rfl rfl) rfl rfl hl.1 rfl (lv_room (Nat.le_of_ble_eq_true rfl)) dX3_beginAnew_4 ⟨Nat.le_of_ble_eq_true rfl, Nat.le_of_ble_eq_true rfl⟩) hP hD hS hA [0, 1, 2] rfl (by decide) (fun _ => rfl) (fun u2 H locs h1 hP hD hS => ?_)
  have hF := hF.trans (gLet_e h1)
  have hP : va_P D vwCl [(a0, soF a1 a2 u2), (a1, soV y u2), (a2, soW y u2)] H := hP
  have hD : va_D A [(a0, soF a1 a2 u2), (a1, soV y u2), (a2, soW y u2)] := hD
  refine lv_aload_n hx hb dX3_beginAnew_7 rfl (lv_at hl 0 rfl) ?_
  refine lv_bipush (v := 100) hx hb dX3_beginAnew_8 (by decide) ?_
  refine va_put (D := D) (ci := 2) (v := .int 100) (ty := .int) (C := RX3) (T := TX3) (N := 15) hx hb hts hi3 tyX3 tyX3_ok nmX3 hown hE.1 hP hD hS 0 rfl rfl 11 (by decide) w_0 (fun _ h9 => h9) rfl (by decide +kernel) rfl rfl (Nat.le_of_ble_eq_true rfl) dX3_beginAnew_10 (fun H locs hP hD hS => ?_)
  obtain ⟨hP, hD⟩ := so_put (r := u2) (x := 100) 11 (by decide) (by rfl) hP hD
  refine lv_aload_n hx hb dX3_beginAnew_13 rfl (lv_at hl 0 rfl) ?_
  refine lv_bipush (v := 8) hx hb dX3_beginAnew_14 (by decide) ?_
  refine va_put (D := D) (ci := 2) (v := .int 8) (ty := .int) (C := RX3) (T := TX3) (N := 15) hx hb hts hi3 tyX3 tyX3_ok nmX3 hown hE.1 hP hD hS 0 rfl rfl 12 (by decide) w_2 (fun _ h9 => h9) rfl (by decide +kernel) rfl rfl (Nat.le_of_ble_eq_true rfl) dX3_beginAnew_16 (fun H locs hP hD hS => ?_)
  obtain ⟨hP, hD⟩ := so_put (r := (upd u2 11 100)) (x := 8) 12 (by decide) (by rfl) hP hD
  exact W.vret hx hb hr (fun t ht hW => ⟨⟨(upd (upd u2 11 100) 12 8), rfl, hF, ⟨by rw [ht]; exact hP, hD⟩⟩, hS.F ht⟩) hS.2.2 dX3_beginAnew_19

def f_X3_copyFrom (r0 : gR) (r1 : gR) : gR :=
    r1
theorem f_X3_copyFrom_s (r0 : gR) (r1 : gR) : f_X3_copyFrom r0 r1 =
    (r1) := rfl
theorem hd_X3_copyFrom : yX3_copyFrom.cls = RX3 ∧ yX3_copyFrom.cls ≠ "java/lang/invoke/MethodHandle" ∧ yX3_copyFrom.cls ≠ "java/lang/invoke/VarHandle" ∧ (parseMethodDescriptor yX3_copyFrom.desc).map (fun d => d.parameters.length) = some 1 := by decide +kernel
set_option maxHeartbeats 4000000 in
set_option maxRecDepth 100000 in
theorem c_X3_copyFrom (l : Launch) (D : va_G) (y : Nat → ClassId) (a0 a1 a2 a3 a4 a5 : Nat) (zh : Nat) (r0 : gR) (r1 : gR) (ho : okC r1) : Met l yX3_copyFrom wsX3_copyFrom ({ frames := 1, cells := 0, slots := 0, locals := 18 }) (gP D y [.ref a0, .ref a3] zh [(a0, soF a1 a2 r0), (a1, soV y r0), (a2, soW y r0), (a3, soF a4 a5 r1), (a4, soV y r1), (a5, soW y r1)]) (va_Qv (fun u : gR => f_X3_copyFrom r0 r1 = u) (fun (u : gR) t => va_P D vwCl [(a0, soF a1 a2 u), (a1, soV y u), (a2, soW y u), (a3, soF a4 a5 r1), (a4, soV y r1), (a5, soW y r1)] t.heap ∧ va_D (va_A [(a0, soF a1 a2 r0), (a1, soV y r0), (a2, soW y r0), (a3, soF a4 a5 r1), (a4, soV y r1), (a5, soW y r1)] zh) [(a0, soF a1 a2 u), (a1, soV y u), (a2, soW y u), (a3, soF a4 a5 r1), (a4, soV y r1), (a5, soW y r1)]) (va_A [(a0, soF a1 a2 r0), (a1, soV y r0), (a2, soW y r0), (a3, soF a4 a5 r1), (a4, soV y r1), (a5, soW y r1)] zh)) 0 0 (va_A [(a0, soF a1 a2 r0), (a1, soV y r0), (a2, soW y r0), (a3, soF a4 a5 r1), (a4, soV y r1), (a5, soW y r1)] zh) := by
  refine Met.ofW (cc := cX3_copyFrom) (maxL := 2) (ret := none) (by decide) rfl ?_
  intro p e s m args below meth c s₁ B hml hv
  obtain ⟨rfl, hsz, hP, hE, hD⟩ := hv
  have hx := B.exec
  have hb := B.bytes
  have hr := B.returns
  have hts := atoms_spec (ws := wsX3_copyFrom) B.pre
  have hown : s.vm.findClass RX3 = some m.cls := findClass_of_methodNamed B.named
  have hlocks := B.notSynchronized
  have w_0 := hts (.fieldLink RX3 25 "GapLines$State" "lines" "I") (List.mem_cons_of_mem _ (List.mem_append_left _ (List.mem_of_getElem? (i := 0) rfl)))
  have hi3 : ∀ w ∈ u_ws RX3 TX3 15, w ∈ wsX3_copyFrom := fun w h => (List.mem_cons_of_mem _ (List.mem_append_right _ h))
  have w_2 := hts (.fieldLink RX3 28 "GapLines$State" "key" "I") (List.mem_cons_of_mem _ (List.mem_append_left _ (List.mem_of_getElem? (i := 1) rfl)))
  have w_3 := hts (.fieldLink RX3 31 "GapLines$State" "start" "I") (List.mem_cons_of_mem _ (List.mem_append_left _ (List.mem_of_getElem? (i := 2) rfl)))
  have w_4 := hts (.fieldLink RX3 34 "GapLines$State" "gap" "I") (List.mem_cons_of_mem _ (List.mem_append_left _ (List.mem_of_getElem? (i := 3) rfl)))
  have w_5 := hts (.fieldLink RX3 37 "GapLines$State" "spares" "I") (List.mem_cons_of_mem _ (List.mem_append_left _ (List.mem_of_getElem? (i := 4) rfl)))
  have w_6 := hts (.fieldLink RX3 40 "GapLines$State" "writes" "I") (List.mem_cons_of_mem _ (List.mem_append_left _ (List.mem_of_getElem? (i := 5) rfl)))
  have w_7 := hts (.fieldLink RX3 43 "GapLines$State" "moves" "I") (List.mem_cons_of_mem _ (List.mem_append_left _ (List.mem_of_getElem? (i := 6) rfl)))
  have w_8 := hts (.fieldLink RX3 46 "GapLines$State" "writesSinceMove" "I") (List.mem_cons_of_mem _ (List.mem_append_left _ (List.mem_of_getElem? (i := 7) rfl)))
  have w_9 := hts (.fieldLink RX3 49 "GapLines$State" "replaced" "I") (List.mem_cons_of_mem _ (List.mem_append_left _ (List.mem_of_getElem? (i := 8) rfl)))
  have w_10 := hts (.fieldLink RX3 52 "GapLines$State" "laid" "I") (List.mem_cons_of_mem _ (List.mem_append_left _ (List.mem_of_getElem? (i := 9) rfl)))
  have w_11 := hts (.fieldLink RX3 55 "GapLines$State" "dead" "Z") (List.mem_cons_of_mem _ (List.mem_append_left _ (List.mem_of_getElem? (i := 10) rfl)))
  have w_12 := hts (.fieldLink RX3 9 "GapLines$State" "endurance" "I") (List.mem_cons_of_mem _ (List.mem_append_left _ (List.mem_of_getElem? (i := 11) rfl)))
  have w_13 := hts (.fieldLink RX3 15 "GapLines$State" "every" "I") (List.mem_cons_of_mem _ (List.mem_append_left _ (List.mem_of_getElem? (i := 12) rfl)))
  have w_14 := hts (.fieldLink RX3 18 "GapLines$State" "values" "[I") (List.mem_cons_of_mem _ (List.mem_append_left _ (List.mem_of_getElem? (i := 13) rfl)))
  have w_15 := hts (.methodLink RX3 59 arraycopyName) (List.mem_cons_of_mem _ (List.mem_append_left _ (List.mem_of_getElem? (i := 14) rfl)))
  have w_16 := hts (.native arraycopyName) (List.mem_cons_of_mem _ (List.mem_append_left _ (List.mem_of_getElem? (i := 15) rfl)))
  have w_17 := hts (.static arraycopyName) (List.mem_cons_of_mem _ (List.mem_append_left _ (List.mem_of_getElem? (i := 16) rfl)))
  have w_18 := hts (.initialized "java/lang/System") (List.mem_cons_of_mem _ (List.mem_append_left _ (List.mem_of_getElem? (i := 17) rfl)))
  have w_19 := hts (.fieldLink RX3 22 "GapLines$State" "wears" "[I") (List.mem_cons_of_mem _ (List.mem_append_left _ (List.mem_of_getElem? (i := 18) rfl)))
  subst hsz
  have hD := hD.self (sz := s.heap.size)
  generalize hAe : va_A [(a0, soF a1 a2 r0), (a1, soV y r0), (a2, soW y r0), (a3, soF a4 a5 r1), (a4, soV y r1), (a5, soW y r1)] s.heap.size = A at hD ⊢
  have hA : ∀ q : Nat, s.heap.size ≤ q → A q := fun q h => by rw [← hAe]; exact Or.inr h
  have hS : va_S A s.heap s.heap [] := va_S.rf
  have hl := lv_entry ([.ref a0, .ref a3]) (n := 2) (Nat.le_of_ble_eq_true rfl)
  rw [lg_entry_eq]
  generalize (lg_sl ([.ref a0, .ref a3]) ++ List.replicate (2 - (lg_sl ([.ref a0, .ref a3])).length) Slot.unset).toArray = ls at hl ⊢
  have hl : lv_has ls 2 [(0, .ref a0), (1, .ref a3)] := hl
  have hF := f_X3_copyFrom_s r0 r1
  have hP : va_P D vwCl [(a0, .inr (2, [.int (r0 0), .int (r0 1), .int (r0 2), .int (r0 3), .int (r0 4), .int (r0 5), .int (r0 6), .int (r0 7), .int (r0 9), .int (r0 10), .int (r0 8), .int (r0 11), .int (r0 12), .ref a1, .ref a2])), (a1, .inl (y 0, 32, .inl (fun j => r0 (13 + j)))), (a2, .inl (y 0, 33, .inl (fun j => r0 (45 + j)))), (a3, soF a4 a5 r1), (a4, soV y r1), (a5, soW y r1)] s.heap := hP
  have hD : va_D A [(a0, .inr (2, [.int (r0 0), .int (r0 1), .int (r0 2), .int (r0 3), .int (r0 4), .int (r0 5), .int (r0 6), .int (r0 7), .int (r0 9), .int (r0 10), .int (r0 8), .int (r0 11), .int (r0 12), .ref a1, .ref a2])), (a1, .inl (y 0, 32, .inl (fun j => r0 (13 + j)))), (a2, .inl (y 0, 33, .inl (fun j => r0 (45 + j)))), (a3, soF a4 a5 r1), (a4, soV y r1), (a5, soW y r1)] := hD
  refine lv_aload_n hx hb dX3_copyFrom_0 rfl (lv_at hl 0 rfl) ?_
  refine lv_aload_n hx hb dX3_copyFrom_1 rfl (lv_at hl 1 rfl) ?_
  refine va_get (D := D) (ci := 2) (v := .int (r1 0)) (C := RX3) (T := TX3) (N := 15) hx hb hts hi3 hown hE.1 hP 3 rfl rfl 0 (by decide) w_0 (fun _ h9 => h9) rfl dX3_copyFrom_2 ?_
  refine va_put (D := D) (ci := 2) (v := .int (r1 0)) (ty := .int) (C := RX3) (T := TX3) (N := 15) hx hb hts hi3 tyX3 tyX3_ok nmX3 hown hE.1 hP hD hS 0 rfl rfl 0 (by decide) w_0 (fun _ h9 => h9) rfl (by decide +kernel) rfl rfl (Nat.le_of_ble_eq_true rfl) dX3_copyFrom_5 (fun H locs hP hD hS => ?_)
  have hP : va_P D vwCl [(a0, .inr (2, [.int (r1 0), .int (r0 1), .int (r0 2), .int (r0 3), .int (r0 4), .int (r0 5), .int (r0 6), .int (r0 7), .int (r0 9), .int (r0 10), .int (r0 8), .int (r0 11), .int (r0 12), .ref a1, .ref a2])), (a1, .inl (y 0, 32, .inl (fun j => r0 (13 + j)))), (a2, .inl (y 0, 33, .inl (fun j => r0 (45 + j)))), (a3, soF a4 a5 r1), (a4, soV y r1), (a5, soW y r1)] H := hP
  have hD : va_D A [(a0, .inr (2, [.int (r1 0), .int (r0 1), .int (r0 2), .int (r0 3), .int (r0 4), .int (r0 5), .int (r0 6), .int (r0 7), .int (r0 9), .int (r0 10), .int (r0 8), .int (r0 11), .int (r0 12), .ref a1, .ref a2])), (a1, .inl (y 0, 32, .inl (fun j => r0 (13 + j)))), (a2, .inl (y 0, 33, .inl (fun j => r0 (45 + j)))), (a3, soF a4 a5 r1), (a4, soV y r1), (a5, soW y r1)] := hD
  refine lv_aload_n hx hb dX3_copyFrom_8 rfl (lv_at hl 0 rfl) ?_
  refine lv_aload_n hx hb dX3_copyFrom_9 rfl (lv_at hl 1 rfl) ?_
  refine va_get (D := D) (ci := 2) (v := .int (r1 1)) (C := RX3) (T := TX3) (N := 15) hx hb hts hi3 hown hE.1 hP 3 rfl rfl 1 (by decide) w_2 (fun _ h9 => h9) rfl dX3_copyFrom_10 ?_
  refine va_put (D := D) (ci := 2) (v := .int (r1 1)) (ty := .int) (C := RX3) (T := TX3) (N := 15) hx hb hts hi3 tyX3 tyX3_ok nmX3 hown hE.1 hP hD hS 0 rfl rfl 1 (by decide) w_2 (fun _ h9 => h9) rfl (by decide +kernel) rfl rfl (Nat.le_of_ble_eq_true rfl) dX3_copyFrom_13 (fun H locs hP hD hS => ?_)
  have hP : va_P D vwCl [(a0, .inr (2, [.int (r1 0), .int (r1 1), .int (r0 2), .int (r0 3), .int (r0 4), .int (r0 5), .int (r0 6), .int (r0 7), .int (r0 9), .int (r0 10), .int (r0 8), .int (r0 11), .int (r0 12), .ref a1, .ref a2])), (a1, .inl (y 0, 32, .inl (fun j => r0 (13 + j)))), (a2, .inl (y 0, 33, .inl (fun j => r0 (45 + j)))), (a3, soF a4 a5 r1), (a4, soV y r1), (a5, soW y r1)] H := hP
  have hD : va_D A [(a0, .inr (2, [.int (r1 0), .int (r1 1), .int (r0 2), .int (r0 3), .int (r0 4), .int (r0 5), .int (r0 6), .int (r0 7), .int (r0 9), .int (r0 10), .int (r0 8), .int (r0 11), .int (r0 12), .ref a1, .ref a2])), (a1, .inl (y 0, 32, .inl (fun j => r0 (13 + j)))), (a2, .inl (y 0, 33, .inl (fun j => r0 (45 + j)))), (a3, soF a4 a5 r1), (a4, soV y r1), (a5, soW y r1)] := hD
  refine lv_aload_n hx hb dX3_copyFrom_16 rfl (lv_at hl 0 rfl) ?_
  refine lv_aload_n hx hb dX3_copyFrom_17 rfl (lv_at hl 1 rfl) ?_
  refine va_get (D := D) (ci := 2) (v := .int (r1 2)) (C := RX3) (T := TX3) (N := 15) hx hb hts hi3 hown hE.1 hP 3 rfl rfl 2 (by decide) w_3 (fun _ h9 => h9) rfl dX3_copyFrom_18 ?_
  refine va_put (D := D) (ci := 2) (v := .int (r1 2)) (ty := .int) (C := RX3) (T := TX3) (N := 15) hx hb hts hi3 tyX3 tyX3_ok nmX3 hown hE.1 hP hD hS 0 rfl rfl 2 (by decide) w_3 (fun _ h9 => h9) rfl (by decide +kernel) rfl rfl (Nat.le_of_ble_eq_true rfl) dX3_copyFrom_21 (fun H locs hP hD hS => ?_)
  have hP : va_P D vwCl [(a0, .inr (2, [.int (r1 0), .int (r1 1), .int (r1 2), .int (r0 3), .int (r0 4), .int (r0 5), .int (r0 6), .int (r0 7), .int (r0 9), .int (r0 10), .int (r0 8), .int (r0 11), .int (r0 12), .ref a1, .ref a2])), (a1, .inl (y 0, 32, .inl (fun j => r0 (13 + j)))), (a2, .inl (y 0, 33, .inl (fun j => r0 (45 + j)))), (a3, soF a4 a5 r1), (a4, soV y r1), (a5, soW y r1)] H := hP
  have hD : va_D A [(a0, .inr (2, [.int (r1 0), .int (r1 1), .int (r1 2), .int (r0 3), .int (r0 4), .int (r0 5), .int (r0 6), .int (r0 7), .int (r0 9), .int (r0 10), .int (r0 8), .int (r0 11), .int (r0 12), .ref a1, .ref a2])), (a1, .inl (y 0, 32, .inl (fun j => r0 (13 + j)))), (a2, .inl (y 0, 33, .inl (fun j => r0 (45 + j)))), (a3, soF a4 a5 r1), (a4, soV y r1), (a5, soW y r1)] := hD
  refine lv_aload_n hx hb dX3_copyFrom_24 rfl (lv_at hl 0 rfl) ?_
  refine lv_aload_n hx hb dX3_copyFrom_25 rfl (lv_at hl 1 rfl) ?_
  refine va_get (D := D) (ci := 2) (v := .int (r1 3)) (C := RX3) (T := TX3) (N := 15) hx hb hts hi3 hown hE.1 hP 3 rfl rfl 3 (by decide) w_4 (fun _ h9 => h9) rfl dX3_copyFrom_26 ?_
  refine va_put (D := D) (ci := 2) (v := .int (r1 3)) (ty := .int) (C := RX3) (T := TX3) (N := 15) hx hb hts hi3 tyX3 tyX3_ok nmX3 hown hE.1 hP hD hS 0 rfl rfl 3 (by decide) w_4 (fun _ h9 => h9) rfl (by decide +kernel) rfl rfl (Nat.le_of_ble_eq_true rfl) dX3_copyFrom_29 (fun H locs hP hD hS => ?_)
  have hP : va_P D vwCl [(a0, .inr (2, [.int (r1 0), .int (r1 1), .int (r1 2), .int (r1 3), .int (r0 4), .int (r0 5), .int (r0 6), .int (r0 7), .int (r0 9), .int (r0 10), .int (r0 8), .int (r0 11), .int (r0 12), .ref a1, .ref a2])), (a1, .inl (y 0, 32, .inl (fun j => r0 (13 + j)))), (a2, .inl (y 0, 33, .inl (fun j => r0 (45 + j)))), (a3, soF a4 a5 r1), (a4, soV y r1), (a5, soW y r1)] H := hP
  have hD : va_D A [(a0, .inr (2, [.int (r1 0), .int (r1 1), .int (r1 2), .int (r1 3), .int (r0 4), .int (r0 5), .int (r0 6), .int (r0 7), .int (r0 9), .int (r0 10), .int (r0 8), .int (r0 11), .int (r0 12), .ref a1, .ref a2])), (a1, .inl (y 0, 32, .inl (fun j => r0 (13 + j)))), (a2, .inl (y 0, 33, .inl (fun j => r0 (45 + j)))), (a3, soF a4 a5 r1), (a4, soV y r1), (a5, soW y r1)] := hD
  refine lv_aload_n hx hb dX3_copyFrom_32 rfl (lv_at hl 0 rfl) ?_
  refine lv_aload_n hx hb dX3_copyFrom_33 rfl (lv_at hl 1 rfl) ?_
  refine va_get (D := D) (ci := 2) (v := .int (r1 4)) (C := RX3) (T := TX3) (N := 15) hx hb hts hi3 hown hE.1 hP 3 rfl rfl 4 (by decide) w_5 (fun _ h9 => h9) rfl dX3_copyFrom_34 ?_
  refine va_put (D := D) (ci := 2) (v := .int (r1 4)) (ty := .int) (C := RX3) (T := TX3) (N := 15) hx hb hts hi3 tyX3 tyX3_ok nmX3 hown hE.1 hP hD hS 0 rfl rfl 4 (by decide) w_5 (fun _ h9 => h9) rfl (by decide +kernel) rfl rfl (Nat.le_of_ble_eq_true rfl) dX3_copyFrom_37 (fun H locs hP hD hS => ?_)
  have hP : va_P D vwCl [(a0, .inr (2, [.int (r1 0), .int (r1 1), .int (r1 2), .int (r1 3), .int (r1 4), .int (r0 5), .int (r0 6), .int (r0 7), .int (r0 9), .int (r0 10), .int (r0 8), .int (r0 11), .int (r0 12), .ref a1, .ref a2])), (a1, .inl (y 0, 32, .inl (fun j => r0 (13 + j)))), (a2, .inl (y 0, 33, .inl (fun j => r0 (45 + j)))), (a3, soF a4 a5 r1), (a4, soV y r1), (a5, soW y r1)] H := hP
  have hD : va_D A [(a0, .inr (2, [.int (r1 0), .int (r1 1), .int (r1 2), .int (r1 3), .int (r1 4), .int (r0 5), .int (r0 6), .int (r0 7), .int (r0 9), .int (r0 10), .int (r0 8), .int (r0 11), .int (r0 12), .ref a1, .ref a2])), (a1, .inl (y 0, 32, .inl (fun j => r0 (13 + j)))), (a2, .inl (y 0, 33, .inl (fun j => r0 (45 + j)))), (a3, soF a4 a5 r1), (a4, soV y r1), (a5, soW y r1)] := hD
  refine lv_aload_n hx hb dX3_copyFrom_40 rfl (lv_at hl 0 rfl) ?_
  refine lv_aload_n hx hb dX3_copyFrom_41 rfl (lv_at hl 1 rfl) ?_
  refine va_get (D := D) (ci := 2) (v := .int (r1 5)) (C := RX3) (T := TX3) (N := 15) hx hb hts hi3 hown hE.1 hP 3 rfl rfl 5 (by decide) w_6 (fun _ h9 => h9) rfl dX3_copyFrom_42 ?_
  refine va_put (D := D) (ci := 2) (v := .int (r1 5)) (ty := .int) (C := RX3) (T := TX3) (N := 15) hx hb hts hi3 tyX3 tyX3_ok nmX3 hown hE.1 hP hD hS 0 rfl rfl 5 (by decide) w_6 (fun _ h9 => h9) rfl (by decide +kernel) rfl rfl (Nat.le_of_ble_eq_true rfl) dX3_copyFrom_45 (fun H locs hP hD hS => ?_)
  have hP : va_P D vwCl [(a0, .inr (2, [.int (r1 0), .int (r1 1), .int (r1 2), .int (r1 3), .int (r1 4), .int (r1 5), .int (r0 6), .int (r0 7), .int (r0 9), .int (r0 10), .int (r0 8), .int (r0 11), .int (r0 12), .ref a1, .ref a2])), (a1, .inl (y 0, 32, .inl (fun j => r0 (13 + j)))), (a2, .inl (y 0, 33, .inl (fun j => r0 (45 + j)))), (a3, soF a4 a5 r1), (a4, soV y r1), (a5, soW y r1)] H := hP
  have hD : va_D A [(a0, .inr (2, [.int (r1 0), .int (r1 1), .int (r1 2), .int (r1 3), .int (r1 4), .int (r1 5), .int (r0 6), .int (r0 7), .int (r0 9), .int (r0 10), .int (r0 8), .int (r0 11), .int (r0 12), .ref a1, .ref a2])), (a1, .inl (y 0, 32, .inl (fun j => r0 (13 + j)))), (a2, .inl (y 0, 33, .inl (fun j => r0 (45 + j)))), (a3, soF a4 a5 r1), (a4, soV y r1), (a5, soW y r1)] := hD
  refine lv_aload_n hx hb dX3_copyFrom_48 rfl (lv_at hl 0 rfl) ?_
  refine lv_aload_n hx hb dX3_copyFrom_49 rfl (lv_at hl 1 rfl) ?_
  refine va_get (D := D) (ci := 2) (v := .int (r1 6)) (C := RX3) (T := TX3) (N := 15) hx hb hts hi3 hown hE.1 hP 3 rfl rfl 6 (by decide) w_7 (fun _ h9 => h9) rfl dX3_copyFrom_50 ?_
  refine va_put (D := D) (ci := 2) (v := .int (r1 6)) (ty := .int) (C := RX3) (T := TX3) (N := 15) hx hb hts hi3 tyX3 tyX3_ok nmX3 hown hE.1 hP hD hS 0 rfl rfl 6 (by decide) w_7 (fun _ h9 => h9) rfl (by decide +kernel) rfl rfl (Nat.le_of_ble_eq_true rfl) dX3_copyFrom_53 (fun H locs hP hD hS => ?_)
  have hP : va_P D vwCl [(a0, .inr (2, [.int (r1 0), .int (r1 1), .int (r1 2), .int (r1 3), .int (r1 4), .int (r1 5), .int (r1 6), .int (r0 7), .int (r0 9), .int (r0 10), .int (r0 8), .int (r0 11), .int (r0 12), .ref a1, .ref a2])), (a1, .inl (y 0, 32, .inl (fun j => r0 (13 + j)))), (a2, .inl (y 0, 33, .inl (fun j => r0 (45 + j)))), (a3, soF a4 a5 r1), (a4, soV y r1), (a5, soW y r1)] H := hP
  have hD : va_D A [(a0, .inr (2, [.int (r1 0), .int (r1 1), .int (r1 2), .int (r1 3), .int (r1 4), .int (r1 5), .int (r1 6), .int (r0 7), .int (r0 9), .int (r0 10), .int (r0 8), .int (r0 11), .int (r0 12), .ref a1, .ref a2])), (a1, .inl (y 0, 32, .inl (fun j => r0 (13 + j)))), (a2, .inl (y 0, 33, .inl (fun j => r0 (45 + j)))), (a3, soF a4 a5 r1), (a4, soV y r1), (a5, soW y r1)] := hD
  refine lv_aload_n hx hb dX3_copyFrom_56 rfl (lv_at hl 0 rfl) ?_
  refine lv_aload_n hx hb dX3_copyFrom_57 rfl (lv_at hl 1 rfl) ?_
  refine va_get (D := D) (ci := 2) (v := .int (r1 7)) (C := RX3) (T := TX3) (N := 15) hx hb hts hi3 hown hE.1 hP 3 rfl rfl 7 (by decide) w_8 (fun _ h9 => h9) rfl dX3_copyFrom_58 ?_
  refine va_put (D := D) (ci := 2) (v := .int (r1 7)) (ty := .int) (C := RX3) (T := TX3) (N := 15) hx hb hts hi3 tyX3 tyX3_ok nmX3 hown hE.1 hP hD hS 0 rfl rfl 7 (by decide) w_8 (fun _ h9 => h9) rfl (by decide +kernel) rfl rfl (Nat.le_of_ble_eq_true rfl) dX3_copyFrom_61 (fun H locs hP hD hS => ?_)
  have hP : va_P D vwCl [(a0, .inr (2, [.int (r1 0), .int (r1 1), .int (r1 2), .int (r1 3), .int (r1 4), .int (r1 5), .int (r1 6), .int (r1 7), .int (r0 9), .int (r0 10), .int (r0 8), .int (r0 11), .int (r0 12), .ref a1, .ref a2])), (a1, .inl (y 0, 32, .inl (fun j => r0 (13 + j)))), (a2, .inl (y 0, 33, .inl (fun j => r0 (45 + j)))), (a3, soF a4 a5 r1), (a4, soV y r1), (a5, soW y r1)] H := hP
  have hD : va_D A [(a0, .inr (2, [.int (r1 0), .int (r1 1), .int (r1 2), .int (r1 3), .int (r1 4), .int (r1 5), .int (r1 6), .int (r1 7), .int (r0 9), .int (r0 10), .int (r0 8), .int (r0 11), .int (r0 12), .ref a1, .ref a2])), (a1, .inl (y 0, 32, .inl (fun j => r0 (13 + j)))), (a2, .inl (y 0, 33, .inl (fun j => r0 (45 + j)))), (a3, soF a4 a5 r1), (a4, soV y r1), (a5, soW y r1)] := hD
  refine lv_aload_n hx hb dX3_copyFrom_64 rfl (lv_at hl 0 rfl) ?_
  refine lv_aload_n hx hb dX3_copyFrom_65 rfl (lv_at hl 1 rfl) ?_
  refine va_get (D := D) (ci := 2) (v := .int (r1 9)) (C := RX3) (T := TX3) (N := 15) hx hb hts hi3 hown hE.1 hP 3 rfl rfl 8 (by decide) w_9 (fun _ h9 => h9) rfl dX3_copyFrom_66 ?_
  refine va_put (D := D) (ci := 2) (v := .int (r1 9)) (ty := .int) (C := RX3) (T := TX3) (N := 15) hx hb hts hi3 tyX3 tyX3_ok nmX3 hown hE.1 hP hD hS 0 rfl rfl 8 (by decide) w_9 (fun _ h9 => h9) rfl (by decide +kernel) rfl rfl (Nat.le_of_ble_eq_true rfl) dX3_copyFrom_69 (fun H locs hP hD hS => ?_)
  have hP : va_P D vwCl [(a0, .inr (2, [.int (r1 0), .int (r1 1), .int (r1 2), .int (r1 3), .int (r1 4), .int (r1 5), .int (r1 6), .int (r1 7), .int (r1 9), .int (r0 10), .int (r0 8), .int (r0 11), .int (r0 12), .ref a1, .ref a2])), (a1, .inl (y 0, 32, .inl (fun j => r0 (13 + j)))), (a2, .inl (y 0, 33, .inl (fun j => r0 (45 + j)))), (a3, soF a4 a5 r1), (a4, soV y r1), (a5, soW y r1)] H := hP
  have hD : va_D A [(a0, .inr (2, [.int (r1 0), .int (r1 1), .int (r1 2), .int (r1 3), .int (r1 4), .int (r1 5), .int (r1 6), .int (r1 7), .int (r1 9), .int (r0 10), .int (r0 8), .int (r0 11), .int (r0 12), .ref a1, .ref a2])), (a1, .inl (y 0, 32, .inl (fun j => r0 (13 + j)))), (a2, .inl (y 0, 33, .inl (fun j => r0 (45 + j)))), (a3, soF a4 a5 r1), (a4, soV y r1), (a5, soW y r1)] := hD
  refine lv_aload_n hx hb dX3_copyFrom_72 rfl (lv_at hl 0 rfl) ?_
  refine lv_aload_n hx hb dX3_copyFrom_73 rfl (lv_at hl 1 rfl) ?_
  refine va_get (D := D) (ci := 2) (v := .int (r1 10)) (C := RX3) (T := TX3) (N := 15) hx hb hts hi3 hown hE.1 hP 3 rfl rfl 9 (by decide) w_10 (fun _ h9 => h9) rfl dX3_copyFrom_74 ?_
  refine va_put (D := D) (ci := 2) (v := .int (r1 10)) (ty := .int) (C := RX3) (T := TX3) (N := 15) hx hb hts hi3 tyX3 tyX3_ok nmX3 hown hE.1 hP hD hS 0 rfl rfl 9 (by decide) w_10 (fun _ h9 => h9) rfl (by decide +kernel) rfl rfl (Nat.le_of_ble_eq_true rfl) dX3_copyFrom_77 (fun H locs hP hD hS => ?_)
  have hP : va_P D vwCl [(a0, .inr (2, [.int (r1 0), .int (r1 1), .int (r1 2), .int (r1 3), .int (r1 4), .int (r1 5), .int (r1 6), .int (r1 7), .int (r1 9), .int (r1 10), .int (r0 8), .int (r0 11), .int (r0 12), .ref a1, .ref a2])), (a1, .inl (y 0, 32, .inl (fun j => r0 (13 + j)))), (a2, .inl (y 0, 33, .inl (fun j => r0 (45 + j)))), (a3, soF a4 a5 r1), (a4, soV y r1), (a5, soW y r1)] H := hP
  have hD : va_D A [(a0, .inr (2, [.int (r1 0), .int (r1 1), .int (r1 2), .int (r1 3), .int (r1 4), .int (r1 5), .int (r1 6), .int (r1 7), .int (r1 9), .int (r1 10), .int (r0 8), .int (r0 11), .int (r0 12), .ref a1, .ref a2])), (a1, .inl (y 0, 32, .inl (fun j => r0 (13 + j)))), (a2, .inl (y 0, 33, .inl (fun j => r0 (45 + j)))), (a3, soF a4 a5 r1), (a4, soV y r1), (a5, soW y r1)] := hD
  refine lv_aload_n hx hb dX3_copyFrom_80 rfl (lv_at hl 0 rfl) ?_
  refine lv_aload_n hx hb dX3_copyFrom_81 rfl (lv_at hl 1 rfl) ?_
  refine va_get (D := D) (ci := 2) (v := .int (r1 8)) (C := RX3) (T := TX3) (N := 15) hx hb hts hi3 hown hE.1 hP 3 rfl rfl 10 (by decide) w_11 (fun _ h9 => h9) rfl dX3_copyFrom_82 ?_
  refine va_put (D := D) (ci := 2) (v := .int (r1 8)) (ty := .boolean) (C := RX3) (T := TX3) (N := 15) hx hb hts hi3 tyX3 tyX3_ok nmX3 hown hE.1 hP hD hS 0 rfl rfl 10 (by decide) w_11 (fun _ h9 => h9) rfl (by decide +kernel) (ok_nar ho) (ok_fit ho) (Nat.le_of_ble_eq_true rfl) dX3_copyFrom_85 (fun H locs hP hD hS => ?_)
  have hP : va_P D vwCl [(a0, .inr (2, [.int (r1 0), .int (r1 1), .int (r1 2), .int (r1 3), .int (r1 4), .int (r1 5), .int (r1 6), .int (r1 7), .int (r1 9), .int (r1 10), .int (r1 8), .int (r0 11), .int (r0 12), .ref a1, .ref a2])), (a1, .inl (y 0, 32, .inl (fun j => r0 (13 + j)))), (a2, .inl (y 0, 33, .inl (fun j => r0 (45 + j)))), (a3, soF a4 a5 r1), (a4, soV y r1), (a5, soW y r1)] H := hP
  have hD : va_D A [(a0, .inr (2, [.int (r1 0), .int (r1 1), .int (r1 2), .int (r1 3), .int (r1 4), .int (r1 5), .int (r1 6), .int (r1 7), .int (r1 9), .int (r1 10), .int (r1 8), .int (r0 11), .int (r0 12), .ref a1, .ref a2])), (a1, .inl (y 0, 32, .inl (fun j => r0 (13 + j)))), (a2, .inl (y 0, 33, .inl (fun j => r0 (45 + j)))), (a3, soF a4 a5 r1), (a4, soV y r1), (a5, soW y r1)] := hD
  refine lv_aload_n hx hb dX3_copyFrom_88 rfl (lv_at hl 0 rfl) ?_
  refine lv_aload_n hx hb dX3_copyFrom_89 rfl (lv_at hl 1 rfl) ?_
  refine va_get (D := D) (ci := 2) (v := .int (r1 11)) (C := RX3) (T := TX3) (N := 15) hx hb hts hi3 hown hE.1 hP 3 rfl rfl 11 (by decide) w_12 (fun _ h9 => h9) rfl dX3_copyFrom_90 ?_
  refine va_put (D := D) (ci := 2) (v := .int (r1 11)) (ty := .int) (C := RX3) (T := TX3) (N := 15) hx hb hts hi3 tyX3 tyX3_ok nmX3 hown hE.1 hP hD hS 0 rfl rfl 11 (by decide) w_12 (fun _ h9 => h9) rfl (by decide +kernel) rfl rfl (Nat.le_of_ble_eq_true rfl) dX3_copyFrom_93 (fun H locs hP hD hS => ?_)
  have hP : va_P D vwCl [(a0, .inr (2, [.int (r1 0), .int (r1 1), .int (r1 2), .int (r1 3), .int (r1 4), .int (r1 5), .int (r1 6), .int (r1 7), .int (r1 9), .int (r1 10), .int (r1 8), .int (r1 11), .int (r0 12), .ref a1, .ref a2])), (a1, .inl (y 0, 32, .inl (fun j => r0 (13 + j)))), (a2, .inl (y 0, 33, .inl (fun j => r0 (45 + j)))), (a3, soF a4 a5 r1), (a4, soV y r1), (a5, soW y r1)] H := hP
  have hD : va_D A [(a0, .inr (2, [.int (r1 0), .int (r1 1), .int (r1 2), .int (r1 3), .int (r1 4), .int (r1 5), .int (r1 6), .int (r1 7), .int (r1 9), .int (r1 10), .int (r1 8), .int (r1 11), .int (r0 12), .ref a1, .ref a2])), (a1, .inl (y 0, 32, .inl (fun j => r0 (13 + j)))), (a2, .inl (y 0, 33, .inl (fun j => r0 (45 + j)))), (a3, soF a4 a5 r1), (a4, soV y r1), (a5, soW y r1)] := hD
  refine lv_aload_n hx hb dX3_copyFrom_96 rfl (lv_at hl 0 rfl) ?_
  refine lv_aload_n hx hb dX3_copyFrom_97 rfl (lv_at hl 1 rfl) ?_
  refine va_get (D := D) (ci := 2) (v := .int (r1 12)) (C := RX3) (T := TX3) (N := 15) hx hb hts hi3 hown hE.1 hP 3 rfl rfl 12 (by decide) w_13 (fun _ h9 => h9) rfl dX3_copyFrom_98 ?_
  refine va_put (D := D) (ci := 2) (v := .int (r1 12)) (ty := .int) (C := RX3) (T := TX3) (N := 15) hx hb hts hi3 tyX3 tyX3_ok nmX3 hown hE.1 hP hD hS 0 rfl rfl 12 (by decide) w_13 (fun _ h9 => h9) rfl (by decide +kernel) rfl rfl (Nat.le_of_ble_eq_true rfl) dX3_copyFrom_101 (fun H locs hP hD hS => ?_)
  have hP : va_P D vwCl [(a0, .inr (2, [.int (r1 0), .int (r1 1), .int (r1 2), .int (r1 3), .int (r1 4), .int (r1 5), .int (r1 6), .int (r1 7), .int (r1 9), .int (r1 10), .int (r1 8), .int (r1 11), .int (r1 12), .ref a1, .ref a2])), (a1, .inl (y 0, 32, .inl (fun j => r0 (13 + j)))), (a2, .inl (y 0, 33, .inl (fun j => r0 (45 + j)))), (a3, soF a4 a5 r1), (a4, soV y r1), (a5, soW y r1)] H := hP
  have hD : va_D A [(a0, .inr (2, [.int (r1 0), .int (r1 1), .int (r1 2), .int (r1 3), .int (r1 4), .int (r1 5), .int (r1 6), .int (r1 7), .int (r1 9), .int (r1 10), .int (r1 8), .int (r1 11), .int (r1 12), .ref a1, .ref a2])), (a1, .inl (y 0, 32, .inl (fun j => r0 (13 + j)))), (a2, .inl (y 0, 33, .inl (fun j => r0 (45 + j)))), (a3, soF a4 a5 r1), (a4, soV y r1), (a5, soW y r1)] := hD
  refine lv_aload_n hx hb dX3_copyFrom_104 rfl (lv_at hl 1 rfl) ?_
  refine va_get (D := D) (ci := 2) (v := .ref a4) (C := RX3) (T := TX3) (N := 15) hx hb hts hi3 hown hE.1 hP 3 rfl rfl 13 (by decide) w_14 (fun _ h9 => h9) rfl dX3_copyFrom_105 ?_
  refine lv_iconst (v := 0) hx hb dX3_copyFrom_108 (by decide) ?_
  refine lv_aload_n hx hb dX3_copyFrom_109 rfl (lv_at hl 0 rfl) ?_
  refine va_get (D := D) (ci := 2) (v := .ref a1) (C := RX3) (T := TX3) (N := 15) hx hb hts hi3 hown hE.1 hP 0 rfl rfl 13 (by decide) w_14 (fun _ h9 => h9) rfl dX3_copyFrom_110 ?_
  refine lv_iconst (v := 0) hx hb dX3_copyFrom_113 (by decide) ?_
  refine lv_bipush (v := 32) hx hb dX3_copyFrom_114 (by decide) ?_
  refine va_copyi hx hb (hml.trans hl.1.symm) hown w_15 w_16 w_17 w_18 hE.1 hP hD hS 4 1 0 0 rfl rfl rfl rfl rfl (by decide) (by decide) (by decide) (by decide) (by decide) (fun _ _ => rfl) (Nat.le_of_ble_eq_true rfl) (Nat.le_of_ble_eq_true rfl) dX3_copyFrom_116 (fun H locs hP hD hS => ?_)
  have hP : va_P D vwCl [(a0, .inr (2, [.int (r1 0), .int (r1 1), .int (r1 2), .int (r1 3), .int (r1 4), .int (r1 5), .int (r1 6), .int (r1 7), .int (r1 9), .int (r1 10), .int (r1 8), .int (r1 11), .int (r1 12), .ref a1, .ref a2])), (a1, .inl (y 0, 32, .inl (va_cpy (fun j => r1 (13 + j)) (fun j => r0 (13 + j)) 0 0 32))), (a2, .inl (y 0, 33, .inl (fun j => r0 (45 + j)))), (a3, soF a4 a5 r1), (a4, soV y r1), (a5, soW y r1)] H := hP
  have hD : va_D A [(a0, .inr (2, [.int (r1 0), .int (r1 1), .int (r1 2), .int (r1 3), .int (r1 4), .int (r1 5), .int (r1 6), .int (r1 7), .int (r1 9), .int (r1 10), .int (r1 8), .int (r1 11), .int (r1 12), .ref a1, .ref a2])), (a1, .inl (y 0, 32, .inl (va_cpy (fun j => r1 (13 + j)) (fun j => r0 (13 + j)) 0 0 32))), (a2, .inl (y 0, 33, .inl (fun j => r0 (45 + j)))), (a3, soF a4 a5 r1), (a4, soV y r1), (a5, soW y r1)] := hD
  refine lv_aload_n hx hb dX3_copyFrom_119 rfl (lv_at hl 1 rfl) ?_
  refine va_get (D := D) (ci := 2) (v := .ref a5) (C := RX3) (T := TX3) (N := 15) hx hb hts hi3 hown hE.1 hP 3 rfl rfl 14 (by decide) w_19 (fun _ h9 => h9) rfl dX3_copyFrom_120 ?_
  refine lv_iconst (v := 0) hx hb dX3_copyFrom_123 (by decide) ?_
  refine lv_aload_n hx hb dX3_copyFrom_124 rfl (lv_at hl 0 rfl) ?_
  refine va_get (D := D) (ci := 2) (v := .ref a2) (C := RX3) (T := TX3) (N := 15) hx hb hts hi3 hown hE.1 hP 0 rfl rfl 14 (by decide) w_19 (fun _ h9 => h9) rfl dX3_copyFrom_125 ?_
  refine lv_iconst (v := 0) hx hb dX3_copyFrom_128 (by decide) ?_
  refine lv_bipush (v := 33) hx hb dX3_copyFrom_129 (by decide) ?_
  refine va_copyi hx hb (hml.trans hl.1.symm) hown w_15 w_16 w_17 w_18 hE.1 hP hD hS 5 2 0 0 rfl rfl rfl rfl rfl (by decide) (by decide) (by decide) (by decide) (by decide) (fun _ _ => rfl) (Nat.le_of_ble_eq_true rfl) (Nat.le_of_ble_eq_true rfl) dX3_copyFrom_131 (fun H locs hP hD hS => ?_)
  have hP : va_P D vwCl [(a0, .inr (2, [.int (r1 0), .int (r1 1), .int (r1 2), .int (r1 3), .int (r1 4), .int (r1 5), .int (r1 6), .int (r1 7), .int (r1 9), .int (r1 10), .int (r1 8), .int (r1 11), .int (r1 12), .ref a1, .ref a2])), (a1, .inl (y 0, 32, .inl (va_cpy (fun j => r1 (13 + j)) (fun j => r0 (13 + j)) 0 0 32))), (a2, .inl (y 0, 33, .inl (va_cpy (fun j => r1 (45 + j)) (fun j => r0 (45 + j)) 0 0 33))), (a3, soF a4 a5 r1), (a4, soV y r1), (a5, soW y r1)] H := hP
  have hD : va_D A [(a0, .inr (2, [.int (r1 0), .int (r1 1), .int (r1 2), .int (r1 3), .int (r1 4), .int (r1 5), .int (r1 6), .int (r1 7), .int (r1 9), .int (r1 10), .int (r1 8), .int (r1 11), .int (r1 12), .ref a1, .ref a2])), (a1, .inl (y 0, 32, .inl (va_cpy (fun j => r1 (13 + j)) (fun j => r0 (13 + j)) 0 0 32))), (a2, .inl (y 0, 33, .inl (va_cpy (fun j => r1 (45 + j)) (fun j => r0 (45 + j)) 0 0 33))), (a3, soF a4 a5 r1), (a4, soV y r1), (a5, soW y r1)] := hD
  have hP := xa_congr hP 1 (g := fun j => r1 (13 + j)) rfl (fun j hj => xcpy hj)
  have hP := xa_congr hP 2 (g := fun j => r1 (45 + j)) rfl (fun j hj => xcpy hj)
  have hD := hD.set (p := 1) (e := soV y r1) rfl
  have hD := hD.set (p := 2) (e := soW y r1) rfl
  have hP : va_P D vwCl [(a0, soF a1 a2 r1), (a1, soV y r1), (a2, soW y r1), (a3, soF a4 a5 r1), (a4, soV y r1), (a5, soW y r1)] H := hP
  have hD : va_D A [(a0, soF a1 a2 r1), (a1, soV y r1), (a2, soW y r1), (a3, soF a4 a5 r1), (a4, soV y r1), (a5, soW y r1)] := hD
  exact W.vret hx hb hr (fun t ht hW => ⟨⟨r1, rfl, hF, ⟨by rw [ht]; exact hP, hD⟩⟩, hS.F ht⟩) hS.2.2 dX3_copyFrom_134

def f_X3_layAt (r : gR) (p0 : Int32) : gR :=
    if p0 < 0 then
    r
  else
    if p0 ≤ (r 0) then
      gLet (upd r (45 + p0.toNatClampNeg) ((r (45 + p0.toNatClampNeg)) + 1)) (fun (r3 : gR) =>
        if (r3 11) ≤ ((upd r3 10 ((r3 10) + 1)) (45 + p0.toNatClampNeg)) then
          if (r3 4) = 0 then
            (upd (upd r3 10 ((r3 10) + 1)) 8 1)
          else
            gLet (upd (upd (upd (upd r3 10 ((r3 10) + 1)) 4 ((r3 4) - 1)) 9 ((r3 9) + 1)) (45 + p0.toNatClampNeg) 1) (fun (r6 : gR) =>
              (upd r6 10 ((r6 10) + 1)))
        else
          (upd r3 10 ((r3 10) + 1)))
    else
      r
theorem f_X3_layAt_s (r : gR) (p0 : Int32) : f_X3_layAt r p0 =
    (if p0 < 0 then
    r
  else
    if p0 ≤ (r 0) then
      gLet (upd r (45 + p0.toNatClampNeg) ((r (45 + p0.toNatClampNeg)) + 1)) (fun (r3 : gR) =>
        if (r3 11) ≤ ((upd r3 10 ((r3 10) + 1)) (45 + p0.toNatClampNeg)) then
          if (r3 4) = 0 then
            (upd (upd r3 10 ((r3 10) + 1)) 8 1)
          else
            gLet (upd (upd (upd (upd r3 10 ((r3 10) + 1)) 4 ((r3 4) - 1)) 9 ((r3 9) + 1)) (45 + p0.toNatClampNeg) 1) (fun (r6 : gR) =>
              (upd r6 10 ((r6 10) + 1)))
        else
          (upd r3 10 ((r3 10) + 1)))
    else
      r) := rfl
theorem ok_X3_layAt (r : gR) (p0 : Int32) (ho : okC r) : okC (f_X3_layAt r p0) := by
  unfold f_X3_layAt
  refine gIf_i (P := fun z : gR => okC z) (fun _ => ?_) (fun _ => ?_)
  · exact (show okC (r) from ho)
  · refine gIf_i (P := fun z : gR => okC z) (fun _ => ?_) (fun _ => ?_)
    · refine gLet_i (P := fun z : gR => okC z) (fun r3 er3 => ?_)
      have ok_r3 : okC r3 := by rw [← er3]; exact (ok_upd (by omega) ho)
      refine gIf_i (P := fun z : gR => okC z) (fun _ => ?_) (fun _ => ?_)
      · refine gIf_i (P := fun z : gR => okC z) (fun _ => ?_) (fun _ => ?_)
        · exact (show okC (upd (upd r3 10 ((r3 10) + 1)) 8 1) from (ok_upd8 (by decide) (ok_upd (by omega) ok_r3)))
        · refine gLet_i (P := fun z : gR => okC z) (fun r6 er6 => ?_)
          have ok_r6 : okC r6 := by rw [← er6]; exact (ok_upd (by omega) (ok_upd (by omega) (ok_upd (by omega) (ok_upd (by omega) ok_r3))))
          exact (show okC (upd r6 10 ((r6 10) + 1)) from (ok_upd (by omega) ok_r6))
      · exact (show okC (upd r3 10 ((r3 10) + 1)) from (ok_upd (by omega) ok_r3))
    · exact (show okC (r) from ho)
theorem z_X3_layAt (r : gR) (p0 : Int32) : (f_X3_layAt r p0) 0 = r 0 := by
  unfold f_X3_layAt
  refine gIf_i (P := fun z : gR => z 0 = r 0) (fun _ => ?_) (fun _ => ?_)
  · exact (show (r) 0 = r 0 from rfl)
  · refine gIf_i (P := fun z : gR => z 0 = r 0) (fun _ => ?_) (fun _ => ?_)
    · refine gLet_i (P := fun z : gR => z 0 = r 0) (fun r3 er3 => ?_)
      have ok_r3 : r3 0 = r 0 := by rw [← er3]; exact ((upd_ne (by omega)).trans rfl)
      refine gIf_i (P := fun z : gR => z 0 = r 0) (fun _ => ?_) (fun _ => ?_)
      · refine gIf_i (P := fun z : gR => z 0 = r 0) (fun _ => ?_) (fun _ => ?_)
        · exact (show (upd (upd r3 10 ((r3 10) + 1)) 8 1) 0 = r 0 from ((upd_ne (by omega)).trans ((upd_ne (by omega)).trans ok_r3)))
        · refine gLet_i (P := fun z : gR => z 0 = r 0) (fun r6 er6 => ?_)
          have ok_r6 : r6 0 = r 0 := by rw [← er6]; exact ((upd_ne (by omega)).trans ((upd_ne (by omega)).trans ((upd_ne (by omega)).trans ((upd_ne (by omega)).trans ok_r3))))
          exact (show (upd r6 10 ((r6 10) + 1)) 0 = r 0 from ((upd_ne (by omega)).trans ok_r6))
      · exact (show (upd r3 10 ((r3 10) + 1)) 0 = r 0 from ((upd_ne (by omega)).trans ok_r3))
    · exact (show (r) 0 = r 0 from rfl)
theorem hd_X3_layAt : yX3_layAt.cls = RX3 ∧ yX3_layAt.cls ≠ "java/lang/invoke/MethodHandle" ∧ yX3_layAt.cls ≠ "java/lang/invoke/VarHandle" ∧ (parseMethodDescriptor yX3_layAt.desc).map (fun d => d.parameters.length) = some 1 := by decide +kernel
set_option maxHeartbeats 4000000 in
set_option maxRecDepth 100000 in
theorem c_X3_layAt (l : Launch) (D : va_G) (y : Nat → ClassId) (a0 a1 a2 : Nat) (zh : Nat) (r : gR) (p0 : Int32) (ho : okC r) : Met l yX3_layAt wsX3_layAt ({ frames := 0, cells := 0, slots := 0, locals := 0 }) (gP D y [.ref a0, .int p0] zh [(a0, soF a1 a2 r), (a1, soV y r), (a2, soW y r)]) (va_Qv (fun u : gR => f_X3_layAt r p0 = u) (fun (u : gR) t => va_P D vwCl [(a0, soF a1 a2 u), (a1, soV y u), (a2, soW y u)] t.heap ∧ va_D (va_A [(a0, soF a1 a2 r), (a1, soV y r), (a2, soW y r)] zh) [(a0, soF a1 a2 u), (a1, soV y u), (a2, soW y u)]) (va_A [(a0, soF a1 a2 r), (a1, soV y r), (a2, soW y r)] zh)) 0 0 (va_A [(a0, soF a1 a2 r), (a1, soV y r), (a2, soW y r)] zh) := by
  refine Met.ofW (cc := cX3_layAt) (maxL := 2) (ret := none) (by decide) rfl ?_
  intro p e s m args below meth c s₁ B hml hv
  obtain ⟨rfl, hsz, hP, hE, hD⟩ := hv
  have hx := B.exec
  have hb := B.bytes
  have hr := B.returns
  have hts := atoms_spec (ws := wsX3_layAt) B.pre
  have hown : s.vm.findClass RX3 = some m.cls := findClass_of_methodNamed B.named
  have hlocks := B.notSynchronized
  have w_0 := hts (.fieldLink RX3 25 "GapLines$State" "lines" "I") (List.mem_cons_of_mem _ (List.mem_append_left _ (List.mem_of_getElem? (i := 0) rfl)))
  have hi3 : ∀ w ∈ u_ws RX3 TX3 15, w ∈ wsX3_layAt := fun w h => (List.mem_cons_of_mem _ (List.mem_append_right _ h))
  have w_2 := hts (.fieldLink RX3 22 "GapLines$State" "wears" "[I") (List.mem_cons_of_mem _ (List.mem_append_left _ (List.mem_of_getElem? (i := 1) rfl)))
  have w_3 := hts (.fieldLink RX3 52 "GapLines$State" "laid" "I") (List.mem_cons_of_mem _ (List.mem_append_left _ (List.mem_of_getElem? (i := 2) rfl)))
  have w_4 := hts (.fieldLink RX3 9 "GapLines$State" "endurance" "I") (List.mem_cons_of_mem _ (List.mem_append_left _ (List.mem_of_getElem? (i := 3) rfl)))
  have w_5 := hts (.fieldLink RX3 37 "GapLines$State" "spares" "I") (List.mem_cons_of_mem _ (List.mem_append_left _ (List.mem_of_getElem? (i := 4) rfl)))
  have w_6 := hts (.fieldLink RX3 49 "GapLines$State" "replaced" "I") (List.mem_cons_of_mem _ (List.mem_append_left _ (List.mem_of_getElem? (i := 6) rfl)))
  have w_7 := hts (.fieldLink RX3 55 "GapLines$State" "dead" "Z") (List.mem_cons_of_mem _ (List.mem_append_left _ (List.mem_of_getElem? (i := 5) rfl)))
  subst hsz
  have hD := hD.self (sz := s.heap.size)
  generalize hAe : va_A [(a0, soF a1 a2 r), (a1, soV y r), (a2, soW y r)] s.heap.size = A at hD ⊢
  have hA : ∀ q : Nat, s.heap.size ≤ q → A q := fun q h => by rw [← hAe]; exact Or.inr h
  have hS : va_S A s.heap s.heap [] := va_S.rf
  have hl := lv_entry ([.ref a0, .int p0]) (n := 2) (Nat.le_of_ble_eq_true rfl)
  rw [lg_entry_eq]
  generalize (lg_sl ([.ref a0, .int p0]) ++ List.replicate (2 - (lg_sl ([.ref a0, .int p0])).length) Slot.unset).toArray = ls at hl ⊢
  have hl : lv_has ls 2 [(0, .ref a0), (1, .int p0)] := hl
  have hF := f_X3_layAt_s r p0
  refine lv_iload_n hx hb dX3_layAt_0 rfl (lv_at hl 1 rfl) ?_
  refine lv_if_lt (tgt := 12) hx hb dX3_layAt_1 (by decide) (fun c_1 => ?_) (fun c_1 => ?_)
  · have hF := hF.trans (if_pos c_1)
    exact W.vret hx hb hr (fun t ht hW => ⟨⟨r, rfl, hF, ⟨by rw [ht]; exact hP, hD⟩⟩, hS.F ht⟩) hS.2.2 dX3_layAt_12
  · have hF := hF.trans (if_neg c_1)
    refine lv_iload_n hx hb dX3_layAt_4 rfl (lv_at hl 1 rfl) ?_
    refine lv_aload_n hx hb dX3_layAt_5 rfl (lv_at hl 0 rfl) ?_
    refine va_get (D := D) (ci := 2) (v := .int (r 0)) (C := RX3) (T := TX3) (N := 15) hx hb hts hi3 hown hE.1 hP 0 rfl rfl 0 (by decide) w_0 (fun _ h9 => h9) rfl dX3_layAt_6 ?_
    refine lv_icmp_le (tgt := 13) hx hb dX3_layAt_9 (by decide) (fun c_2 => ?_) (fun c_2 => ?_)
    · have hF := hF.trans (if_pos c_2)
      refine lv_aload_n hx hb dX3_layAt_13 rfl (lv_at hl 0 rfl) ?_
      refine va_get (D := D) (ci := 2) (v := .ref a2) (C := RX3) (T := TX3) (N := 15) hx hb hts hi3 hown hE.1 hP 0 rfl rfl 14 (by decide) w_2 (fun _ h9 => h9) rfl dX3_layAt_14 ?_
      refine lv_iload_n hx hb dX3_layAt_17 rfl (lv_at hl 1 rfl) ?_
      refine lv_dup2_11 hx hb dX3_layAt_18 rfl rfl ?_
      refine xa_iald (k := p0.toNatClampNeg) (v := r (45 + p0.toNatClampNeg)) hx hb hE.1 hP 2 0 rfl rfl (ix_btw (m := r 0) (by assumption) (Int32.not_lt.mpr (by assumption)) (by have := ho.2.1; omega)) rfl rfl dX3_layAt_19 ?_
      refine lv_iconst (v := 1) hx hb dX3_layAt_20 (by decide) ?_
      refine lv_iadd hx hb dX3_layAt_21 ?_
      refine xa_iast (k := p0.toNatClampNeg) hx hb hE.1 hP hD hS 2 0 rfl rfl (ix_btw (m := r 0) (by assumption) (Int32.not_lt.mpr (by assumption)) (by have := ho.2.1; omega)) rfl dX3_layAt_22 (fun H locs hP hD hS => ?_)
      obtain ⟨hP, hD⟩ := so_wear (r := r) (x := ((r (45 + p0.toNatClampNeg)) + 1)) (p0.toNatClampNeg) hP hD
      obtain ⟨r3, er3⟩ : ∃ z : gR, upd r (45 + p0.toNatClampNeg) ((r (45 + p0.toNatClampNeg)) + 1) = z := ⟨_, rfl⟩
      have hF := hF.trans (gLet_e er3)
      rw [er3] at hP hD
      refine lv_aload_n hx hb dX3_layAt_23 rfl (lv_at hl 0 rfl) ?_
      refine lv_dup hx hb dX3_layAt_24 rfl ?_
      refine va_get (D := D) (ci := 2) (v := .int (r3 10)) (C := RX3) (T := TX3) (N := 15) hx hb hts hi3 hown hE.1 hP 0 rfl rfl 9 (by decide) w_3 (fun _ h9 => h9) rfl dX3_layAt_25 ?_
      refine lv_iconst (v := 1) hx hb dX3_layAt_28 (by decide) ?_
      refine lv_iadd hx hb dX3_layAt_29 ?_
      refine va_put (D := D) (ci := 2) (v := .int ((r3 10) + 1)) (ty := .int) (C := RX3) (T := TX3) (N := 15) hx hb hts hi3 tyX3 tyX3_ok nmX3 hown hE.1 hP hD hS 0 rfl rfl 9 (by decide) w_3 (fun _ h9 => h9) rfl (by decide +kernel) rfl rfl (Nat.le_of_ble_eq_true rfl) dX3_layAt_30 (fun H locs hP hD hS => ?_)
      obtain ⟨hP, hD⟩ := so_put (r := r3) (x := ((r3 10) + 1)) 10 (by decide) (by rfl) hP hD
      refine lv_aload_n hx hb dX3_layAt_33 rfl (lv_at hl 0 rfl) ?_
      refine va_get (D := D) (ci := 2) (v := .ref a2) (C := RX3) (T := TX3) (N := 15) hx hb hts hi3 hown hE.1 hP 0 rfl rfl 14 (by decide) w_2 (fun _ h9 => h9) rfl dX3_layAt_34 ?_
      refine lv_iload_n hx hb dX3_layAt_37 rfl (lv_at hl 1 rfl) ?_
      refine xa_iald (k := p0.toNatClampNeg) (v := (upd r3 10 ((r3 10) + 1)) (45 + p0.toNatClampNeg)) hx hb hE.1 hP 2 0 rfl rfl (ix_btw (m := r 0) (by assumption) (Int32.not_lt.mpr (by assumption)) (by have := ho.2.1; omega)) rfl rfl dX3_layAt_38 ?_
      refine lv_aload_n hx hb dX3_layAt_39 rfl (lv_at hl 0 rfl) ?_
      refine va_get (D := D) (ci := 2) (v := .int (r3 11)) (C := RX3) (T := TX3) (N := 15) hx hb hts hi3 hown hE.1 hP 0 rfl rfl 11 (by decide) w_4 (fun _ h9 => h9) rfl dX3_layAt_40 ?_
      refine lv_icmp_ge (tgt := 47) hx hb dX3_layAt_43 (by decide) (fun c_4 => ?_) (fun c_4 => ?_)
      · have hF := hF.trans (if_pos c_4)
        refine lv_aload_n hx hb dX3_layAt_47 rfl (lv_at hl 0 rfl) ?_
        refine va_get (D := D) (ci := 2) (v := .int (r3 4)) (C := RX3) (T := TX3) (N := 15) hx hb hts hi3 hown hE.1 hP 0 rfl rfl 4 (by decide) w_5 (fun _ h9 => h9) rfl dX3_layAt_48 ?_
        refine lv_if_ne (tgt := 60) hx hb dX3_layAt_51 (by decide) (fun c_5 => ?_) (fun c_5 => ?_)
        · have hF := hF.trans (if_neg c_5)
          refine lv_aload_n hx hb dX3_layAt_60 rfl (lv_at hl 0 rfl) ?_
          refine lv_dup hx hb dX3_layAt_61 rfl ?_
          refine va_get (D := D) (ci := 2) (v := .int (r3 4)) (C := RX3) (T := TX3) (N := 15) hx hb hts hi3 hown hE.1 hP 0 rfl rfl 4 (by decide) w_5 (fun _ h9 => h9) rfl dX3_layAt_62 ?_
          refine lv_iconst (v := 1) hx hb dX3_layAt_65 (by decide) ?_
          refine lv_isub hx hb dX3_layAt_66 ?_
          refine va_put (D := D) (ci := 2) (v := .int ((r3 4) - 1)) (ty := .int) (C := RX3) (T := TX3) (N := 15) hx hb hts hi3 tyX3 tyX3_ok nmX3 hown hE.1 hP hD hS 0 rfl rfl 4 (by decide) w_5 (fun _ h9 => h9) rfl (by decide +kernel) rfl rfl (Nat.le_of_ble_eq_true rfl) dX3_layAt_67 (fun H locs hP hD hS => ?_)
          obtain ⟨hP, hD⟩ := so_put (r := (upd r3 10 ((r3 10) + 1))) (x := ((r3 4) - 1)) 4 (by decide) (by rfl) hP hD
          refine lv_aload_n hx hb dX3_layAt_70 rfl (lv_at hl 0 rfl) ?_
          refine lv_dup hx hb dX3_layAt_71 rfl ?_
          refine va_get (D := D) (ci := 2) (v := .int (r3 9)) (C := RX3) (T := TX3) (N := 15) hx hb hts hi3 hown hE.1 hP 0 rfl rfl 8 (by decide) w_6 (fun _ h9 => h9) rfl dX3_layAt_72 ?_
          refine lv_iconst (v := 1) hx hb dX3_layAt_75 (by decide) ?_
          refine lv_iadd hx hb dX3_layAt_76 ?_
          refine va_put (D := D) (ci := 2) (v := .int ((r3 9) + 1)) (ty := .int) (C := RX3) (T := TX3) (N := 15) hx hb hts hi3 tyX3 tyX3_ok nmX3 hown hE.1 hP hD hS 0 rfl rfl 8 (by decide) w_6 (fun _ h9 => h9) rfl (by decide +kernel) rfl rfl (Nat.le_of_ble_eq_true rfl) dX3_layAt_77 (fun H locs hP hD hS => ?_)
          obtain ⟨hP, hD⟩ := so_put (r := (upd (upd r3 10 ((r3 10) + 1)) 4 ((r3 4) - 1))) (x := ((r3 9) + 1)) 9 (by decide) (by rfl) hP hD
          refine lv_aload_n hx hb dX3_layAt_80 rfl (lv_at hl 0 rfl) ?_
          refine va_get (D := D) (ci := 2) (v := .ref a2) (C := RX3) (T := TX3) (N := 15) hx hb hts hi3 hown hE.1 hP 0 rfl rfl 14 (by decide) w_2 (fun _ h9 => h9) rfl dX3_layAt_81 ?_
          refine lv_iload_n hx hb dX3_layAt_84 rfl (lv_at hl 1 rfl) ?_
          refine lv_iconst (v := 1) hx hb dX3_layAt_85 (by decide) ?_
          refine xa_iast (k := p0.toNatClampNeg) hx hb hE.1 hP hD hS 2 0 rfl rfl (ix_btw (m := r 0) (by assumption) (Int32.not_lt.mpr (by assumption)) (by have := ho.2.1; omega)) rfl dX3_layAt_86 (fun H locs hP hD hS => ?_)
          obtain ⟨hP, hD⟩ := so_wear (r := (upd (upd (upd r3 10 ((r3 10) + 1)) 4 ((r3 4) - 1)) 9 ((r3 9) + 1))) (x := 1) (p0.toNatClampNeg) hP hD
          obtain ⟨r6, er6⟩ : ∃ z : gR, upd (upd (upd (upd r3 10 ((r3 10) + 1)) 4 ((r3 4) - 1)) 9 ((r3 9) + 1)) (45 + p0.toNatClampNeg) 1 = z := ⟨_, rfl⟩
          have hF := hF.trans (gLet_e er6)
          rw [er6] at hP hD
          refine lv_aload_n hx hb dX3_layAt_87 rfl (lv_at hl 0 rfl) ?_
          refine lv_dup hx hb dX3_layAt_88 rfl ?_
          refine va_get (D := D) (ci := 2) (v := .int (r6 10)) (C := RX3) (T := TX3) (N := 15) hx hb hts hi3 hown hE.1 hP 0 rfl rfl 9 (by decide) w_3 (fun _ h9 => h9) rfl dX3_layAt_89 ?_
          refine lv_iconst (v := 1) hx hb dX3_layAt_92 (by decide) ?_
          refine lv_iadd hx hb dX3_layAt_93 ?_
          refine va_put (D := D) (ci := 2) (v := .int ((r6 10) + 1)) (ty := .int) (C := RX3) (T := TX3) (N := 15) hx hb hts hi3 tyX3 tyX3_ok nmX3 hown hE.1 hP hD hS 0 rfl rfl 9 (by decide) w_3 (fun _ h9 => h9) rfl (by decide +kernel) rfl rfl (Nat.le_of_ble_eq_true rfl) dX3_layAt_94 (fun H locs hP hD hS => ?_)
          obtain ⟨hP, hD⟩ := so_put (r := r6) (x := ((r6 10) + 1)) 10 (by decide) (by rfl) hP hD
          exact W.vret hx hb hr (fun t ht hW => ⟨⟨(upd r6 10 ((r6 10) + 1)), rfl, hF, ⟨by rw [ht]; exact hP, hD⟩⟩, hS.F ht⟩) hS.2.2 dX3_layAt_97
        · have hF := hF.trans (if_pos c_5)
          refine lv_aload_n hx hb dX3_layAt_54 rfl (lv_at hl 0 rfl) ?_
          refine lv_iconst (v := 1) hx hb dX3_layAt_55 (by decide) ?_
          refine va_put (D := D) (ci := 2) (v := .int 1) (ty := .boolean) (C := RX3) (T := TX3) (N := 15) hx hb hts hi3 tyX3 tyX3_ok nmX3 hown hE.1 hP hD hS 0 rfl rfl 10 (by decide) w_7 (fun _ h9 => h9) rfl (by decide +kernel) rfl rfl (Nat.le_of_ble_eq_true rfl) dX3_layAt_56 (fun H locs hP hD hS => ?_)
          obtain ⟨hP, hD⟩ := so_put (r := (upd r3 10 ((r3 10) + 1))) (x := 1) 8 (by decide) (by rfl) hP hD
          exact W.vret hx hb hr (fun t ht hW => ⟨⟨(upd (upd r3 10 ((r3 10) + 1)) 8 1), rfl, hF, ⟨by rw [ht]; exact hP, hD⟩⟩, hS.F ht⟩) hS.2.2 dX3_layAt_59
      · have hF := hF.trans (if_neg c_4)
        exact W.vret hx hb hr (fun t ht hW => ⟨⟨(upd r3 10 ((r3 10) + 1)), rfl, hF, ⟨by rw [ht]; exact hP, hD⟩⟩, hS.F ht⟩) hS.2.2 dX3_layAt_46
    · have hF := hF.trans (if_neg c_2)
      exact W.vret hx hb hr (fun t ht hW => ⟨⟨r, rfl, hF, ⟨by rw [ht]; exact hP, hD⟩⟩, hS.F ht⟩) hS.2.2 dX3_layAt_12

def f_X3_moveGap (r : gR) : gR :=
    gLet (f_X3_layAt r (r 3)) (fun (u2 : gR) =>
    if (u2 3) ≤ 0 then
      if (u2 0) ≤ ((u2 2) + 1) then
        (upd (upd (upd (upd u2 3 (u2 0)) 2 0) 6 ((u2 6) + 1)) 7 0)
      else
        (upd (upd (upd (upd u2 3 (u2 0)) 2 ((u2 2) + 1)) 6 ((u2 6) + 1)) 7 0)
    else
      (upd (upd (upd u2 3 ((u2 3) - 1)) 6 ((u2 6) + 1)) 7 0))
theorem f_X3_moveGap_s (r : gR) : f_X3_moveGap r =
    (gLet (f_X3_layAt r (r 3)) (fun (u2 : gR) =>
    if (u2 3) ≤ 0 then
      if (u2 0) ≤ ((u2 2) + 1) then
        (upd (upd (upd (upd u2 3 (u2 0)) 2 0) 6 ((u2 6) + 1)) 7 0)
      else
        (upd (upd (upd (upd u2 3 (u2 0)) 2 ((u2 2) + 1)) 6 ((u2 6) + 1)) 7 0)
    else
      (upd (upd (upd u2 3 ((u2 3) - 1)) 6 ((u2 6) + 1)) 7 0))) := rfl
theorem ok_X3_moveGap (r : gR) (ho : okC r) : okC (f_X3_moveGap r) := by
  unfold f_X3_moveGap
  refine gLet_i (P := fun z : gR => okC z) (fun u2 eu2 => ?_)
  have ok_u2 : okC u2 := by rw [← eu2]; exact (ok_X3_layAt _ _ ho)
  refine gIf_i (P := fun z : gR => okC z) (fun _ => ?_) (fun _ => ?_)
  · refine gIf_i (P := fun z : gR => okC z) (fun _ => ?_) (fun _ => ?_)
    · exact (show okC (upd (upd (upd (upd u2 3 (u2 0)) 2 0) 6 ((u2 6) + 1)) 7 0) from (ok_upd (by omega) (ok_upd (by omega) (ok_upd (by omega) (ok_upd (by omega) ok_u2)))))
    · exact (show okC (upd (upd (upd (upd u2 3 (u2 0)) 2 ((u2 2) + 1)) 6 ((u2 6) + 1)) 7 0) from (ok_upd (by omega) (ok_upd (by omega) (ok_upd (by omega) (ok_upd (by omega) ok_u2)))))
  · exact (show okC (upd (upd (upd u2 3 ((u2 3) - 1)) 6 ((u2 6) + 1)) 7 0) from (ok_upd (by omega) (ok_upd (by omega) (ok_upd (by omega) ok_u2))))
theorem z_X3_moveGap (r : gR) : (f_X3_moveGap r) 0 = r 0 := by
  unfold f_X3_moveGap
  refine gLet_i (P := fun z : gR => z 0 = r 0) (fun u2 eu2 => ?_)
  have ok_u2 : u2 0 = r 0 := by rw [← eu2]; exact ((z_X3_layAt _ _ ).trans rfl)
  refine gIf_i (P := fun z : gR => z 0 = r 0) (fun _ => ?_) (fun _ => ?_)
  · refine gIf_i (P := fun z : gR => z 0 = r 0) (fun _ => ?_) (fun _ => ?_)
    · exact (show (upd (upd (upd (upd u2 3 (u2 0)) 2 0) 6 ((u2 6) + 1)) 7 0) 0 = r 0 from ((upd_ne (by omega)).trans ((upd_ne (by omega)).trans ((upd_ne (by omega)).trans ((upd_ne (by omega)).trans ok_u2)))))
    · exact (show (upd (upd (upd (upd u2 3 (u2 0)) 2 ((u2 2) + 1)) 6 ((u2 6) + 1)) 7 0) 0 = r 0 from ((upd_ne (by omega)).trans ((upd_ne (by omega)).trans ((upd_ne (by omega)).trans ((upd_ne (by omega)).trans ok_u2)))))
  · exact (show (upd (upd (upd u2 3 ((u2 3) - 1)) 6 ((u2 6) + 1)) 7 0) 0 = r 0 from ((upd_ne (by omega)).trans ((upd_ne (by omega)).trans ((upd_ne (by omega)).trans ok_u2))))
theorem hd_X3_moveGap : yX3_moveGap.cls = RX3 ∧ yX3_moveGap.cls ≠ "java/lang/invoke/MethodHandle" ∧ yX3_moveGap.cls ≠ "java/lang/invoke/VarHandle" ∧ (parseMethodDescriptor yX3_moveGap.desc).map (fun d => d.parameters.length) = some 0 := by decide +kernel
set_option maxHeartbeats 4000000 in
set_option maxRecDepth 100000 in
theorem c_X3_moveGap (l : Launch) (D : va_G) (y : Nat → ClassId) (a0 a1 a2 : Nat) (zh : Nat) (r : gR) (ho : okC r) : Met l yX3_moveGap wsX3_moveGap ({ frames := 1, cells := 0, slots := 0, locals := 21 }) (gP D y [.ref a0] zh [(a0, soF a1 a2 r), (a1, soV y r), (a2, soW y r)]) (va_Qv (fun u : gR => f_X3_moveGap r = u) (fun (u : gR) t => va_P D vwCl [(a0, soF a1 a2 u), (a1, soV y u), (a2, soW y u)] t.heap ∧ va_D (va_A [(a0, soF a1 a2 r), (a1, soV y r), (a2, soW y r)] zh) [(a0, soF a1 a2 u), (a1, soV y u), (a2, soW y u)]) (va_A [(a0, soF a1 a2 r), (a1, soV y r), (a2, soW y r)] zh)) 0 0 (va_A [(a0, soF a1 a2 r), (a1, soV y r), (a2, soW y r)] zh) := by
  refine Met.ofW (cc := cX3_moveGap) (maxL := 1) (ret := none) (by decide) rfl ?_
  intro p e s m args below meth c s₁ B hml hv
  obtain ⟨rfl, hsz, hP, hE, hD⟩ := hv
  have hx := B.exec
  have hb := B.bytes
  have hr := B.returns
  have hts := atoms_spec (ws := wsX3_moveGap) B.pre
  have hown : s.vm.findClass RX3 = some m.cls := findClass_of_methodNamed B.named
  have hlocks := B.notSynchronized
  have w_0 := hts (.fieldLink RX3 34 "GapLines$State" "gap" "I") (List.mem_cons_of_mem _ (List.mem_append_left _ (List.mem_of_getElem? (i := 0) rfl)))
  have hi3 : ∀ w ∈ u_ws RX3 TX3 15, w ∈ wsX3_moveGap := fun w h => (List.mem_cons_of_mem _ (List.mem_append_right _ h))
  have w_2 := hts (.fieldLink RX3 25 "GapLines$State" "lines" "I") (List.mem_cons_of_mem _ (List.mem_append_left _ (List.mem_of_getElem? (i := 1) rfl)))
  have w_3 := hts (.fieldLink RX3 31 "GapLines$State" "start" "I") (List.mem_cons_of_mem _ (List.mem_append_left _ (List.mem_of_getElem? (i := 2) rfl)))
  have w_4 := hts (.fieldLink RX3 43 "GapLines$State" "moves" "I") (List.mem_cons_of_mem _ (List.mem_append_left _ (List.mem_of_getElem? (i := 3) rfl)))
  have w_5 := hts (.fieldLink RX3 46 "GapLines$State" "writesSinceMove" "I") (List.mem_cons_of_mem _ (List.mem_append_left _ (List.mem_of_getElem? (i := 4) rfl)))
  subst hsz
  have hD := hD.self (sz := s.heap.size)
  generalize hAe : va_A [(a0, soF a1 a2 r), (a1, soV y r), (a2, soW y r)] s.heap.size = A at hD ⊢
  have hA : ∀ q : Nat, s.heap.size ≤ q → A q := fun q h => by rw [← hAe]; exact Or.inr h
  have hS : va_S A s.heap s.heap [] := va_S.rf
  have hl := lv_entry ([.ref a0]) (n := 1) (Nat.le_of_ble_eq_true rfl)
  rw [lg_entry_eq]
  generalize (lg_sl ([.ref a0]) ++ List.replicate (1 - (lg_sl ([.ref a0])).length) Slot.unset).toArray = ls at hl ⊢
  have hl : lv_has ls 1 [(0, .ref a0)] := hl
  have hF := f_X3_moveGap_s r
  refine lv_aload_n hx hb dX3_moveGap_0 rfl (lv_at hl 0 rfl) ?_
  refine lv_aload_n hx hb dX3_moveGap_1 rfl (lv_at hl 0 rfl) ?_
  refine va_get (D := D) (ci := 2) (v := .int (r 3)) (C := RX3) (T := TX3) (N := 15) hx hb hts hi3 hown hE.1 hP 0 rfl rfl 3 (by decide) w_0 (fun _ h9 => h9) rfl dX3_moveGap_2 ?_
  refine xw_callv (va_runV (As := [.int (r 3)]) (rest := []) ⟨hx, hb, hml, hown, hts⟩ (c_X3_layAt l D y a0 a1 a2 s.heap.size r (r 3) ho) (cwV 1 hts gX3_moveGap_X3_layAt rfl rfl rfl hd_X3_layAt ⟨Nat.le_of_ble_eq_true rfl, Nat.le_of_ble_eq_true rfl⟩) (gV (q := (RX3, TX3, 15)) hE hP hD 0 rfl rfl) rfl rfl hl.1 rfl (lv_room (Nat.le_of_ble_eq_true rfl)) dX3_moveGap_5 ⟨Nat.le_of_ble_eq_true rfl, Nat.le_of_ble_eq_true rfl⟩) hP hD hS hA [0, 1, 2] rfl (by decide) (fun _ => rfl) (fun u2 H locs h1 hP hD hS => ?_)
  have hF := hF.trans (gLet_e h1)
  have hP : va_P D vwCl [(a0, soF a1 a2 u2), (a1, soV y u2), (a2, soW y u2)] H := hP
  have hD : va_D A [(a0, soF a1 a2 u2), (a1, soV y u2), (a2, soW y u2)] := hD
  refine lv_aload_n hx hb dX3_moveGap_8 rfl (lv_at hl 0 rfl) ?_
  refine va_get (D := D) (ci := 2) (v := .int (u2 3)) (C := RX3) (T := TX3) (N := 15) hx hb hts hi3 hown hE.1 hP 0 rfl rfl 3 (by decide) w_0 (fun _ h9 => h9) rfl dX3_moveGap_9 ?_
  refine lv_if_le (tgt := 28) hx hb dX3_moveGap_12 (by decide) (fun c_3 => ?_) (fun c_3 => ?_)
  · have hF := hF.trans (if_pos c_3)
    refine lv_aload_n hx hb dX3_moveGap_28 rfl (lv_at hl 0 rfl) ?_
    refine lv_aload_n hx hb dX3_moveGap_29 rfl (lv_at hl 0 rfl) ?_
    refine va_get (D := D) (ci := 2) (v := .int (u2 0)) (C := RX3) (T := TX3) (N := 15) hx hb hts hi3 hown hE.1 hP 0 rfl rfl 0 (by decide) w_2 (fun _ h9 => h9) rfl dX3_moveGap_30 ?_
    refine va_put (D := D) (ci := 2) (v := .int (u2 0)) (ty := .int) (C := RX3) (T := TX3) (N := 15) hx hb hts hi3 tyX3 tyX3_ok nmX3 hown hE.1 hP hD hS 0 rfl rfl 3 (by decide) w_0 (fun _ h9 => h9) rfl (by decide +kernel) rfl rfl (Nat.le_of_ble_eq_true rfl) dX3_moveGap_33 (fun H locs hP hD hS => ?_)
    obtain ⟨hP, hD⟩ := so_put (r := u2) (x := (u2 0)) 3 (by decide) (by rfl) hP hD
    refine lv_aload_n hx hb dX3_moveGap_36 rfl (lv_at hl 0 rfl) ?_
    refine lv_aload_n hx hb dX3_moveGap_37 rfl (lv_at hl 0 rfl) ?_
    refine va_get (D := D) (ci := 2) (v := .int (u2 2)) (C := RX3) (T := TX3) (N := 15) hx hb hts hi3 hown hE.1 hP 0 rfl rfl 2 (by decide) w_3 (fun _ h9 => h9) rfl dX3_moveGap_38 ?_
    refine lv_iconst (v := 1) hx hb dX3_moveGap_41 (by decide) ?_
    refine lv_iadd hx hb dX3_moveGap_42 ?_
    refine lv_aload_n hx hb dX3_moveGap_43 rfl (lv_at hl 0 rfl) ?_
    refine va_get (D := D) (ci := 2) (v := .int (u2 0)) (C := RX3) (T := TX3) (N := 15) hx hb hts hi3 hown hE.1 hP 0 rfl rfl 0 (by decide) w_2 (fun _ h9 => h9) rfl dX3_moveGap_44 ?_
    refine lv_icmp_ge (tgt := 59) hx hb dX3_moveGap_47 (by decide) (fun c_4 => ?_) (fun c_4 => ?_)
    · have hF := hF.trans (if_pos c_4)
      refine lv_iconst (v := 0) hx hb dX3_moveGap_59 (by decide) ?_
      refine va_put (D := D) (ci := 2) (v := .int 0) (ty := .int) (C := RX3) (T := TX3) (N := 15) hx hb hts hi3 tyX3 tyX3_ok nmX3 hown hE.1 hP hD hS 0 rfl rfl 2 (by decide) w_3 (fun _ h9 => h9) rfl (by decide +kernel) rfl rfl (Nat.le_of_ble_eq_true rfl) dX3_moveGap_60 (fun H locs hP hD hS => ?_)
      obtain ⟨hP, hD⟩ := so_put (r := (upd u2 3 (u2 0))) (x := 0) 2 (by decide) (by rfl) hP hD
      refine lv_aload_n hx hb dX3_moveGap_63 rfl (lv_at hl 0 rfl) ?_
      refine lv_dup hx hb dX3_moveGap_64 rfl ?_
      refine va_get (D := D) (ci := 2) (v := .int (u2 6)) (C := RX3) (T := TX3) (N := 15) hx hb hts hi3 hown hE.1 hP 0 rfl rfl 6 (by decide) w_4 (fun _ h9 => h9) rfl dX3_moveGap_65 ?_
      refine lv_iconst (v := 1) hx hb dX3_moveGap_68 (by decide) ?_
      refine lv_iadd hx hb dX3_moveGap_69 ?_
      refine va_put (D := D) (ci := 2) (v := .int ((u2 6) + 1)) (ty := .int) (C := RX3) (T := TX3) (N := 15) hx hb hts hi3 tyX3 tyX3_ok nmX3 hown hE.1 hP hD hS 0 rfl rfl 6 (by decide) w_4 (fun _ h9 => h9) rfl (by decide +kernel) rfl rfl (Nat.le_of_ble_eq_true rfl) dX3_moveGap_70 (fun H locs hP hD hS => ?_)
      obtain ⟨hP, hD⟩ := so_put (r := (upd (upd u2 3 (u2 0)) 2 0)) (x := ((u2 6) + 1)) 6 (by decide) (by rfl) hP hD
      refine lv_aload_n hx hb dX3_moveGap_73 rfl (lv_at hl 0 rfl) ?_
      refine lv_iconst (v := 0) hx hb dX3_moveGap_74 (by decide) ?_
      refine va_put (D := D) (ci := 2) (v := .int 0) (ty := .int) (C := RX3) (T := TX3) (N := 15) hx hb hts hi3 tyX3 tyX3_ok nmX3 hown hE.1 hP hD hS 0 rfl rfl 7 (by decide) w_5 (fun _ h9 => h9) rfl (by decide +kernel) rfl rfl (Nat.le_of_ble_eq_true rfl) dX3_moveGap_75 (fun H locs hP hD hS => ?_)
      obtain ⟨hP, hD⟩ := so_put (r := (upd (upd (upd u2 3 (u2 0)) 2 0) 6 ((u2 6) + 1))) (x := 0) 7 (by decide) (by rfl) hP hD
      exact W.vret hx hb hr (fun t ht hW => ⟨⟨(upd (upd (upd (upd u2 3 (u2 0)) 2 0) 6 ((u2 6) + 1)) 7 0), rfl, hF, ⟨by rw [ht]; exact hP, hD⟩⟩, hS.F ht⟩) hS.2.2 dX3_moveGap_78
    · have hF := hF.trans (if_neg c_4)
      refine lv_aload_n hx hb dX3_moveGap_50 rfl (lv_at hl 0 rfl) ?_
      refine va_get (D := D) (ci := 2) (v := .int (u2 2)) (C := RX3) (T := TX3) (N := 15) hx hb hts hi3 hown hE.1 hP 0 rfl rfl 2 (by decide) w_3 (fun _ h9 => h9) rfl dX3_moveGap_51 ?_
      refine lv_iconst (v := 1) hx hb dX3_moveGap_54 (by decide) ?_
      refine lv_iadd hx hb dX3_moveGap_55 ?_
      refine lv_goto (tgt := 60) hx hb dX3_moveGap_56 (by decide) ?_
      refine va_put (D := D) (ci := 2) (v := .int ((u2 2) + 1)) (ty := .int) (C := RX3) (T := TX3) (N := 15) hx hb hts hi3 tyX3 tyX3_ok nmX3 hown hE.1 hP hD hS 0 rfl rfl 2 (by decide) w_3 (fun _ h9 => h9) rfl (by decide +kernel) rfl rfl (Nat.le_of_ble_eq_true rfl) dX3_moveGap_60 (fun H locs hP hD hS => ?_)
      obtain ⟨hP, hD⟩ := so_put (r := (upd u2 3 (u2 0))) (x := ((u2 2) + 1)) 2 (by decide) (by rfl) hP hD
      refine lv_aload_n hx hb dX3_moveGap_63 rfl (lv_at hl 0 rfl) ?_
      refine lv_dup hx hb dX3_moveGap_64 rfl ?_
      refine va_get (D := D) (ci := 2) (v := .int (u2 6)) (C := RX3) (T := TX3) (N := 15) hx hb hts hi3 hown hE.1 hP 0 rfl rfl 6 (by decide) w_4 (fun _ h9 => h9) rfl dX3_moveGap_65 ?_
      refine lv_iconst (v := 1) hx hb dX3_moveGap_68 (by decide) ?_
      refine lv_iadd hx hb dX3_moveGap_69 ?_
      refine va_put (D := D) (ci := 2) (v := .int ((u2 6) + 1)) (ty := .int) (C := RX3) (T := TX3) (N := 15) hx hb hts hi3 tyX3 tyX3_ok nmX3 hown hE.1 hP hD hS 0 rfl rfl 6 (by decide) w_4 (fun _ h9 => h9) rfl (by decide +kernel) rfl rfl (Nat.le_of_ble_eq_true rfl) dX3_moveGap_70 (fun H locs hP hD hS => ?_)
      obtain ⟨hP, hD⟩ := so_put (r := (upd (upd u2 3 (u2 0)) 2 ((u2 2) + 1))) (x := ((u2 6) + 1)) 6 (by decide) (by rfl) hP hD
      refine lv_aload_n hx hb dX3_moveGap_73 rfl (lv_at hl 0 rfl) ?_
      refine lv_iconst (v := 0) hx hb dX3_moveGap_74 (by decide) ?_
      refine va_put (D := D) (ci := 2) (v := .int 0) (ty := .int) (C := RX3) (T := TX3) (N := 15) hx hb hts hi3 tyX3 tyX3_ok nmX3 hown hE.1 hP hD hS 0 rfl rfl 7 (by decide) w_5 (fun _ h9 => h9) rfl (by decide +kernel) rfl rfl (Nat.le_of_ble_eq_true rfl) dX3_moveGap_75 (fun H locs hP hD hS => ?_)
      obtain ⟨hP, hD⟩ := so_put (r := (upd (upd (upd u2 3 (u2 0)) 2 ((u2 2) + 1)) 6 ((u2 6) + 1))) (x := 0) 7 (by decide) (by rfl) hP hD
      exact W.vret hx hb hr (fun t ht hW => ⟨⟨(upd (upd (upd (upd u2 3 (u2 0)) 2 ((u2 2) + 1)) 6 ((u2 6) + 1)) 7 0), rfl, hF, ⟨by rw [ht]; exact hP, hD⟩⟩, hS.F ht⟩) hS.2.2 dX3_moveGap_78
  · have hF := hF.trans (if_neg c_3)
    refine lv_aload_n hx hb dX3_moveGap_15 rfl (lv_at hl 0 rfl) ?_
    refine lv_dup hx hb dX3_moveGap_16 rfl ?_
    refine va_get (D := D) (ci := 2) (v := .int (u2 3)) (C := RX3) (T := TX3) (N := 15) hx hb hts hi3 hown hE.1 hP 0 rfl rfl 3 (by decide) w_0 (fun _ h9 => h9) rfl dX3_moveGap_17 ?_
    refine lv_iconst (v := 1) hx hb dX3_moveGap_20 (by decide) ?_
    refine lv_isub hx hb dX3_moveGap_21 ?_
    refine va_put (D := D) (ci := 2) (v := .int ((u2 3) - 1)) (ty := .int) (C := RX3) (T := TX3) (N := 15) hx hb hts hi3 tyX3 tyX3_ok nmX3 hown hE.1 hP hD hS 0 rfl rfl 3 (by decide) w_0 (fun _ h9 => h9) rfl (by decide +kernel) rfl rfl (Nat.le_of_ble_eq_true rfl) dX3_moveGap_22 (fun H locs hP hD hS => ?_)
    obtain ⟨hP, hD⟩ := so_put (r := u2) (x := ((u2 3) - 1)) 3 (by decide) (by rfl) hP hD
    refine lv_goto (tgt := 63) hx hb dX3_moveGap_25 (by decide) ?_
    refine lv_aload_n hx hb dX3_moveGap_63 rfl (lv_at hl 0 rfl) ?_
    refine lv_dup hx hb dX3_moveGap_64 rfl ?_
    refine va_get (D := D) (ci := 2) (v := .int (u2 6)) (C := RX3) (T := TX3) (N := 15) hx hb hts hi3 hown hE.1 hP 0 rfl rfl 6 (by decide) w_4 (fun _ h9 => h9) rfl dX3_moveGap_65 ?_
    refine lv_iconst (v := 1) hx hb dX3_moveGap_68 (by decide) ?_
    refine lv_iadd hx hb dX3_moveGap_69 ?_
    refine va_put (D := D) (ci := 2) (v := .int ((u2 6) + 1)) (ty := .int) (C := RX3) (T := TX3) (N := 15) hx hb hts hi3 tyX3 tyX3_ok nmX3 hown hE.1 hP hD hS 0 rfl rfl 6 (by decide) w_4 (fun _ h9 => h9) rfl (by decide +kernel) rfl rfl (Nat.le_of_ble_eq_true rfl) dX3_moveGap_70 (fun H locs hP hD hS => ?_)
    obtain ⟨hP, hD⟩ := so_put (r := (upd u2 3 ((u2 3) - 1))) (x := ((u2 6) + 1)) 6 (by decide) (by rfl) hP hD
    refine lv_aload_n hx hb dX3_moveGap_73 rfl (lv_at hl 0 rfl) ?_
    refine lv_iconst (v := 0) hx hb dX3_moveGap_74 (by decide) ?_
    refine va_put (D := D) (ci := 2) (v := .int 0) (ty := .int) (C := RX3) (T := TX3) (N := 15) hx hb hts hi3 tyX3 tyX3_ok nmX3 hown hE.1 hP hD hS 0 rfl rfl 7 (by decide) w_5 (fun _ h9 => h9) rfl (by decide +kernel) rfl rfl (Nat.le_of_ble_eq_true rfl) dX3_moveGap_75 (fun H locs hP hD hS => ?_)
    obtain ⟨hP, hD⟩ := so_put (r := (upd (upd u2 3 ((u2 3) - 1)) 6 ((u2 6) + 1))) (x := 0) 7 (by decide) (by rfl) hP hD
    exact W.vret hx hb hr (fun t ht hW => ⟨⟨(upd (upd (upd u2 3 ((u2 3) - 1)) 6 ((u2 6) + 1)) 7 0), rfl, hF, ⟨by rw [ht]; exact hP, hD⟩⟩, hS.F ht⟩) hS.2.2 dX3_moveGap_78

def f_X3_writeLine (r : gR) (p0 : Int32) (p1 : Int32) : Int32 × gR :=
    gLet (f_X3_hasLine r p0) (fun (v2 : Int32) =>
    if v2 = 0 then
      ((-1), r)
    else
      gLet (upd r (13 + p0.toNatClampNeg) p1) (fun (r4 : gR) =>
        gLet (f_X3_placeOf r4 p0) (fun (v6 : Int32) =>
          gLet (f_X3_layAt r4 v6) (fun (u8 : gR) =>
            if (u8 8) = 0 then
              if ((u8 7) + 1) < (u8 12) then
                ((r (13 + p0.toNatClampNeg)), (upd (upd u8 5 ((u8 5) + 1)) 7 ((u8 7) + 1)))
              else
                gLet (f_X3_moveGap (upd (upd u8 5 ((u8 5) + 1)) 7 ((u8 7) + 1))) (fun (u12 : gR) =>
                  ((r (13 + p0.toNatClampNeg)), u12))
            else
              ((r (13 + p0.toNatClampNeg)), (upd (upd u8 5 ((u8 5) + 1)) 7 ((u8 7) + 1)))))))
theorem f_X3_writeLine_s (r : gR) (p0 : Int32) (p1 : Int32) : f_X3_writeLine r p0 p1 =
    (gLet (f_X3_hasLine r p0) (fun (v2 : Int32) =>
    if v2 = 0 then
      ((-1), r)
    else
      gLet (upd r (13 + p0.toNatClampNeg) p1) (fun (r4 : gR) =>
        gLet (f_X3_placeOf r4 p0) (fun (v6 : Int32) =>
          gLet (f_X3_layAt r4 v6) (fun (u8 : gR) =>
            if (u8 8) = 0 then
              if ((u8 7) + 1) < (u8 12) then
                ((r (13 + p0.toNatClampNeg)), (upd (upd u8 5 ((u8 5) + 1)) 7 ((u8 7) + 1)))
              else
                gLet (f_X3_moveGap (upd (upd u8 5 ((u8 5) + 1)) 7 ((u8 7) + 1))) (fun (u12 : gR) =>
                  ((r (13 + p0.toNatClampNeg)), u12))
            else
              ((r (13 + p0.toNatClampNeg)), (upd (upd u8 5 ((u8 5) + 1)) 7 ((u8 7) + 1)))))))) := rfl
theorem ok_X3_writeLine (r : gR) (p0 : Int32) (p1 : Int32) (ho : okC r) : okC (f_X3_writeLine r p0 p1).2 := by
  unfold f_X3_writeLine
  refine gLet_i (P := fun z : Int32 × gR => okC z.2) (fun v2 ev2 => ?_)
  refine gIf_i (P := fun z : Int32 × gR => okC z.2) (fun _ => ?_) (fun _ => ?_)
  · exact (show okC (r) from ho)
  · refine gLet_i (P := fun z : Int32 × gR => okC z.2) (fun r4 er4 => ?_)
    have ok_r4 : okC r4 := by rw [← er4]; exact (ok_upd (by omega) ho)
    refine gLet_i (P := fun z : Int32 × gR => okC z.2) (fun v6 ev6 => ?_)
    refine gLet_i (P := fun z : Int32 × gR => okC z.2) (fun u8 eu8 => ?_)
    have ok_u8 : okC u8 := by rw [← eu8]; exact (ok_X3_layAt _ _ ok_r4)
    refine gIf_i (P := fun z : Int32 × gR => okC z.2) (fun _ => ?_) (fun _ => ?_)
    · refine gIf_i (P := fun z : Int32 × gR => okC z.2) (fun _ => ?_) (fun _ => ?_)
      · exact (show okC ((upd (upd u8 5 ((u8 5) + 1)) 7 ((u8 7) + 1))) from (ok_upd (by omega) (ok_upd (by omega) ok_u8)))
      · refine gLet_i (P := fun z : Int32 × gR => okC z.2) (fun u12 eu12 => ?_)
        have ok_u12 : okC u12 := by rw [← eu12]; exact (ok_X3_moveGap _ (ok_upd (by omega) (ok_upd (by omega) ok_u8)))
        exact (show okC (u12) from ok_u12)
    · exact (show okC ((upd (upd u8 5 ((u8 5) + 1)) 7 ((u8 7) + 1))) from (ok_upd (by omega) (ok_upd (by omega) ok_u8)))
theorem z_X3_writeLine (r : gR) (p0 : Int32) (p1 : Int32) : (f_X3_writeLine r p0 p1).2 0 = r 0 := by
  unfold f_X3_writeLine
  refine gLet_i (P := fun z : Int32 × gR => z.2 0 = r 0) (fun v2 ev2 => ?_)
  refine gIf_i (P := fun z : Int32 × gR => z.2 0 = r 0) (fun _ => ?_) (fun _ => ?_)
  · exact (show (r) 0 = r 0 from rfl)
  · refine gLet_i (P := fun z : Int32 × gR => z.2 0 = r 0) (fun r4 er4 => ?_)
    have ok_r4 : r4 0 = r 0 := by rw [← er4]; exact ((upd_ne (by omega)).trans rfl)
    refine gLet_i (P := fun z : Int32 × gR => z.2 0 = r 0) (fun v6 ev6 => ?_)
    refine gLet_i (P := fun z : Int32 × gR => z.2 0 = r 0) (fun u8 eu8 => ?_)
    have ok_u8 : u8 0 = r 0 := by rw [← eu8]; exact ((z_X3_layAt _ _ ).trans ok_r4)
    refine gIf_i (P := fun z : Int32 × gR => z.2 0 = r 0) (fun _ => ?_) (fun _ => ?_)
    · refine gIf_i (P := fun z : Int32 × gR => z.2 0 = r 0) (fun _ => ?_) (fun _ => ?_)
      · exact (show ((upd (upd u8 5 ((u8 5) + 1)) 7 ((u8 7) + 1))) 0 = r 0 from ((upd_ne (by omega)).trans ((upd_ne (by omega)).trans ok_u8)))
      · refine gLet_i (P := fun z : Int32 × gR => z.2 0 = r 0) (fun u12 eu12 => ?_)
        have ok_u12 : u12 0 = r 0 := by rw [← eu12]; exact ((z_X3_moveGap _ ).trans ((upd_ne (by omega)).trans ((upd_ne (by omega)).trans ok_u8)))
        exact (show (u12) 0 = r 0 from ok_u12)
    · exact (show ((upd (upd u8 5 ((u8 5) + 1)) 7 ((u8 7) + 1))) 0 = r 0 from ((upd_ne (by omega)).trans ((upd_ne (by omega)).trans ok_u8)))
theorem hd_X3_writeLine : yX3_writeLine.cls = RX3 ∧ yX3_writeLine.cls ≠ "java/lang/invoke/MethodHandle" ∧ yX3_writeLine.cls ≠ "java/lang/invoke/VarHandle" ∧ (parseMethodDescriptor yX3_writeLine.desc).map (fun d => d.parameters.length) = some 2 := by decide +kernel
set_option maxHeartbeats 4000000 in
set_option maxRecDepth 100000 in
theorem c_X3_writeLine (l : Launch) (D : va_G) (y : Nat → ClassId) (a0 a1 a2 : Nat) (zh : Nat) (r : gR) (p0 : Int32) (p1 : Int32) (ho : okC r) : Met l yX3_writeLine wsX3_writeLine ({ frames := 2, cells := 0, slots := 0, locals := 44 }) (gP D y [.ref a0, .int p0, .int p1] zh [(a0, soF a1 a2 r), (a1, soV y r), (a2, soW y r)]) (va_Qi (fun (v : Int32) (u : gR) => f_X3_writeLine r p0 p1 = (v, u)) (fun (u : gR) t => va_P D vwCl [(a0, soF a1 a2 u), (a1, soV y u), (a2, soW y u)] t.heap ∧ va_D (va_A [(a0, soF a1 a2 r), (a1, soV y r), (a2, soW y r)] zh) [(a0, soF a1 a2 u), (a1, soV y u), (a2, soW y u)]) (va_A [(a0, soF a1 a2 r), (a1, soV y r), (a2, soW y r)] zh)) 0 0 (va_A [(a0, soF a1 a2 r), (a1, soV y r), (a2, soW y r)] zh) := by
  refine Met.ofW (cc := cX3_writeLine) (maxL := 4) (ret := (some .int)) (by decide) rfl ?_
  intro p e s m args below meth c s₁ B hml hv
  obtain ⟨rfl, hsz, hP, hE, hD⟩ := hv
  have hx := B.exec
  have hb := B.bytes
  have hr := B.returns
  have hts := atoms_spec (ws := wsX3_writeLine) B.pre
  have hown : s.vm.findClass RX3 = some m.cls := findClass_of_methodNamed B.named
  have hlocks := B.notSynchronized
  have w_0 := hts (.fieldLink RX3 18 "GapLines$State" "values" "[I") (List.mem_cons_of_mem _ (List.mem_append_left _ (List.mem_append_left _ (List.mem_of_getElem? (i := 0) rfl))))
  have hi3 : ∀ w ∈ u_ws RX3 TX3 15, w ∈ wsX3_writeLine := fun w h => (List.mem_cons_of_mem _ (List.mem_append_right _ h))
  have w_2 := hts (.fieldLink RX3 40 "GapLines$State" "writes" "I") (List.mem_cons_of_mem _ (List.mem_append_left _ (List.mem_append_left _ (List.mem_of_getElem? (i := 1) rfl))))
  have w_3 := hts (.fieldLink RX3 46 "GapLines$State" "writesSinceMove" "I") (List.mem_cons_of_mem _ (List.mem_append_left _ (List.mem_append_left _ (List.mem_of_getElem? (i := 2) rfl))))
  have w_4 := hts (.fieldLink RX3 55 "GapLines$State" "dead" "Z") (List.mem_cons_of_mem _ (List.mem_append_left _ (List.mem_append_left _ (List.mem_of_getElem? (i := 3) rfl))))
  have w_5 := hts (.fieldLink RX3 15 "GapLines$State" "every" "I") (List.mem_cons_of_mem _ (List.mem_append_left _ (List.mem_append_left _ (List.mem_of_getElem? (i := 4) rfl))))
  subst hsz
  have hD := hD.self (sz := s.heap.size)
  generalize hAe : va_A [(a0, soF a1 a2 r), (a1, soV y r), (a2, soW y r)] s.heap.size = A at hD ⊢
  have hA : ∀ q : Nat, s.heap.size ≤ q → A q := fun q h => by rw [← hAe]; exact Or.inr h
  have hS : va_S A s.heap s.heap [] := va_S.rf
  have hl := lv_entry ([.ref a0, .int p0, .int p1]) (n := 4) (Nat.le_of_ble_eq_true rfl)
  rw [lg_entry_eq]
  generalize (lg_sl ([.ref a0, .int p0, .int p1]) ++ List.replicate (4 - (lg_sl ([.ref a0, .int p0, .int p1])).length) Slot.unset).toArray = ls at hl ⊢
  have hl : lv_has ls 4 [(0, .ref a0), (1, .int p0), (2, .int p1)] := hl
  have hF := f_X3_writeLine_s r p0 p1
  refine lv_aload_n hx hb dX3_writeLine_0 rfl (lv_at hl 0 rfl) ?_
  refine lv_iload_n hx hb dX3_writeLine_1 rfl (lv_at hl 1 rfl) ?_
  refine xs_calli (va_runV (As := [.int p0]) (rest := []) ⟨hx, hb, hml, hown, hts⟩ (c_X3_hasLine l D y a0 a1 a2 s.heap.size r p0) (cwV 1 hts gX3_writeLine_X3_hasLine rfl rfl rfl hd_X3_hasLine ⟨Nat.le_of_ble_eq_true rfl, Nat.le_of_ble_eq_true rfl⟩) (gV (q := (RX3, TX3, 15)) hE hP hD 0 rfl rfl) rfl rfl hl.1 rfl (lv_room (Nat.le_of_ble_eq_true rfl)) dX3_writeLine_2 ⟨Nat.le_of_ble_eq_true rfl, Nat.le_of_ble_eq_true rfl⟩) (fun v2 h1 => ?_)
  have hF := hF.trans (gLet_e h1)
  refine lv_if_ne (tgt := 10) hx hb dX3_writeLine_5 (by decide) (fun c_3 => ?_) (fun c_3 => ?_)
  · have hF := hF.trans (if_neg c_3)
    refine lv_aload_n hx hb dX3_writeLine_10 rfl (lv_at hl 0 rfl) ?_
    refine va_get (D := D) (ci := 2) (v := .ref a1) (C := RX3) (T := TX3) (N := 15) hx hb hts hi3 hown hE.1 hP 0 rfl rfl 13 (by decide) w_0 (fun _ h9 => h9) rfl dX3_writeLine_11 ?_
    refine lv_iload_n hx hb dX3_writeLine_14 rfl (lv_at hl 1 rfl) ?_
    refine xa_iald (k := p0.toNatClampNeg) (v := r (13 + p0.toNatClampNeg)) hx hb hE.1 hP 1 0 rfl rfl (hl_in ho (by assumption) (by assumption)) rfl rfl dX3_writeLine_15 ?_
    refine lv_istore_n (lv' := [(3, .int (r (13 + p0.toNatClampNeg))), (0, .ref a0), (1, .int p0), (2, .int p1)]) hx hb dX3_writeLine_16 rfl hl (by decide) rfl (fun ls hl => ?_)
    refine lv_aload_n hx hb dX3_writeLine_17 rfl (lv_at hl 1 rfl) ?_
    refine va_get (D := D) (ci := 2) (v := .ref a1) (C := RX3) (T := TX3) (N := 15) hx hb hts hi3 hown hE.1 hP 0 rfl rfl 13 (by decide) w_0 (fun _ h9 => h9) rfl dX3_writeLine_18 ?_
    refine lv_iload_n hx hb dX3_writeLine_21 rfl (lv_at hl 2 rfl) ?_
    refine lv_iload_n hx hb dX3_writeLine_22 rfl (lv_at hl 3 rfl) ?_
    refine xa_iast (k := p0.toNatClampNeg) hx hb hE.1 hP hD hS 1 0 rfl rfl (hl_in ho (by assumption) (by assumption)) rfl dX3_writeLine_23 (fun H locs hP hD hS => ?_)
    obtain ⟨hP, hD⟩ := so_val (r := r) (x := p1) (p0.toNatClampNeg) (vp_lt (hl_in ho (by assumption) (by assumption))) hP hD
    obtain ⟨r4, er4⟩ : ∃ z : gR, upd r (13 + p0.toNatClampNeg) p1 = z := ⟨_, rfl⟩
    have hF := hF.trans (gLet_e er4)
    rw [er4] at hP hD
    refine lv_aload_n hx hb dX3_writeLine_24 rfl (lv_at hl 1 rfl) ?_
    refine lv_aload_n hx hb dX3_writeLine_25 rfl (lv_at hl 1 rfl) ?_
    refine lv_iload_n hx hb dX3_writeLine_26 rfl (lv_at hl 2 rfl) ?_
    refine xs_calli (va_runV (As := [.int p0]) (rest := [.ref a0]) ⟨hx, hb, hml, hown, hts⟩ (c_X3_placeOf l D y a0 a1 a2 H.size r4 p0) (cwV 1 hts gX3_writeLine_X3_placeOf rfl rfl rfl hd_X3_placeOf ⟨Nat.le_of_ble_eq_true rfl, Nat.le_of_ble_eq_true rfl⟩) (gV (q := (RX3, TX3, 15)) hE hP hD 0 rfl rfl) rfl rfl hl.1 rfl (lv_room (Nat.le_of_ble_eq_true rfl)) dX3_writeLine_27 ⟨Nat.le_of_ble_eq_true rfl, Nat.le_of_ble_eq_true rfl⟩) (fun v6 h5 => ?_)
    have hF := hF.trans (gLet_e h5)
    refine xw_callv (va_runV (As := [.int v6]) (rest := []) ⟨hx, hb, hml, hown, hts⟩ (c_X3_layAt l D y a0 a1 a2 H.size r4 v6 (by rw [← er4]; exact (ok_upd (by omega) ho))) (cwV 1 hts gX3_writeLine_X3_layAt rfl rfl rfl hd_X3_layAt ⟨Nat.le_of_ble_eq_true rfl, Nat.le_of_ble_eq_true rfl⟩) (gV (q := (RX3, TX3, 15)) hE hP hD 0 rfl rfl) rfl rfl hl.1 rfl (lv_room (Nat.le_of_ble_eq_true rfl)) dX3_writeLine_30 ⟨Nat.le_of_ble_eq_true rfl, Nat.le_of_ble_eq_true rfl⟩) hP hD hS hA [0, 1, 2] rfl (by decide) (fun _ => rfl) (fun u8 H locs h7 hP hD hS => ?_)
    have hF := hF.trans (gLet_e h7)
    have hP : va_P D vwCl [(a0, soF a1 a2 u8), (a1, soV y u8), (a2, soW y u8)] H := hP
    have hD : va_D A [(a0, soF a1 a2 u8), (a1, soV y u8), (a2, soW y u8)] := hD
    refine lv_aload_n hx hb dX3_writeLine_33 rfl (lv_at hl 1 rfl) ?_
    refine lv_dup hx hb dX3_writeLine_34 rfl ?_
    refine va_get (D := D) (ci := 2) (v := .int (u8 5)) (C := RX3) (T := TX3) (N := 15) hx hb hts hi3 hown hE.1 hP 0 rfl rfl 5 (by decide) w_2 (fun _ h9 => h9) rfl dX3_writeLine_35 ?_
    refine lv_iconst (v := 1) hx hb dX3_writeLine_38 (by decide) ?_
    refine lv_iadd hx hb dX3_writeLine_39 ?_
    refine va_put (D := D) (ci := 2) (v := .int ((u8 5) + 1)) (ty := .int) (C := RX3) (T := TX3) (N := 15) hx hb hts hi3 tyX3 tyX3_ok nmX3 hown hE.1 hP hD hS 0 rfl rfl 5 (by decide) w_2 (fun _ h9 => h9) rfl (by decide +kernel) rfl rfl (Nat.le_of_ble_eq_true rfl) dX3_writeLine_40 (fun H locs hP hD hS => ?_)
    obtain ⟨hP, hD⟩ := so_put (r := u8) (x := ((u8 5) + 1)) 5 (by decide) (by rfl) hP hD
    refine lv_aload_n hx hb dX3_writeLine_43 rfl (lv_at hl 1 rfl) ?_
    refine lv_dup hx hb dX3_writeLine_44 rfl ?_
    refine va_get (D := D) (ci := 2) (v := .int (u8 7)) (C := RX3) (T := TX3) (N := 15) hx hb hts hi3 hown hE.1 hP 0 rfl rfl 7 (by decide) w_3 (fun _ h9 => h9) rfl dX3_writeLine_45 ?_
    refine lv_iconst (v := 1) hx hb dX3_writeLine_48 (by decide) ?_
    refine lv_iadd hx hb dX3_writeLine_49 ?_
    refine va_put (D := D) (ci := 2) (v := .int ((u8 7) + 1)) (ty := .int) (C := RX3) (T := TX3) (N := 15) hx hb hts hi3 tyX3 tyX3_ok nmX3 hown hE.1 hP hD hS 0 rfl rfl 7 (by decide) w_3 (fun _ h9 => h9) rfl (by decide +kernel) rfl rfl (Nat.le_of_ble_eq_true rfl) dX3_writeLine_50 (fun H locs hP hD hS => ?_)
    obtain ⟨hP, hD⟩ := so_put (r := (upd u8 5 ((u8 5) + 1))) (x := ((u8 7) + 1)) 7 (by decide) (by rfl) hP hD
    refine lv_aload_n hx hb dX3_writeLine_53 rfl (lv_at hl 1 rfl) ?_
    refine va_get (D := D) (ci := 2) (v := .int (u8 8)) (C := RX3) (T := TX3) (N := 15) hx hb hts hi3 hown hE.1 hP 0 rfl rfl 10 (by decide) w_4 (fun _ h9 => h9) rfl dX3_writeLine_54 ?_
    refine lv_if_ne (tgt := 75) hx hb dX3_writeLine_57 (by decide) (fun c_9 => ?_) (fun c_9 => ?_)
    · have hF := hF.trans (if_neg c_9)
      refine lv_iload_n hx hb dX3_writeLine_75 rfl (lv_at hl 0 rfl) ?_
      exact W.iret (v := (r (13 + p0.toNatClampNeg))) hx hb hr (fun t ht hW => ⟨⟨(r (13 + p0.toNatClampNeg)), (upd (upd u8 5 ((u8 5) + 1)) 7 ((u8 7) + 1)), rfl, hF, ⟨by rw [ht]; exact hP, hD⟩⟩, hS.F ht⟩) hS.2.2 dX3_writeLine_76
    · have hF := hF.trans (if_pos c_9)
      refine lv_aload_n hx hb dX3_writeLine_60 rfl (lv_at hl 1 rfl) ?_
      refine va_get (D := D) (ci := 2) (v := .int ((u8 7) + 1)) (C := RX3) (T := TX3) (N := 15) hx hb hts hi3 hown hE.1 hP 0 rfl rfl 7 (by decide) w_3 (fun _ h9 => h9) rfl dX3_writeLine_61 ?_
      refine lv_aload_n hx hb dX3_writeLine_64 rfl (lv_at hl 1 rfl) ?_
      refine va_get (D := D) (ci := 2) (v := .int (u8 12)) (C := RX3) (T := TX3) (N := 15) hx hb hts hi3 hown hE.1 hP 0 rfl rfl 12 (by decide) w_5 (fun _ h9 => h9) rfl dX3_writeLine_65 ?_
      refine lv_icmp_lt (tgt := 75) hx hb dX3_writeLine_68 (by decide) (fun c_10 => ?_) (fun c_10 => ?_)
      · have hF := hF.trans (if_pos c_10)
        refine lv_iload_n hx hb dX3_writeLine_75 rfl (lv_at hl 0 rfl) ?_
        exact W.iret (v := (r (13 + p0.toNatClampNeg))) hx hb hr (fun t ht hW => ⟨⟨(r (13 + p0.toNatClampNeg)), (upd (upd u8 5 ((u8 5) + 1)) 7 ((u8 7) + 1)), rfl, hF, ⟨by rw [ht]; exact hP, hD⟩⟩, hS.F ht⟩) hS.2.2 dX3_writeLine_76
      · have hF := hF.trans (if_neg c_10)
        refine lv_aload_n hx hb dX3_writeLine_71 rfl (lv_at hl 1 rfl) ?_
        refine xw_callv (va_runV (As := []) (rest := []) ⟨hx, hb, hml, hown, hts⟩ (c_X3_moveGap l D y a0 a1 a2 H.size (upd (upd u8 5 ((u8 5) + 1)) 7 ((u8 7) + 1)) (ok_upd (by omega) (ok_upd (by omega) (by rw [← h7]; exact ok_X3_layAt _ _ (by rw [← er4]; exact (ok_upd (by omega) ho)))))) (cwV 0 hts gX3_writeLine_X3_moveGap rfl rfl rfl hd_X3_moveGap ⟨Nat.le_of_ble_eq_true rfl, Nat.le_of_ble_eq_true rfl⟩) (gV (q := (RX3, TX3, 15)) hE hP hD 0 rfl rfl) rfl rfl hl.1 rfl (lv_room (Nat.le_of_ble_eq_true rfl)) dX3_writeLine_72 ⟨Nat.le_of_ble_eq_true rfl, Nat.le_of_ble_eq_true rfl⟩) hP hD hS hA [0, 1, 2] rfl (by decide) (fun _ => rfl) (fun u12 H locs h11 hP hD hS => ?_)
        have hF := hF.trans (gLet_e h11)
        have hP : va_P D vwCl [(a0, soF a1 a2 u12), (a1, soV y u12), (a2, soW y u12)] H := hP
        have hD : va_D A [(a0, soF a1 a2 u12), (a1, soV y u12), (a2, soW y u12)] := hD
        refine lv_iload_n hx hb dX3_writeLine_75 rfl (lv_at hl 0 rfl) ?_
        exact W.iret (v := (r (13 + p0.toNatClampNeg))) hx hb hr (fun t ht hW => ⟨⟨(r (13 + p0.toNatClampNeg)), u12, rfl, hF, ⟨by rw [ht]; exact hP, hD⟩⟩, hS.F ht⟩) hS.2.2 dX3_writeLine_76
  · have hF := hF.trans (if_pos c_3)
    refine lv_iconst (v := (-1)) hx hb dX3_writeLine_8 (by decide) ?_
    exact W.iret (v := (-1)) hx hb hr (fun t ht hW => ⟨⟨(-1), r, rfl, hF, ⟨by rw [ht]; exact hP, hD⟩⟩, hS.F ht⟩) hS.2.2 dX3_writeLine_9

def f_X3_hammerLine_L2 (p0 : Int32) (p1 : Int32) : Nat → Int32 → gR → Int32 × gR
  | 0, _, r_ => (0, r_)
  | n + 1, x3, r_ =>
    if p1 ≤ x3 then
    (x3, r_)
  else
    if (r_ 8) = 0 then
      gLet (f_X3_valueOf r_ p0) (fun (v4 : Int32) =>
        gLet (f_X3_writeLine r_ p0 v4) (fun (q8 : Int32 × gR) =>
          f_X3_hammerLine_L2 p0 p1 n (x3 + 1) q8.2))
    else
      (x3, r_)
theorem f_X3_hammerLine_L2_s (p0 : Int32) (p1 : Int32) (n : Nat) (x3 : Int32) (r_ : gR) : f_X3_hammerLine_L2 p0 p1 (n + 1) x3 r_ =
    (if p1 ≤ x3 then
    (x3, r_)
  else
    if (r_ 8) = 0 then
      gLet (f_X3_valueOf r_ p0) (fun (v4 : Int32) =>
        gLet (f_X3_writeLine r_ p0 v4) (fun (q8 : Int32 × gR) =>
          f_X3_hammerLine_L2 p0 p1 n (x3 + 1) q8.2))
    else
      (x3, r_)) := rfl
def f_X3_hammerLine (r : gR) (p0 : Int32) (p1 : Int32) : Int32 × gR :=
    f_X3_hammerLine_L2 p0 p1 ((p1.toInt - (0 : Int32).toInt).toNat + 1) 0 r
theorem f_X3_hammerLine_s (r : gR) (p0 : Int32) (p1 : Int32) : f_X3_hammerLine r p0 p1 =
    (f_X3_hammerLine_L2 p0 p1 ((p1.toInt - (0 : Int32).toInt).toNat + 1) 0 r) := rfl
theorem ok_X3_hammerLine_L2 (p0 p1 : Int32) : ∀ (n : Nat) (i : Int32) (r : gR), okC r → okC (f_X3_hammerLine_L2 p0 p1 n i r).2
  | 0, i, r, h => h
  | n + 1, i, r, h => by
    rw [f_X3_hammerLine_L2_s]
    simp only [gLet]
    repeat' split
    all_goals first | exact h | exact ok_X3_hammerLine_L2 p0 p1 n _ _ (ok_X3_writeLine _ _ _ h)
theorem z_X3_hammerLine_L2 (p0 p1 : Int32) : ∀ (n : Nat) (i : Int32) (r : gR), (f_X3_hammerLine_L2 p0 p1 n i r).2 0 = r 0
  | 0, i, r => rfl
  | n + 1, i, r => by
    rw [f_X3_hammerLine_L2_s]
    simp only [gLet]
    repeat' split
    all_goals first | rfl | exact (z_X3_hammerLine_L2 p0 p1 n _ _).trans (z_X3_writeLine _ _ _)
theorem z_X3_hammerLine (r : gR) (p0 p1 : Int32) : (f_X3_hammerLine r p0 p1).2 0 = r 0 := z_X3_hammerLine_L2 _ _ _ _ _
theorem ok_X3_hammerLine (r : gR) (p0 p1 : Int32) (ho : okC r) : okC (f_X3_hammerLine r p0 p1).2 := ok_X3_hammerLine_L2 _ _ _ _ _ ho
theorem hd_X3_hammerLine : yX3_hammerLine.cls = RX3 ∧ yX3_hammerLine.cls ≠ "java/lang/invoke/MethodHandle" ∧ yX3_hammerLine.cls ≠ "java/lang/invoke/VarHandle" ∧ (parseMethodDescriptor yX3_hammerLine.desc).map (fun d => d.parameters.length) = some 2 := by decide +kernel
set_option maxHeartbeats 4000000 in
set_option maxRecDepth 100000 in
theorem c_X3_hammerLine (l : Launch) (D : va_G) (y : Nat → ClassId) (a0 a1 a2 : Nat) (zh : Nat) (r : gR) (p0 : Int32) (p1 : Int32) (ho : okC r) : Met l yX3_hammerLine wsX3_hammerLine ({ frames := 3, cells := 0, slots := 0, locals := 67 }) (gP D y [.ref a0, .int p0, .int p1] zh [(a0, soF a1 a2 r), (a1, soV y r), (a2, soW y r)]) (va_Qi (fun (v : Int32) (u : gR) => f_X3_hammerLine r p0 p1 = (v, u)) (fun (u : gR) t => va_P D vwCl [(a0, soF a1 a2 u), (a1, soV y u), (a2, soW y u)] t.heap ∧ va_D (va_A [(a0, soF a1 a2 r), (a1, soV y r), (a2, soW y r)] zh) [(a0, soF a1 a2 u), (a1, soV y u), (a2, soW y u)]) (va_A [(a0, soF a1 a2 r), (a1, soV y r), (a2, soW y r)] zh)) 0 0 (va_A [(a0, soF a1 a2 r), (a1, soV y r), (a2, soW y r)] zh) := by
  refine Met.ofW (cc := cX3_hammerLine) (maxL := 4) (ret := (some .int)) (by decide) rfl ?_
  intro p e s m args below meth c s₁ B hml hv
  obtain ⟨rfl, hsz, hP, hE, hD⟩ := hv
  have hx := B.exec
  have hb := B.bytes
  have hr := B.returns
  have hts := atoms_spec (ws := wsX3_hammerLine) B.pre
  have hown : s.vm.findClass RX3 = some m.cls := findClass_of_methodNamed B.named
  have hlocks := B.notSynchronized
  have w_0 := hts (.fieldLink RX3 55 "GapLines$State" "dead" "Z") (List.mem_cons_of_mem _ (List.mem_append_left _ (List.mem_append_left _ (List.mem_of_getElem? (i := 0) rfl))))
  have hi3 : ∀ w ∈ u_ws RX3 TX3 15, w ∈ wsX3_hammerLine := fun w h => (List.mem_cons_of_mem _ (List.mem_append_right _ h))
  subst hsz
  have hD := hD.self (sz := s.heap.size)
  generalize hAe : va_A [(a0, soF a1 a2 r), (a1, soV y r), (a2, soW y r)] s.heap.size = A at hD ⊢
  have hA : ∀ q : Nat, s.heap.size ≤ q → A q := fun q h => by rw [← hAe]; exact Or.inr h
  have hS : va_S A s.heap s.heap [] := va_S.rf
  have hl := lv_entry ([.ref a0, .int p0, .int p1]) (n := 4) (Nat.le_of_ble_eq_true rfl)
  rw [lg_entry_eq]
  generalize (lg_sl ([.ref a0, .int p0, .int p1]) ++ List.replicate (4 - (lg_sl ([.ref a0, .int p0, .int p1])).length) Slot.unset).toArray = ls at hl ⊢
  have hl : lv_has ls 4 [(0, .ref a0), (1, .int p0), (2, .int p1)] := hl
  have loop_2 : ∀ (n : Nat) (x3 : Int32) (r_ : gR) (ho_ : okC r_), (p1.toInt - x3.toInt).toNat < n → f_X3_hammerLine r p0 p1 = f_X3_hammerLine_L2 p0 p1 n x3 r_ → ∀ (H : Heap) (locs : List Loc), va_P D vwCl [(a0, soF a1 a2 r_), (a1, soV y r_), (a2, soW y r_)] H → va_D A [(a0, soF a1 a2 r_), (a1, soV y r_), (a2, soW y r_)] → va_S A s.heap H locs → ∀ (ls : Array Slot), lv_has ls 4 [(0, .ref a0), (1, .int p0), (2, .int p1), (3, .int x3)] → W p l e (headSpec wsX3_hammerLine ({ frames := 3, cells := 0, slots := 0, locals := 67 })).room s m ([.ref a0, .int p0, .int p1] : List Value).toArray below meth c H locs 0 0 (MQ below (va_Qi (fun (v : Int32) (u : gR) => f_X3_hammerLine r p0 p1 = (v, u)) (fun (u : gR) t => va_P D vwCl [(a0, soF a1 a2 u), (a1, soV y u), (a2, soW y u)] t.heap ∧ va_D (A) [(a0, soF a1 a2 u), (a1, soV y u), (a2, soW y u)]) A) ([.ref a0, .int p0, .int p1] : List Value).toArray s 0 0 A) (F0 m 2 ls []) := by
    intro n
    induction n with
    | zero =>
      intro x3 r_ ho_ hμ
      exact absurd hμ (Nat.not_lt_zero _)
    | succ n ih =>
      intro x3 r_ ho_ hμ hF H locs hP hD hS ls hl
      have hF := hF.trans (f_X3_hammerLine_L2_s p0 p1 n x3 r_)
      refine lv_iload_n hx hb dX3_hammerLine_2 rfl (lv_at hl 3 rfl) ?_
      refine lv_iload_n hx hb dX3_hammerLine_3 rfl (lv_at hl 2 rfl) ?_
      refine lv_icmp_ge (tgt := 31) hx hb dX3_hammerLine_4 (by decide) (fun c_1 => ?_) (fun c_1 => ?_)
      · have hF := hF.trans (if_pos c_1)
        refine lv_iload_n hx hb dX3_hammerLine_31 rfl (lv_at hl 3 rfl) ?_
        exact W.iret (v := x3) hx hb hr (fun t ht hW => ⟨⟨x3, r_, rfl, hF, ⟨by rw [ht]; exact hP, hD⟩⟩, hS.F ht⟩) hS.2.2 dX3_hammerLine_32
      · have hF := hF.trans (if_neg c_1)
        refine lv_aload_n hx hb dX3_hammerLine_7 rfl (lv_at hl 0 rfl) ?_
        refine va_get (D := D) (ci := 2) (v := .int (r_ 8)) (C := RX3) (T := TX3) (N := 15) hx hb hts hi3 hown hE.1 hP 0 rfl rfl 10 (by decide) w_0 (fun _ h9 => h9) rfl dX3_hammerLine_8 ?_
        refine lv_if_ne (tgt := 31) hx hb dX3_hammerLine_11 (by decide) (fun c_2 => ?_) (fun c_2 => ?_)
        · have hF := hF.trans (if_neg c_2)
          refine lv_iload_n hx hb dX3_hammerLine_31 rfl (lv_at hl 3 rfl) ?_
          exact W.iret (v := x3) hx hb hr (fun t ht hW => ⟨⟨x3, r_, rfl, hF, ⟨by rw [ht]; exact hP, hD⟩⟩, hS.F ht⟩) hS.2.2 dX3_hammerLine_32
        · have hF := hF.trans (if_pos c_2)
          refine lv_aload_n hx hb dX3_hammerLine_14 rfl (lv_at hl 0 rfl) ?_
          refine lv_iload_n hx hb dX3_hammerLine_15 rfl (lv_at hl 1 rfl) ?_
          refine lv_aload_n hx hb dX3_hammerLine_16 rfl (lv_at hl 0 rfl) ?_
          refine lv_iload_n hx hb dX3_hammerLine_17 rfl (lv_at hl 1 rfl) ?_
          refine xs_calli (va_runV (As := [.int p0]) (rest := [.int p0, .ref a0]) ⟨hx, hb, hml, hown, hts⟩ (c_X3_valueOf l D y a0 a1 a2 H.size r_ p0 ho_) (cwV 1 hts gX3_hammerLine_X3_valueOf rfl rfl rfl hd_X3_valueOf ⟨Nat.le_of_ble_eq_true rfl, Nat.le_of_ble_eq_true rfl⟩) (gV (q := (RX3, TX3, 15)) hE hP hD 0 rfl rfl) rfl rfl hl.1 rfl (lv_room (Nat.le_of_ble_eq_true rfl)) dX3_hammerLine_18 ⟨Nat.le_of_ble_eq_true rfl, Nat.le_of_ble_eq_true rfl⟩) (fun v4 h3 => ?_)
          have hF := hF.trans (gLet_e h3)
          refine xw_calli (va_runV (As := [.int p0, .int v4]) (rest := []) ⟨hx, hb, hml, hown, hts⟩ (c_X3_writeLine l D y a0 a1 a2 H.size r_ p0 v4 ho_) (cwV 2 hts gX3_hammerLine_X3_writeLine rfl rfl rfl hd_X3_writeLine ⟨Nat.le_of_ble_eq_true rfl, Nat.le_of_ble_eq_true rfl⟩) (gV (q := (RX3, TX3, 15)) hE hP hD 0 rfl rfl) rfl rfl hl.1 rfl (lv_room (Nat.le_of_ble_eq_true rfl)) dX3_hammerLine_21 ⟨Nat.le_of_ble_eq_true rfl, Nat.le_of_ble_eq_true rfl⟩) hP hD hS hA [0, 1, 2] rfl (by decide) (fun _ => rfl) (fun v7 u6 H locs h5 hP hD hS => ?_)
          obtain ⟨q8, eq8⟩ : ∃ z : Int32 × gR, f_X3_writeLine r_ p0 v4 = z := ⟨_, rfl⟩
          obtain ⟨rfl, rfl⟩ : q8.1 = v7 ∧ q8.2 = u6 := ⟨by rw [← eq8, h5], by rw [← eq8, h5]⟩
          have hF := hF.trans (gLet_e eq8)
          have hP : va_P D vwCl [(a0, soF a1 a2 q8.2), (a1, soV y q8.2), (a2, soW y q8.2)] H := hP
          have hD : va_D A [(a0, soF a1 a2 q8.2), (a1, soV y q8.2), (a2, soW y q8.2)] := hD
          refine lv_pop hx hb dX3_hammerLine_24 rfl ?_
          refine lv_iinc (v := (x3 + 1)) (lv' := [(3, .int (x3 + 1)), (0, .ref a0), (1, .int p0), (2, .int p1)]) hx hb dX3_hammerLine_25 hl (k := 3) rfl rfl (by decide) rfl (fun ls hl => ?_)
          refine lv_goto (tgt := 2) hx hb dX3_hammerLine_28 (by decide) ?_
          exact ih (x3 + 1) q8.2 ((by rw [← eq8]; exact ok_X3_writeLine _ _ _ ho_)) (lp_up (by assumption) hμ) hF _ _ hP hD hS ls (lv_sub hl [1, 2, 3, 0] rfl)
  have hF := f_X3_hammerLine_s r p0 p1
  refine lv_iconst (v := 0) hx hb dX3_hammerLine_0 (by decide) ?_
  refine lv_istore_n (lv' := [(3, .int 0), (0, .ref a0), (1, .int p0), (2, .int p1)]) hx hb dX3_hammerLine_1 rfl hl (by decide) rfl (fun ls hl => ?_)
  exact loop_2 _ 0 r (ho) (Nat.lt_succ_self _) hF _ _ hP hD hS ls (lv_sub hl [1, 2, 3, 0] rfl)

def f_X3_writeInTurn_L4 (p0 : Int32) : Nat → Int32 → Int32 → gR → Int32 × gR
  | 0, _, _, r_ => (0, r_)
  | n + 1, x2, x3, r_ =>
    if p0 ≤ x2 then
    (x2, r_)
  else
    if (r_ 8) = 0 then
      gLet (f_X3_valueOf r_ x3) (fun (v4 : Int32) =>
        gLet (f_X3_writeLine r_ x3 v4) (fun (q8 : Int32 × gR) =>
          if (q8.2 0) ≤ (x3 + 1) then
            f_X3_writeInTurn_L4 p0 n (x2 + 1) 0 q8.2
          else
            f_X3_writeInTurn_L4 p0 n (x2 + 1) (x3 + 1) q8.2))
    else
      (x2, r_)
theorem f_X3_writeInTurn_L4_s (p0 : Int32) (n : Nat) (x2 : Int32) (x3 : Int32) (r_ : gR) : f_X3_writeInTurn_L4 p0 (n + 1) x2 x3 r_ =
    (if p0 ≤ x2 then
    (x2, r_)
  else
    if (r_ 8) = 0 then
      gLet (f_X3_valueOf r_ x3) (fun (v4 : Int32) =>
        gLet (f_X3_writeLine r_ x3 v4) (fun (q8 : Int32 × gR) =>
          if (q8.2 0) ≤ (x3 + 1) then
            f_X3_writeInTurn_L4 p0 n (x2 + 1) 0 q8.2
          else
            f_X3_writeInTurn_L4 p0 n (x2 + 1) (x3 + 1) q8.2))
    else
      (x2, r_)) := rfl
def f_X3_writeInTurn (r : gR) (p0 : Int32) : Int32 × gR :=
    f_X3_writeInTurn_L4 p0 ((p0.toInt - (0 : Int32).toInt).toNat + 1) 0 0 r
theorem f_X3_writeInTurn_s (r : gR) (p0 : Int32) : f_X3_writeInTurn r p0 =
    (f_X3_writeInTurn_L4 p0 ((p0.toInt - (0 : Int32).toInt).toNat + 1) 0 0 r) := rfl
theorem ok_X3_writeInTurn_L4 (p0 : Int32) : ∀ (n : Nat) (i j : Int32) (r : gR), okC r → okC (f_X3_writeInTurn_L4 p0 n i j r).2
  | 0, i, j, r, h => h
  | n + 1, i, j, r, h => by
    rw [f_X3_writeInTurn_L4_s]
    simp only [gLet]
    repeat' split
    all_goals first | exact h | exact ok_X3_writeInTurn_L4 p0 n _ _ _ (ok_X3_writeLine _ _ _ h)
theorem z_X3_writeInTurn_L4 (p0 : Int32) : ∀ (n : Nat) (i j : Int32) (r : gR), (f_X3_writeInTurn_L4 p0 n i j r).2 0 = r 0
  | 0, i, j, r => rfl
  | n + 1, i, j, r => by
    rw [f_X3_writeInTurn_L4_s]
    simp only [gLet]
    repeat' split
    all_goals first | rfl | exact (z_X3_writeInTurn_L4 p0 n _ _ _).trans (z_X3_writeLine _ _ _)
theorem z_X3_writeInTurn (r : gR) (p0 : Int32) : (f_X3_writeInTurn r p0).2 0 = r 0 := z_X3_writeInTurn_L4 _ _ _ _ _
theorem ok_X3_writeInTurn (r : gR) (p0 : Int32) (ho : okC r) : okC (f_X3_writeInTurn r p0).2 := ok_X3_writeInTurn_L4 _ _ _ _ _ ho
theorem hd_X3_writeInTurn : yX3_writeInTurn.cls = RX3 ∧ yX3_writeInTurn.cls ≠ "java/lang/invoke/MethodHandle" ∧ yX3_writeInTurn.cls ≠ "java/lang/invoke/VarHandle" ∧ (parseMethodDescriptor yX3_writeInTurn.desc).map (fun d => d.parameters.length) = some 1 := by decide +kernel
set_option maxHeartbeats 4000000 in
set_option maxRecDepth 100000 in
theorem c_X3_writeInTurn (l : Launch) (D : va_G) (y : Nat → ClassId) (a0 a1 a2 : Nat) (zh : Nat) (r : gR) (p0 : Int32) (ho : okC r) : Met l yX3_writeInTurn wsX3_writeInTurn ({ frames := 3, cells := 0, slots := 0, locals := 67 }) (gP D y [.ref a0, .int p0] zh [(a0, soF a1 a2 r), (a1, soV y r), (a2, soW y r)]) (va_Qi (fun (v : Int32) (u : gR) => f_X3_writeInTurn r p0 = (v, u)) (fun (u : gR) t => va_P D vwCl [(a0, soF a1 a2 u), (a1, soV y u), (a2, soW y u)] t.heap ∧ va_D (va_A [(a0, soF a1 a2 r), (a1, soV y r), (a2, soW y r)] zh) [(a0, soF a1 a2 u), (a1, soV y u), (a2, soW y u)]) (va_A [(a0, soF a1 a2 r), (a1, soV y r), (a2, soW y r)] zh)) 0 0 (va_A [(a0, soF a1 a2 r), (a1, soV y r), (a2, soW y r)] zh) := by
  refine Met.ofW (cc := cX3_writeInTurn) (maxL := 4) (ret := (some .int)) (by decide) rfl ?_
  intro p e s m args below meth c s₁ B hml hv
  obtain ⟨rfl, hsz, hP, hE, hD⟩ := hv
  have hx := B.exec
  have hb := B.bytes
  have hr := B.returns
  have hts := atoms_spec (ws := wsX3_writeInTurn) B.pre
  have hown : s.vm.findClass RX3 = some m.cls := findClass_of_methodNamed B.named
  have hlocks := B.notSynchronized
  have w_0 := hts (.fieldLink RX3 55 "GapLines$State" "dead" "Z") (List.mem_cons_of_mem _ (List.mem_append_left _ (List.mem_append_left _ (List.mem_of_getElem? (i := 0) rfl))))
  have hi3 : ∀ w ∈ u_ws RX3 TX3 15, w ∈ wsX3_writeInTurn := fun w h => (List.mem_cons_of_mem _ (List.mem_append_right _ h))
  have w_2 := hts (.fieldLink RX3 25 "GapLines$State" "lines" "I") (List.mem_cons_of_mem _ (List.mem_append_left _ (List.mem_append_left _ (List.mem_of_getElem? (i := 1) rfl))))
  subst hsz
  have hD := hD.self (sz := s.heap.size)
  generalize hAe : va_A [(a0, soF a1 a2 r), (a1, soV y r), (a2, soW y r)] s.heap.size = A at hD ⊢
  have hA : ∀ q : Nat, s.heap.size ≤ q → A q := fun q h => by rw [← hAe]; exact Or.inr h
  have hS : va_S A s.heap s.heap [] := va_S.rf
  have hl := lv_entry ([.ref a0, .int p0]) (n := 4) (Nat.le_of_ble_eq_true rfl)
  rw [lg_entry_eq]
  generalize (lg_sl ([.ref a0, .int p0]) ++ List.replicate (4 - (lg_sl ([.ref a0, .int p0])).length) Slot.unset).toArray = ls at hl ⊢
  have hl : lv_has ls 4 [(0, .ref a0), (1, .int p0)] := hl
  have loop_4 : ∀ (n : Nat) (x2 : Int32) (x3 : Int32) (r_ : gR) (ho_ : okC r_), (p0.toInt - x2.toInt).toNat < n → f_X3_writeInTurn r p0 = f_X3_writeInTurn_L4 p0 n x2 x3 r_ → ∀ (H : Heap) (locs : List Loc), va_P D vwCl [(a0, soF a1 a2 r_), (a1, soV y r_), (a2, soW y r_)] H → va_D A [(a0, soF a1 a2 r_), (a1, soV y r_), (a2, soW y r_)] → va_S A s.heap H locs → ∀ (ls : Array Slot), lv_has ls 4 [(0, .ref a0), (1, .int p0), (2, .int x2), (3, .int x3)] → W p l e (headSpec wsX3_writeInTurn ({ frames := 3, cells := 0, slots := 0, locals := 67 })).room s m ([.ref a0, .int p0] : List Value).toArray below meth c H locs 0 0 (MQ below (va_Qi (fun (v : Int32) (u : gR) => f_X3_writeInTurn r p0 = (v, u)) (fun (u : gR) t => va_P D vwCl [(a0, soF a1 a2 u), (a1, soV y u), (a2, soW y u)] t.heap ∧ va_D (A) [(a0, soF a1 a2 u), (a1, soV y u), (a2, soW y u)]) A) ([.ref a0, .int p0] : List Value).toArray s 0 0 A) (F0 m 4 ls []) := by
    intro n
    induction n with
    | zero =>
      intro x2 x3 r_ ho_ hμ
      exact absurd hμ (Nat.not_lt_zero _)
    | succ n ih =>
      intro x2 x3 r_ ho_ hμ hF H locs hP hD hS ls hl
      have hF := hF.trans (f_X3_writeInTurn_L4_s p0 n x2 x3 r_)
      refine lv_iload_n hx hb dX3_writeInTurn_4 rfl (lv_at hl 2 rfl) ?_
      refine lv_iload_n hx hb dX3_writeInTurn_5 rfl (lv_at hl 1 rfl) ?_
      refine lv_icmp_ge (tgt := 51) hx hb dX3_writeInTurn_6 (by decide) (fun c_1 => ?_) (fun c_1 => ?_)
      · have hF := hF.trans (if_pos c_1)
        refine lv_iload_n hx hb dX3_writeInTurn_51 rfl (lv_at hl 2 rfl) ?_
        exact W.iret (v := x2) hx hb hr (fun t ht hW => ⟨⟨x2, r_, rfl, hF, ⟨by rw [ht]; exact hP, hD⟩⟩, hS.F ht⟩) hS.2.2 dX3_writeInTurn_52
      · have hF := hF.trans (if_neg c_1)
        refine lv_aload_n hx hb dX3_writeInTurn_9 rfl (lv_at hl 0 rfl) ?_
        refine va_get (D := D) (ci := 2) (v := .int (r_ 8)) (C := RX3) (T := TX3) (N := 15) hx hb hts hi3 hown hE.1 hP 0 rfl rfl 10 (by decide) w_0 (fun _ h9 => h9) rfl dX3_writeInTurn_10 ?_
        refine lv_if_ne (tgt := 51) hx hb dX3_writeInTurn_13 (by decide) (fun c_2 => ?_) (fun c_2 => ?_)
        · have hF := hF.trans (if_neg c_2)
          refine lv_iload_n hx hb dX3_writeInTurn_51 rfl (lv_at hl 2 rfl) ?_
          exact W.iret (v := x2) hx hb hr (fun t ht hW => ⟨⟨x2, r_, rfl, hF, ⟨by rw [ht]; exact hP, hD⟩⟩, hS.F ht⟩) hS.2.2 dX3_writeInTurn_52
        · have hF := hF.trans (if_pos c_2)
          refine lv_aload_n hx hb dX3_writeInTurn_16 rfl (lv_at hl 0 rfl) ?_
          refine lv_iload_n hx hb dX3_writeInTurn_17 rfl (lv_at hl 3 rfl) ?_
          refine lv_aload_n hx hb dX3_writeInTurn_18 rfl (lv_at hl 0 rfl) ?_
          refine lv_iload_n hx hb dX3_writeInTurn_19 rfl (lv_at hl 3 rfl) ?_
          refine xs_calli (va_runV (As := [.int x3]) (rest := [.int x3, .ref a0]) ⟨hx, hb, hml, hown, hts⟩ (c_X3_valueOf l D y a0 a1 a2 H.size r_ x3 ho_) (cwV 1 hts gX3_writeInTurn_X3_valueOf rfl rfl rfl hd_X3_valueOf ⟨Nat.le_of_ble_eq_true rfl, Nat.le_of_ble_eq_true rfl⟩) (gV (q := (RX3, TX3, 15)) hE hP hD 0 rfl rfl) rfl rfl hl.1 rfl (lv_room (Nat.le_of_ble_eq_true rfl)) dX3_writeInTurn_20 ⟨Nat.le_of_ble_eq_true rfl, Nat.le_of_ble_eq_true rfl⟩) (fun v4 h3 => ?_)
          have hF := hF.trans (gLet_e h3)
          refine xw_calli (va_runV (As := [.int x3, .int v4]) (rest := []) ⟨hx, hb, hml, hown, hts⟩ (c_X3_writeLine l D y a0 a1 a2 H.size r_ x3 v4 ho_) (cwV 2 hts gX3_writeInTurn_X3_writeLine rfl rfl rfl hd_X3_writeLine ⟨Nat.le_of_ble_eq_true rfl, Nat.le_of_ble_eq_true rfl⟩) (gV (q := (RX3, TX3, 15)) hE hP hD 0 rfl rfl) rfl rfl hl.1 rfl (lv_room (Nat.le_of_ble_eq_true rfl)) dX3_writeInTurn_23 ⟨Nat.le_of_ble_eq_true rfl, Nat.le_of_ble_eq_true rfl⟩) hP hD hS hA [0, 1, 2] rfl (by decide) (fun _ => rfl) (fun v7 u6 H locs h5 hP hD hS => ?_)
          obtain ⟨q8, eq8⟩ : ∃ z : Int32 × gR, f_X3_writeLine r_ x3 v4 = z := ⟨_, rfl⟩
          obtain ⟨rfl, rfl⟩ : q8.1 = v7 ∧ q8.2 = u6 := ⟨by rw [← eq8, h5], by rw [← eq8, h5]⟩
          have hF := hF.trans (gLet_e eq8)
          have hP : va_P D vwCl [(a0, soF a1 a2 q8.2), (a1, soV y q8.2), (a2, soW y q8.2)] H := hP
          have hD : va_D A [(a0, soF a1 a2 q8.2), (a1, soV y q8.2), (a2, soW y q8.2)] := hD
          refine lv_pop hx hb dX3_writeInTurn_26 rfl ?_
          refine lv_iinc (v := (x2 + 1)) (lv' := [(2, .int (x2 + 1)), (0, .ref a0), (1, .int p0), (3, .int x3)]) hx hb dX3_writeInTurn_27 hl (k := 2) rfl rfl (by decide) rfl (fun ls hl => ?_)
          refine lv_iload_n hx hb dX3_writeInTurn_30 rfl (lv_at hl 3 rfl) ?_
          refine lv_iconst (v := 1) hx hb dX3_writeInTurn_31 (by decide) ?_
          refine lv_iadd hx hb dX3_writeInTurn_32 ?_
          refine lv_aload_n hx hb dX3_writeInTurn_33 rfl (lv_at hl 1 rfl) ?_
          refine va_get (D := D) (ci := 2) (v := .int (q8.2 0)) (C := RX3) (T := TX3) (N := 15) hx hb hts hi3 hown hE.1 hP 0 rfl rfl 0 (by decide) w_2 (fun _ h9 => h9) rfl dX3_writeInTurn_34 ?_
          refine lv_icmp_ge (tgt := 46) hx hb dX3_writeInTurn_37 (by decide) (fun c_9 => ?_) (fun c_9 => ?_)
          · have hF := hF.trans (if_pos c_9)
            refine lv_iconst (v := 0) hx hb dX3_writeInTurn_46 (by decide) ?_
            refine lv_istore_n (lv' := [(3, .int 0), (2, .int (x2 + 1)), (0, .ref a0), (1, .int p0)]) hx hb dX3_writeInTurn_47 rfl hl (by decide) rfl (fun ls hl => ?_)
            refine lv_goto (tgt := 4) hx hb dX3_writeInTurn_48 (by decide) ?_
            exact ih (x2 + 1) 0 q8.2 ((by rw [← eq8]; exact ok_X3_writeLine _ _ _ ho_)) (lp_up (by assumption) hμ) hF _ _ hP hD hS ls (lv_sub hl [2, 3, 1, 0] rfl)
          · have hF := hF.trans (if_neg c_9)
            refine lv_iload_n hx hb dX3_writeInTurn_40 rfl (lv_at hl 3 rfl) ?_
            refine lv_iconst (v := 1) hx hb dX3_writeInTurn_41 (by decide) ?_
            refine lv_iadd hx hb dX3_writeInTurn_42 ?_
            refine lv_goto (tgt := 47) hx hb dX3_writeInTurn_43 (by decide) ?_
            refine lv_istore_n (lv' := [(3, .int (x3 + 1)), (2, .int (x2 + 1)), (0, .ref a0), (1, .int p0)]) hx hb dX3_writeInTurn_47 rfl hl (by decide) rfl (fun ls hl => ?_)
            refine lv_goto (tgt := 4) hx hb dX3_writeInTurn_48 (by decide) ?_
            exact ih (x2 + 1) (x3 + 1) q8.2 ((by rw [← eq8]; exact ok_X3_writeLine _ _ _ ho_)) (lp_up (by assumption) hμ) hF _ _ hP hD hS ls (lv_sub hl [2, 3, 1, 0] rfl)
  have hF := f_X3_writeInTurn_s r p0
  refine lv_iconst (v := 0) hx hb dX3_writeInTurn_0 (by decide) ?_
  refine lv_istore_n (lv' := [(2, .int 0), (0, .ref a0), (1, .int p0)]) hx hb dX3_writeInTurn_1 rfl hl (by decide) rfl (fun ls hl => ?_)
  refine lv_iconst (v := 0) hx hb dX3_writeInTurn_2 (by decide) ?_
  refine lv_istore_n (lv' := [(3, .int 0), (2, .int 0), (0, .ref a0), (1, .int p0)]) hx hb dX3_writeInTurn_3 rfl hl (by decide) rfl (fun ls hl => ?_)
  exact loop_4 _ 0 0 r (ho) (Nat.lt_succ_self _) hF _ _ hP hD hS ls (lv_sub hl [2, 3, 1, 0] rfl)

def f_X3_writeByChance_L14 (p1 : Int32) : Nat → Int64 → Int32 → gR → gR
  | 0, _, _, r_ => r_
  | n + 1, x4, x6, r_ =>
    if p1 ≤ x6 then
    r_
  else
    gLet (((((x4 * 6364136223846793005) + 1442695040888963407).toUInt64 >>> ((33 : Int32).toInt64.toUInt64 &&& Int64.toUInt64 63)).toInt64).toInt32) (fun (v2 : Int32) =>
      gLet (v2 - v2 / 4 * 4) (fun (v3 : Int32) =>
        if v3 = 0 then
          if (r_ 8) = 0 then
            gLet ((v2 / 128) - (v2 / 128) / 1000 * 1000) (fun (v13 : Int32) =>
              gLet (f_X3_writeLine r_ 0 v13) (fun (q17 : Int32 × gR) =>
                f_X3_writeByChance_L14 p1 n ((x4 * 6364136223846793005) + 1442695040888963407) (x6 + 1) q17.2))
          else
            f_X3_writeByChance_L14 p1 n ((x4 * 6364136223846793005) + 1442695040888963407) (x6 + 1) r_
        else
          gLet ((v2 / 4) - (v2 / 4) / (r_ 0) * (r_ 0)) (fun (v5 : Int32) =>
            if (r_ 8) = 0 then
              gLet ((v2 / 128) - (v2 / 128) / 1000 * 1000) (fun (v7 : Int32) =>
                gLet (f_X3_writeLine r_ v5 v7) (fun (q11 : Int32 × gR) =>
                  f_X3_writeByChance_L14 p1 n ((x4 * 6364136223846793005) + 1442695040888963407) (x6 + 1) q11.2))
            else
              f_X3_writeByChance_L14 p1 n ((x4 * 6364136223846793005) + 1442695040888963407) (x6 + 1) r_)))
theorem f_X3_writeByChance_L14_s (p1 : Int32) (n : Nat) (x4 : Int64) (x6 : Int32) (r_ : gR) : f_X3_writeByChance_L14 p1 (n + 1) x4 x6 r_ =
    (if p1 ≤ x6 then
    r_
  else
    gLet (((((x4 * 6364136223846793005) + 1442695040888963407).toUInt64 >>> ((33 : Int32).toInt64.toUInt64 &&& Int64.toUInt64 63)).toInt64).toInt32) (fun (v2 : Int32) =>
      gLet (v2 - v2 / 4 * 4) (fun (v3 : Int32) =>
        if v3 = 0 then
          if (r_ 8) = 0 then
            gLet ((v2 / 128) - (v2 / 128) / 1000 * 1000) (fun (v13 : Int32) =>
              gLet (f_X3_writeLine r_ 0 v13) (fun (q17 : Int32 × gR) =>
                f_X3_writeByChance_L14 p1 n ((x4 * 6364136223846793005) + 1442695040888963407) (x6 + 1) q17.2))
          else
            f_X3_writeByChance_L14 p1 n ((x4 * 6364136223846793005) + 1442695040888963407) (x6 + 1) r_
        else
          gLet ((v2 / 4) - (v2 / 4) / (r_ 0) * (r_ 0)) (fun (v5 : Int32) =>
            if (r_ 8) = 0 then
              gLet ((v2 / 128) - (v2 / 128) / 1000 * 1000) (fun (v7 : Int32) =>
                gLet (f_X3_writeLine r_ v5 v7) (fun (q11 : Int32 × gR) =>
                  f_X3_writeByChance_L14 p1 n ((x4 * 6364136223846793005) + 1442695040888963407) (x6 + 1) q11.2))
            else
              f_X3_writeByChance_L14 p1 n ((x4 * 6364136223846793005) + 1442695040888963407) (x6 + 1) r_)))) := rfl
def f_X3_writeByChance (r : gR) (p0 : Int64) (p1 : Int32) : gR :=
    gLet (f_X3_exists r) (fun (v19 : Int32) =>
    if v19 = 0 then
      r
    else
      f_X3_writeByChance_L14 p1 ((p1.toInt - (0 : Int32).toInt).toNat + 1) p0 0 r)
theorem f_X3_writeByChance_s (r : gR) (p0 : Int64) (p1 : Int32) : f_X3_writeByChance r p0 p1 =
    (gLet (f_X3_exists r) (fun (v19 : Int32) =>
    if v19 = 0 then
      r
    else
      f_X3_writeByChance_L14 p1 ((p1.toInt - (0 : Int32).toInt).toNat + 1) p0 0 r)) := rfl
theorem hd_X3_writeByChance : yX3_writeByChance.cls = RX3 ∧ yX3_writeByChance.cls ≠ "java/lang/invoke/MethodHandle" ∧ yX3_writeByChance.cls ≠ "java/lang/invoke/VarHandle" ∧ (parseMethodDescriptor yX3_writeByChance.desc).map (fun d => d.parameters.length) = some 2 := by decide +kernel
set_option maxHeartbeats 4000000 in
set_option maxRecDepth 100000 in
theorem c_X3_writeByChance (l : Launch) (D : va_G) (y : Nat → ClassId) (a0 a1 a2 : Nat) (zh : Nat) (r : gR) (p0 : Int64) (p1 : Int32) (ho : okC r) : Met l yX3_writeByChance wsX3_writeByChance ({ frames := 3, cells := 0, slots := 0, locals := 67 }) (gP D y [.ref a0, .long p0, .int p1] zh [(a0, soF a1 a2 r), (a1, soV y r), (a2, soW y r)]) (va_Qv (fun u : gR => f_X3_writeByChance r p0 p1 = u) (fun (u : gR) t => va_P D vwCl [(a0, soF a1 a2 u), (a1, soV y u), (a2, soW y u)] t.heap ∧ va_D (va_A [(a0, soF a1 a2 r), (a1, soV y r), (a2, soW y r)] zh) [(a0, soF a1 a2 u), (a1, soV y u), (a2, soW y u)]) (va_A [(a0, soF a1 a2 r), (a1, soV y r), (a2, soW y r)] zh)) 0 0 (va_A [(a0, soF a1 a2 r), (a1, soV y r), (a2, soW y r)] zh) := by
  refine Met.ofW (cc := cX3_writeByChance) (maxL := 9) (ret := none) (by decide) rfl ?_
  intro p e s m args below meth c s₁ B hml hv
  obtain ⟨rfl, hsz, hP, hE, hD⟩ := hv
  have hx := B.exec
  have hb := B.bytes
  have hr := B.returns
  have hts := atoms_spec (ws := wsX3_writeByChance) B.pre
  have hown : s.vm.findClass RX3 = some m.cls := findClass_of_methodNamed B.named
  have hlocks := B.notSynchronized
  have w_0 := hts (.constantLong RX3 116 (6364136223846793005)) (List.mem_cons_of_mem _ (List.mem_append_left _ (List.mem_append_left _ (List.mem_of_getElem? (i := 0) rfl))))
  have w_1 := hts (.constantLong RX3 118 (1442695040888963407)) (List.mem_cons_of_mem _ (List.mem_append_left _ (List.mem_append_left _ (List.mem_of_getElem? (i := 1) rfl))))
  have w_2 := hts (.fieldLink RX3 25 "GapLines$State" "lines" "I") (List.mem_cons_of_mem _ (List.mem_append_left _ (List.mem_append_left _ (List.mem_of_getElem? (i := 2) rfl))))
  have hi3 : ∀ w ∈ u_ws RX3 TX3 15, w ∈ wsX3_writeByChance := fun w h => (List.mem_cons_of_mem _ (List.mem_append_right _ h))
  have w_4 := hts (.fieldLink RX3 55 "GapLines$State" "dead" "Z") (List.mem_cons_of_mem _ (List.mem_append_left _ (List.mem_append_left _ (List.mem_of_getElem? (i := 3) rfl))))
  subst hsz
  have hD := hD.self (sz := s.heap.size)
  generalize hAe : va_A [(a0, soF a1 a2 r), (a1, soV y r), (a2, soW y r)] s.heap.size = A at hD ⊢
  have hA : ∀ q : Nat, s.heap.size ≤ q → A q := fun q h => by rw [← hAe]; exact Or.inr h
  have hS : va_S A s.heap s.heap [] := va_S.rf
  have hl := lv_entry ([.ref a0, .long p0, .int p1]) (n := 9) (Nat.le_of_ble_eq_true rfl)
  rw [lg_entry_eq]
  generalize (lg_sl ([.ref a0, .long p0, .int p1]) ++ List.replicate (9 - (lg_sl ([.ref a0, .long p0, .int p1])).length) Slot.unset).toArray = ls at hl ⊢
  have hl : lv_has ls 9 [(0, .ref a0), (1, .long p0), (3, .int p1)] := hl
  have loop_14 : ∀ (n : Nat) (x4 : Int64) (x6 : Int32) (r_ : gR) (ho_ : okC r_) (hz_ : ¬ r_ 0 = 0), (p1.toInt - x6.toInt).toNat < n → f_X3_writeByChance r p0 p1 = f_X3_writeByChance_L14 p1 n x4 x6 r_ → ∀ (H : Heap) (locs : List Loc), va_P D vwCl [(a0, soF a1 a2 r_), (a1, soV y r_), (a2, soW y r_)] H → va_D A [(a0, soF a1 a2 r_), (a1, soV y r_), (a2, soW y r_)] → va_S A s.heap H locs → ∀ (ls : Array Slot), lv_has ls 9 [(0, .ref a0), (3, .int p1), (4, .long x4), (6, .int x6)] → W p l e (headSpec wsX3_writeByChance ({ frames := 3, cells := 0, slots := 0, locals := 67 })).room s m ([.ref a0, .long p0, .int p1] : List Value).toArray below meth c H locs 0 0 (MQ below (va_Qv (fun u : gR => f_X3_writeByChance r p0 p1 = u) (fun (u : gR) t => va_P D vwCl [(a0, soF a1 a2 u), (a1, soV y u), (a2, soW y u)] t.heap ∧ va_D (A) [(a0, soF a1 a2 u), (a1, soV y u), (a2, soW y u)]) A) ([.ref a0, .long p0, .int p1] : List Value).toArray s 0 0 A) (F0 m 14 ls []) := by
    intro n
    induction n with
    | zero =>
      intro x4 x6 r_ ho_ hz_ hμ
      exact absurd hμ (Nat.not_lt_zero _)
    | succ n ih =>
      intro x4 x6 r_ ho_ hz_ hμ hF H locs hP hD hS ls hl
      have hF := hF.trans (f_X3_writeByChance_L14_s p1 n x4 x6 r_)
      refine lv_iload hx hb dX3_writeByChance_14 (lv_at hl 3 rfl) ?_
      refine lv_iload_n hx hb dX3_writeByChance_16 rfl (lv_at hl 1 rfl) ?_
      refine lv_icmp_ge (tgt := 92) hx hb dX3_writeByChance_17 (by decide) (fun c_1 => ?_) (fun c_1 => ?_)
      · have hF := hF.trans (if_pos c_1)
        exact W.vret hx hb hr (fun t ht hW => ⟨⟨r_, rfl, hF, ⟨by rw [ht]; exact hP, hD⟩⟩, hS.F ht⟩) hS.2.2 dX3_writeByChance_92
      · have hF := hF.trans (if_neg c_1)
        refine lv_lload hx hb dX3_writeByChance_20 (lv_at hl 2 rfl) ?_
        refine lv_ldc2 (v := 6364136223846793005) hx hb hown w_0 dX3_writeByChance_22 ?_
        refine lv_lmul hx hb dX3_writeByChance_25 ?_
        refine lv_ldc2 (v := 1442695040888963407) hx hb hown w_1 dX3_writeByChance_26 ?_
        refine lv_ladd hx hb dX3_writeByChance_29 ?_
        refine lv_lstore (lv' := [(4, .long ((x4 * 6364136223846793005) + 1442695040888963407)), (0, .ref a0), (3, .int p1), (6, .int x6)]) hx hb dX3_writeByChance_30 hl (by decide) rfl (fun ls hl => ?_)
        refine lv_lload hx hb dX3_writeByChance_32 (lv_at hl 0 rfl) ?_
        refine lv_bipush (v := 33) hx hb dX3_writeByChance_34 (by decide) ?_
        refine lv_lushr (v := (((x4 * 6364136223846793005) + 1442695040888963407).toUInt64 >>> ((33 : Int32).toInt64.toUInt64 &&& Int64.toUInt64 63)).toInt64) hx hb dX3_writeByChance_36 rfl ?_
        refine lv_l2i (v := ((((x4 * 6364136223846793005) + 1442695040888963407).toUInt64 >>> ((33 : Int32).toInt64.toUInt64 &&& Int64.toUInt64 63)).toInt64).toInt32) hx hb dX3_writeByChance_37 rfl ?_
        obtain ⟨v2, ev2⟩ : ∃ z : Int32, ((((x4 * 6364136223846793005) + 1442695040888963407).toUInt64 >>> ((33 : Int32).toInt64.toUInt64 &&& Int64.toUInt64 63)).toInt64).toInt32 = z := ⟨_, rfl⟩
        rw [ev2]
        have hF := hF.trans (gLet_e ev2)
        refine lv_istore (lv' := [(7, .int v2), (4, .long ((x4 * 6364136223846793005) + 1442695040888963407)), (0, .ref a0), (3, .int p1), (6, .int x6)]) hx hb dX3_writeByChance_38 hl (by decide) rfl (fun ls hl => ?_)
        refine lv_iload hx hb dX3_writeByChance_40 (lv_at hl 0 rfl) ?_
        refine lv_iconst (v := 4) hx hb dX3_writeByChance_42 (by decide) ?_
        refine lv_irem hx hb dX3_writeByChance_43 (by decide) ?_
        obtain ⟨v3, ev3⟩ : ∃ z : Int32, v2 - v2 / 4 * 4 = z := ⟨_, rfl⟩
        rw [ev3]
        have hF := hF.trans (gLet_e ev3)
        refine lv_if_ne (tgt := 51) hx hb dX3_writeByChance_44 (by decide) (fun c_4 => ?_) (fun c_4 => ?_)
        · have hF := hF.trans (if_neg c_4)
          refine lv_iload hx hb dX3_writeByChance_51 (lv_at hl 0 rfl) ?_
          refine lv_iconst (v := 4) hx hb dX3_writeByChance_53 (by decide) ?_
          refine lv_idiv hx hb dX3_writeByChance_54 (by decide) ?_
          refine lv_aload_n hx hb dX3_writeByChance_55 rfl (lv_at hl 2 rfl) ?_
          refine va_get (D := D) (ci := 2) (v := .int (r_ 0)) (C := RX3) (T := TX3) (N := 15) hx hb hts hi3 hown hE.1 hP 0 rfl rfl 0 (by decide) w_2 (fun _ h9 => h9) rfl dX3_writeByChance_56 ?_
          refine lv_irem hx hb dX3_writeByChance_59 hz_ ?_
          obtain ⟨v5, ev5⟩ : ∃ z : Int32, (v2 / 4) - (v2 / 4) / (r_ 0) * (r_ 0) = z := ⟨_, rfl⟩
          rw [ev5]
          have hF := hF.trans (gLet_e ev5)
          refine lv_istore (lv' := [(8, .int v5), (7, .int v2), (4, .long ((x4 * 6364136223846793005) + 1442695040888963407)), (0, .ref a0), (3, .int p1), (6, .int x6)]) hx hb dX3_writeByChance_60 hl (by decide) rfl (fun ls hl => ?_)
          refine lv_aload_n hx hb dX3_writeByChance_62 rfl (lv_at hl 3 rfl) ?_
          refine va_get (D := D) (ci := 2) (v := .int (r_ 8)) (C := RX3) (T := TX3) (N := 15) hx hb hts hi3 hown hE.1 hP 0 rfl rfl 10 (by decide) w_4 (fun _ h9 => h9) rfl dX3_writeByChance_63 ?_
          refine lv_if_ne (tgt := 86) hx hb dX3_writeByChance_66 (by decide) (fun c_6 => ?_) (fun c_6 => ?_)
          · have hF := hF.trans (if_neg c_6)
            refine lv_iinc (v := (x6 + 1)) (lv' := [(6, .int (x6 + 1)), (8, .int v5), (7, .int v2), (4, .long ((x4 * 6364136223846793005) + 1442695040888963407)), (0, .ref a0), (3, .int p1)]) hx hb dX3_writeByChance_86 hl (k := 5) rfl rfl (by decide) rfl (fun ls hl => ?_)
            refine lv_goto (tgt := 14) hx hb dX3_writeByChance_89 (by decide) ?_
            exact ih ((x4 * 6364136223846793005) + 1442695040888963407) (x6 + 1) r_ (ho_) (hz_) (lp_up (by assumption) hμ) hF _ _ hP hD hS ls (lv_sub hl [4, 5, 3, 0] rfl)
          · have hF := hF.trans (if_pos c_6)
            refine lv_aload_n hx hb dX3_writeByChance_69 rfl (lv_at hl 3 rfl) ?_
            refine lv_iload hx hb dX3_writeByChance_70 (lv_at hl 0 rfl) ?_
            refine lv_iload hx hb dX3_writeByChance_72 (lv_at hl 1 rfl) ?_
            refine lv_sipush (v := 128) hx hb dX3_writeByChance_74 (by decide) ?_
            refine lv_idiv hx hb dX3_writeByChance_77 (by decide) ?_
            refine lv_sipush (v := 1000) hx hb dX3_writeByChance_78 (by decide) ?_
            refine lv_irem hx hb dX3_writeByChance_81 (by decide) ?_
            obtain ⟨v7, ev7⟩ : ∃ z : Int32, (v2 / 128) - (v2 / 128) / 1000 * 1000 = z := ⟨_, rfl⟩
            rw [ev7]
            have hF := hF.trans (gLet_e ev7)
            refine xw_calli (va_runV (As := [.int v5, .int v7]) (rest := []) ⟨hx, hb, hml, hown, hts⟩ (c_X3_writeLine l D y a0 a1 a2 H.size r_ v5 v7 ho_) (cwV 2 hts gX3_writeByChance_X3_writeLine rfl rfl rfl hd_X3_writeLine ⟨Nat.le_of_ble_eq_true rfl, Nat.le_of_ble_eq_true rfl⟩) (gV (q := (RX3, TX3, 15)) hE hP hD 0 rfl rfl) rfl rfl hl.1 rfl (lv_room (Nat.le_of_ble_eq_true rfl)) dX3_writeByChance_82 ⟨Nat.le_of_ble_eq_true rfl, Nat.le_of_ble_eq_true rfl⟩) hP hD hS hA [0, 1, 2] rfl (by decide) (fun _ => rfl) (fun v10 u9 H locs h8 hP hD hS => ?_)
            obtain ⟨q11, eq11⟩ : ∃ z : Int32 × gR, f_X3_writeLine r_ v5 v7 = z := ⟨_, rfl⟩
            obtain ⟨rfl, rfl⟩ : q11.1 = v10 ∧ q11.2 = u9 := ⟨by rw [← eq11, h8], by rw [← eq11, h8]⟩
            have hF := hF.trans (gLet_e eq11)
            have hP : va_P D vwCl [(a0, soF a1 a2 q11.2), (a1, soV y q11.2), (a2, soW y q11.2)] H := hP
            have hD : va_D A [(a0, soF a1 a2 q11.2), (a1, soV y q11.2), (a2, soW y q11.2)] := hD
            refine lv_pop hx hb dX3_writeByChance_85 rfl ?_
            refine lv_iinc (v := (x6 + 1)) (lv' := [(6, .int (x6 + 1)), (8, .int v5), (7, .int v2), (4, .long ((x4 * 6364136223846793005) + 1442695040888963407)), (0, .ref a0), (3, .int p1)]) hx hb dX3_writeByChance_86 hl (k := 5) rfl rfl (by decide) rfl (fun ls hl => ?_)
            refine lv_goto (tgt := 14) hx hb dX3_writeByChance_89 (by decide) ?_
            exact ih ((x4 * 6364136223846793005) + 1442695040888963407) (x6 + 1) q11.2 ((by rw [← eq11]; exact ok_X3_writeLine _ _ _ ho_)) (by rw [← eq11, z_X3_writeLine]; exact hz_) (lp_up (by assumption) hμ) hF _ _ hP hD hS ls (lv_sub hl [4, 5, 3, 0] rfl)
        · have hF := hF.trans (if_pos c_4)
          refine lv_iconst (v := 0) hx hb dX3_writeByChance_47 (by decide) ?_
          refine lv_goto (tgt := 60) hx hb dX3_writeByChance_48 (by decide) ?_
          refine lv_istore (lv' := [(8, .int 0), (7, .int v2), (4, .long ((x4 * 6364136223846793005) + 1442695040888963407)), (0, .ref a0), (3, .int p1), (6, .int x6)]) hx hb dX3_writeByChance_60 hl (by decide) rfl (fun ls hl => ?_)
          refine lv_aload_n hx hb dX3_writeByChance_62 rfl (lv_at hl 3 rfl) ?_
          refine va_get (D := D) (ci := 2) (v := .int (r_ 8)) (C := RX3) (T := TX3) (N := 15) hx hb hts hi3 hown hE.1 hP 0 rfl rfl 10 (by decide) w_4 (fun _ h9 => h9) rfl dX3_writeByChance_63 ?_
          refine lv_if_ne (tgt := 86) hx hb dX3_writeByChance_66 (by decide) (fun c_12 => ?_) (fun c_12 => ?_)
          · have hF := hF.trans (if_neg c_12)
            refine lv_iinc (v := (x6 + 1)) (lv' := [(6, .int (x6 + 1)), (8, .int 0), (7, .int v2), (4, .long ((x4 * 6364136223846793005) + 1442695040888963407)), (0, .ref a0), (3, .int p1)]) hx hb dX3_writeByChance_86 hl (k := 5) rfl rfl (by decide) rfl (fun ls hl => ?_)
            refine lv_goto (tgt := 14) hx hb dX3_writeByChance_89 (by decide) ?_
            exact ih ((x4 * 6364136223846793005) + 1442695040888963407) (x6 + 1) r_ (ho_) (hz_) (lp_up (by assumption) hμ) hF _ _ hP hD hS ls (lv_sub hl [4, 5, 3, 0] rfl)
          · have hF := hF.trans (if_pos c_12)
            refine lv_aload_n hx hb dX3_writeByChance_69 rfl (lv_at hl 3 rfl) ?_
            refine lv_iload hx hb dX3_writeByChance_70 (lv_at hl 0 rfl) ?_
            refine lv_iload hx hb dX3_writeByChance_72 (lv_at hl 1 rfl) ?_
            refine lv_sipush (v := 128) hx hb dX3_writeByChance_74 (by decide) ?_
            refine lv_idiv hx hb dX3_writeByChance_77 (by decide) ?_
            refine lv_sipush (v := 1000) hx hb dX3_writeByChance_78 (by decide) ?_
            refine lv_irem hx hb dX3_writeByChance_81 (by decide) ?_
            obtain ⟨v13, ev13⟩ : ∃ z : Int32, (v2 / 128) - (v2 / 128) / 1000 * 1000 = z := ⟨_, rfl⟩
            rw [ev13]
            have hF := hF.trans (gLet_e ev13)
            refine xw_calli (va_runV (As := [.int 0, .int v13]) (rest := []) ⟨hx, hb, hml, hown, hts⟩ (c_X3_writeLine l D y a0 a1 a2 H.size r_ 0 v13 ho_) (cwV 2 hts gX3_writeByChance_X3_writeLine rfl rfl rfl hd_X3_writeLine ⟨Nat.le_of_ble_eq_true rfl, Nat.le_of_ble_eq_true rfl⟩) (gV (q := (RX3, TX3, 15)) hE hP hD 0 rfl rfl) rfl rfl hl.1 rfl (lv_room (Nat.le_of_ble_eq_true rfl)) dX3_writeByChance_82 ⟨Nat.le_of_ble_eq_true rfl, Nat.le_of_ble_eq_true rfl⟩) hP hD hS hA [0, 1, 2] rfl (by decide) (fun _ => rfl) (fun v16 u15 H locs h14 hP hD hS => ?_)
            obtain ⟨q17, eq17⟩ : ∃ z : Int32 × gR, f_X3_writeLine r_ 0 v13 = z := ⟨_, rfl⟩
            obtain ⟨rfl, rfl⟩ : q17.1 = v16 ∧ q17.2 = u15 := ⟨by rw [← eq17, h14], by rw [← eq17, h14]⟩
            have hF := hF.trans (gLet_e eq17)
            have hP : va_P D vwCl [(a0, soF a1 a2 q17.2), (a1, soV y q17.2), (a2, soW y q17.2)] H := hP
            have hD : va_D A [(a0, soF a1 a2 q17.2), (a1, soV y q17.2), (a2, soW y q17.2)] := hD
            refine lv_pop hx hb dX3_writeByChance_85 rfl ?_
            refine lv_iinc (v := (x6 + 1)) (lv' := [(6, .int (x6 + 1)), (8, .int 0), (7, .int v2), (4, .long ((x4 * 6364136223846793005) + 1442695040888963407)), (0, .ref a0), (3, .int p1)]) hx hb dX3_writeByChance_86 hl (k := 5) rfl rfl (by decide) rfl (fun ls hl => ?_)
            refine lv_goto (tgt := 14) hx hb dX3_writeByChance_89 (by decide) ?_
            exact ih ((x4 * 6364136223846793005) + 1442695040888963407) (x6 + 1) q17.2 ((by rw [← eq17]; exact ok_X3_writeLine _ _ _ ho_)) (by rw [← eq17, z_X3_writeLine]; exact hz_) (lp_up (by assumption) hμ) hF _ _ hP hD hS ls (lv_sub hl [4, 5, 3, 0] rfl)
  have hF := f_X3_writeByChance_s r p0 p1
  refine lv_aload_n hx hb dX3_writeByChance_0 rfl (lv_at hl 0 rfl) ?_
  refine xs_calli (va_runV (As := []) (rest := []) ⟨hx, hb, hml, hown, hts⟩ (c_X3_exists l D y a0 a1 a2 s.heap.size r) (cwV 0 hts gX3_writeByChance_X3_exists rfl rfl rfl hd_X3_exists ⟨Nat.le_of_ble_eq_true rfl, Nat.le_of_ble_eq_true rfl⟩) (gV (q := (RX3, TX3, 15)) hE hP hD 0 rfl rfl) rfl rfl hl.1 rfl (lv_room (Nat.le_of_ble_eq_true rfl)) dX3_writeByChance_1 ⟨Nat.le_of_ble_eq_true rfl, Nat.le_of_ble_eq_true rfl⟩) (fun v19 h18 => ?_)
  have hF := hF.trans (gLet_e h18)
  refine lv_if_ne (tgt := 8) hx hb dX3_writeByChance_4 (by decide) (fun c_20 => ?_) (fun c_20 => ?_)
  · have hF := hF.trans (if_neg c_20)
    refine lv_lload_n hx hb dX3_writeByChance_8 rfl (lv_at hl 1 rfl) ?_
    refine lv_lstore (lv' := [(4, .long p0), (0, .ref a0), (1, .long p0), (3, .int p1)]) hx hb dX3_writeByChance_9 hl (by decide) rfl (fun ls hl => ?_)
    refine lv_iconst (v := 0) hx hb dX3_writeByChance_11 (by decide) ?_
    refine lv_istore (lv' := [(6, .int 0), (4, .long p0), (0, .ref a0), (1, .long p0), (3, .int p1)]) hx hb dX3_writeByChance_12 hl (by decide) rfl (fun ls hl => ?_)
    exact loop_14 _ p0 0 r (ho) (ex_ne (by assumption) (by assumption)) (Nat.lt_succ_self _) hF _ _ hP hD hS ls (lv_sub hl [2, 4, 1, 0] rfl)
  · have hF := hF.trans (if_pos c_20)
    exact W.vret hx hb hr (fun t ht hW => ⟨⟨r, rfl, hF, ⟨by rw [ht]; exact hP, hD⟩⟩, hS.F ht⟩) hS.2.2 dX3_writeByChance_7

def f_X3_changeSetting (r : gR) (p0 : Int32) (p1 : Int32) : gR :=
    if p0 = 0 then
    (upd r 11 p1)
  else
    (upd r 12 p1)
theorem f_X3_changeSetting_s (r : gR) (p0 : Int32) (p1 : Int32) : f_X3_changeSetting r p0 p1 =
    (if p0 = 0 then
    (upd r 11 p1)
  else
    (upd r 12 p1)) := rfl
theorem ok_X3_changeSetting (r : gR) (p0 : Int32) (p1 : Int32) (ho : okC r) : okC (f_X3_changeSetting r p0 p1) := by
  unfold f_X3_changeSetting
  refine gIf_i (P := fun z : gR => okC z) (fun _ => ?_) (fun _ => ?_)
  · exact (show okC (upd r 11 p1) from (ok_upd (by omega) ho))
  · exact (show okC (upd r 12 p1) from (ok_upd (by omega) ho))
theorem z_X3_changeSetting (r : gR) (p0 : Int32) (p1 : Int32) : (f_X3_changeSetting r p0 p1) 0 = r 0 := by
  unfold f_X3_changeSetting
  refine gIf_i (P := fun z : gR => z 0 = r 0) (fun _ => ?_) (fun _ => ?_)
  · exact (show (upd r 11 p1) 0 = r 0 from ((upd_ne (by omega)).trans rfl))
  · exact (show (upd r 12 p1) 0 = r 0 from ((upd_ne (by omega)).trans rfl))
theorem hd_X3_changeSetting : yX3_changeSetting.cls = RX3 ∧ yX3_changeSetting.cls ≠ "java/lang/invoke/MethodHandle" ∧ yX3_changeSetting.cls ≠ "java/lang/invoke/VarHandle" ∧ (parseMethodDescriptor yX3_changeSetting.desc).map (fun d => d.parameters.length) = some 2 := by decide +kernel
set_option maxHeartbeats 4000000 in
set_option maxRecDepth 100000 in
theorem c_X3_changeSetting (l : Launch) (D : va_G) (y : Nat → ClassId) (a0 a1 a2 : Nat) (zh : Nat) (r : gR) (p0 : Int32) (p1 : Int32) : Met l yX3_changeSetting wsX3_changeSetting ({ frames := 0, cells := 0, slots := 0, locals := 0 }) (gP D y [.ref a0, .int p0, .int p1] zh [(a0, soF a1 a2 r), (a1, soV y r), (a2, soW y r)]) (va_Qv (fun u : gR => f_X3_changeSetting r p0 p1 = u) (fun (u : gR) t => va_P D vwCl [(a0, soF a1 a2 u), (a1, soV y u), (a2, soW y u)] t.heap ∧ va_D (va_A [(a0, soF a1 a2 r), (a1, soV y r), (a2, soW y r)] zh) [(a0, soF a1 a2 u), (a1, soV y u), (a2, soW y u)]) (va_A [(a0, soF a1 a2 r), (a1, soV y r), (a2, soW y r)] zh)) 0 0 (va_A [(a0, soF a1 a2 r), (a1, soV y r), (a2, soW y r)] zh) := by
  refine Met.ofW (cc := cX3_changeSetting) (maxL := 3) (ret := none) (by decide) rfl ?_
  intro p e s m args below meth c s₁ B hml hv
  obtain ⟨rfl, hsz, hP, hE, hD⟩ := hv
  have hx := B.exec
  have hb := B.bytes
  have hr := B.returns
  have hts := atoms_spec (ws := wsX3_changeSetting) B.pre
  have hown : s.vm.findClass RX3 = some m.cls := findClass_of_methodNamed B.named
  have hlocks := B.notSynchronized
  have w_0 := hts (.fieldLink RX3 15 "GapLines$State" "every" "I") (List.mem_cons_of_mem _ (List.mem_append_left _ (List.mem_of_getElem? (i := 1) rfl)))
  have hi3 : ∀ w ∈ u_ws RX3 TX3 15, w ∈ wsX3_changeSetting := fun w h => (List.mem_cons_of_mem _ (List.mem_append_right _ h))
  have w_2 := hts (.fieldLink RX3 9 "GapLines$State" "endurance" "I") (List.mem_cons_of_mem _ (List.mem_append_left _ (List.mem_of_getElem? (i := 0) rfl)))
  subst hsz
  have hD := hD.self (sz := s.heap.size)
  generalize hAe : va_A [(a0, soF a1 a2 r), (a1, soV y r), (a2, soW y r)] s.heap.size = A at hD ⊢
  have hA : ∀ q : Nat, s.heap.size ≤ q → A q := fun q h => by rw [← hAe]; exact Or.inr h
  have hS : va_S A s.heap s.heap [] := va_S.rf
  have hl := lv_entry ([.ref a0, .int p0, .int p1]) (n := 3) (Nat.le_of_ble_eq_true rfl)
  rw [lg_entry_eq]
  generalize (lg_sl ([.ref a0, .int p0, .int p1]) ++ List.replicate (3 - (lg_sl ([.ref a0, .int p0, .int p1])).length) Slot.unset).toArray = ls at hl ⊢
  have hl : lv_has ls 3 [(0, .ref a0), (1, .int p0), (2, .int p1)] := hl
  have hF := f_X3_changeSetting_s r p0 p1
  refine lv_iload_n hx hb dX3_changeSetting_0 rfl (lv_at hl 1 rfl) ?_
  refine lv_if_ne (tgt := 12) hx hb dX3_changeSetting_1 (by decide) (fun c_1 => ?_) (fun c_1 => ?_)
  · have hF := hF.trans (if_neg c_1)
    refine lv_aload_n hx hb dX3_changeSetting_12 rfl (lv_at hl 0 rfl) ?_
    refine lv_iload_n hx hb dX3_changeSetting_13 rfl (lv_at hl 2 rfl) ?_
    refine va_put (D := D) (ci := 2) (v := .int p1) (ty := .int) (C := RX3) (T := TX3) (N := 15) hx hb hts hi3 tyX3 tyX3_ok nmX3 hown hE.1 hP hD hS 0 rfl rfl 12 (by decide) w_0 (fun _ h9 => h9) rfl (by decide +kernel) rfl rfl (Nat.le_of_ble_eq_true rfl) dX3_changeSetting_14 (fun H locs hP hD hS => ?_)
    obtain ⟨hP, hD⟩ := so_put (r := r) (x := p1) 12 (by decide) (by rfl) hP hD
    exact W.vret hx hb hr (fun t ht hW => ⟨⟨(upd r 12 p1), rfl, hF, ⟨by rw [ht]; exact hP, hD⟩⟩, hS.F ht⟩) hS.2.2 dX3_changeSetting_17
  · have hF := hF.trans (if_pos c_1)
    refine lv_aload_n hx hb dX3_changeSetting_4 rfl (lv_at hl 0 rfl) ?_
    refine lv_iload_n hx hb dX3_changeSetting_5 rfl (lv_at hl 2 rfl) ?_
    refine va_put (D := D) (ci := 2) (v := .int p1) (ty := .int) (C := RX3) (T := TX3) (N := 15) hx hb hts hi3 tyX3 tyX3_ok nmX3 hown hE.1 hP hD hS 0 rfl rfl 11 (by decide) w_2 (fun _ h9 => h9) rfl (by decide +kernel) rfl rfl (Nat.le_of_ble_eq_true rfl) dX3_changeSetting_6 (fun H locs hP hD hS => ?_)
    obtain ⟨hP, hD⟩ := so_put (r := r) (x := p1) 11 (by decide) (by rfl) hP hD
    refine lv_goto (tgt := 17) hx hb dX3_changeSetting_9 (by decide) ?_
    exact W.vret hx hb hr (fun t ht hW => ⟨⟨(upd r 11 p1), rfl, hF, ⟨by rw [ht]; exact hP, hD⟩⟩, hS.F ht⟩) hS.2.2 dX3_changeSetting_17

def f_X3_doWrite (r : gR) (p0 : Int32) (p1 : Int32) : Int32 × gR :=
    gLet (f_X3_hasLine r p0) (fun (v2 : Int32) =>
    if v2 = 0 then
      (0, r)
    else
      gLet (f_X5_isValue p1) (fun (v5 : Int32) =>
        if v5 = 0 then
          (0, r)
        else
          if (r 8) = 0 then
            gLet (f_X3_writeLine r p0 p1) (fun (q11 : Int32 × gR) =>
              (1, q11.2))
          else
            (0, r)))
theorem f_X3_doWrite_s (r : gR) (p0 : Int32) (p1 : Int32) : f_X3_doWrite r p0 p1 =
    (gLet (f_X3_hasLine r p0) (fun (v2 : Int32) =>
    if v2 = 0 then
      (0, r)
    else
      gLet (f_X5_isValue p1) (fun (v5 : Int32) =>
        if v5 = 0 then
          (0, r)
        else
          if (r 8) = 0 then
            gLet (f_X3_writeLine r p0 p1) (fun (q11 : Int32 × gR) =>
              (1, q11.2))
          else
            (0, r)))) := rfl
theorem bo_X3_doWrite (r : gR) (p0 : Int32) (p1 : Int32) : (f_X3_doWrite r p0 p1).1 = 0 ∨ (f_X3_doWrite r p0 p1).1 = 1 := by
  unfold f_X3_doWrite
  refine gLet_i (P := fun z : Int32 × gR => z.1 = 0 ∨ z.1 = 1) (fun v2 ev2 => ?_)
  refine gIf_i (P := fun z : Int32 × gR => z.1 = 0 ∨ z.1 = 1) (fun _ => ?_) (fun _ => ?_)
  · exact Or.inl rfl
  · refine gLet_i (P := fun z : Int32 × gR => z.1 = 0 ∨ z.1 = 1) (fun v5 ev5 => ?_)
    refine gIf_i (P := fun z : Int32 × gR => z.1 = 0 ∨ z.1 = 1) (fun _ => ?_) (fun _ => ?_)
    · exact Or.inl rfl
    · refine gIf_i (P := fun z : Int32 × gR => z.1 = 0 ∨ z.1 = 1) (fun _ => ?_) (fun _ => ?_)
      · refine gLet_i (P := fun z : Int32 × gR => z.1 = 0 ∨ z.1 = 1) (fun q11 eq11 => ?_)
        exact Or.inr rfl
      · exact Or.inl rfl
theorem ok_X3_doWrite (r : gR) (p0 : Int32) (p1 : Int32) (ho : okC r) : okC (f_X3_doWrite r p0 p1).2 := by
  unfold f_X3_doWrite
  refine gLet_i (P := fun z : Int32 × gR => okC z.2) (fun v2 ev2 => ?_)
  refine gIf_i (P := fun z : Int32 × gR => okC z.2) (fun _ => ?_) (fun _ => ?_)
  · exact (show okC (r) from ho)
  · refine gLet_i (P := fun z : Int32 × gR => okC z.2) (fun v5 ev5 => ?_)
    refine gIf_i (P := fun z : Int32 × gR => okC z.2) (fun _ => ?_) (fun _ => ?_)
    · exact (show okC (r) from ho)
    · refine gIf_i (P := fun z : Int32 × gR => okC z.2) (fun _ => ?_) (fun _ => ?_)
      · refine gLet_i (P := fun z : Int32 × gR => okC z.2) (fun q11 eq11 => ?_)
        have ok_q11 : okC q11.2 := by rw [← eq11]; exact (ok_X3_writeLine _ _ _ ho)
        exact (show okC (q11.2) from ok_q11)
      · exact (show okC (r) from ho)
theorem z_X3_doWrite (r : gR) (p0 : Int32) (p1 : Int32) : (f_X3_doWrite r p0 p1).2 0 = r 0 := by
  unfold f_X3_doWrite
  refine gLet_i (P := fun z : Int32 × gR => z.2 0 = r 0) (fun v2 ev2 => ?_)
  refine gIf_i (P := fun z : Int32 × gR => z.2 0 = r 0) (fun _ => ?_) (fun _ => ?_)
  · exact (show (r) 0 = r 0 from rfl)
  · refine gLet_i (P := fun z : Int32 × gR => z.2 0 = r 0) (fun v5 ev5 => ?_)
    refine gIf_i (P := fun z : Int32 × gR => z.2 0 = r 0) (fun _ => ?_) (fun _ => ?_)
    · exact (show (r) 0 = r 0 from rfl)
    · refine gIf_i (P := fun z : Int32 × gR => z.2 0 = r 0) (fun _ => ?_) (fun _ => ?_)
      · refine gLet_i (P := fun z : Int32 × gR => z.2 0 = r 0) (fun q11 eq11 => ?_)
        have ok_q11 : q11.2 0 = r 0 := by rw [← eq11]; exact ((z_X3_writeLine _ _ _ ).trans rfl)
        exact (show (q11.2) 0 = r 0 from ok_q11)
      · exact (show (r) 0 = r 0 from rfl)
theorem hd_X3_doWrite : yX3_doWrite.cls = RX3 ∧ yX3_doWrite.cls ≠ "java/lang/invoke/MethodHandle" ∧ yX3_doWrite.cls ≠ "java/lang/invoke/VarHandle" ∧ (parseMethodDescriptor yX3_doWrite.desc).map (fun d => d.parameters.length) = some 2 := by decide +kernel
set_option maxHeartbeats 4000000 in
set_option maxRecDepth 100000 in
theorem c_X3_doWrite (l : Launch) (D : va_G) (y : Nat → ClassId) (a0 a1 a2 : Nat) (zh : Nat) (r : gR) (p0 : Int32) (p1 : Int32) (ho : okC r) : Met l yX3_doWrite wsX3_doWrite ({ frames := 3, cells := 0, slots := 0, locals := 67 }) (gP D y [.ref a0, .int p0, .int p1] zh [(a0, soF a1 a2 r), (a1, soV y r), (a2, soW y r)]) (va_Qi (fun (v : Int32) (u : gR) => f_X3_doWrite r p0 p1 = (v, u)) (fun (u : gR) t => va_P D vwCl [(a0, soF a1 a2 u), (a1, soV y u), (a2, soW y u)] t.heap ∧ va_D (va_A [(a0, soF a1 a2 r), (a1, soV y r), (a2, soW y r)] zh) [(a0, soF a1 a2 u), (a1, soV y u), (a2, soW y u)]) (va_A [(a0, soF a1 a2 r), (a1, soV y r), (a2, soW y r)] zh)) 0 0 (va_A [(a0, soF a1 a2 r), (a1, soV y r), (a2, soW y r)] zh) := by
  refine Met.ofW (cc := cX3_doWrite) (maxL := 3) (ret := (some .boolean)) (by decide) rfl ?_
  intro p e s m args below meth c s₁ B hml hv
  obtain ⟨rfl, hsz, hP, hE, hD⟩ := hv
  have hx := B.exec
  have hb := B.bytes
  have hr := B.returns
  have hts := atoms_spec (ws := wsX3_doWrite) B.pre
  have hown : s.vm.findClass RX3 = some m.cls := findClass_of_methodNamed B.named
  have hlocks := B.notSynchronized
  have w_0 := hts (.initialized RX5) (List.mem_cons_of_mem _ (List.mem_append_left _ (List.mem_append_left _ (List.mem_of_getElem? (i := 8) rfl))))
  have w_1 := hts (.static yX5_isValue) (List.mem_cons_of_mem _ (List.mem_append_left _ (List.mem_append_left _ (List.mem_of_getElem? (i := 7) rfl))))
  have w_2 := hts (.fieldLink RX3 55 "GapLines$State" "dead" "Z") (List.mem_cons_of_mem _ (List.mem_append_left _ (List.mem_append_left _ (List.mem_of_getElem? (i := 0) rfl))))
  have hi3 : ∀ w ∈ u_ws RX3 TX3 15, w ∈ wsX3_doWrite := fun w h => (List.mem_cons_of_mem _ (List.mem_append_right _ h))
  subst hsz
  have hD := hD.self (sz := s.heap.size)
  generalize hAe : va_A [(a0, soF a1 a2 r), (a1, soV y r), (a2, soW y r)] s.heap.size = A at hD ⊢
  have hA : ∀ q : Nat, s.heap.size ≤ q → A q := fun q h => by rw [← hAe]; exact Or.inr h
  have hS : va_S A s.heap s.heap [] := va_S.rf
  have hl := lv_entry ([.ref a0, .int p0, .int p1]) (n := 3) (Nat.le_of_ble_eq_true rfl)
  rw [lg_entry_eq]
  generalize (lg_sl ([.ref a0, .int p0, .int p1]) ++ List.replicate (3 - (lg_sl ([.ref a0, .int p0, .int p1])).length) Slot.unset).toArray = ls at hl ⊢
  have hl : lv_has ls 3 [(0, .ref a0), (1, .int p0), (2, .int p1)] := hl
  have hF := f_X3_doWrite_s r p0 p1
  refine lv_aload_n hx hb dX3_doWrite_0 rfl (lv_at hl 0 rfl) ?_
  refine lv_iload_n hx hb dX3_doWrite_1 rfl (lv_at hl 1 rfl) ?_
  refine xs_calli (va_runV (As := [.int p0]) (rest := []) ⟨hx, hb, hml, hown, hts⟩ (c_X3_hasLine l D y a0 a1 a2 s.heap.size r p0) (cwV 1 hts gX3_doWrite_X3_hasLine rfl rfl rfl hd_X3_hasLine ⟨Nat.le_of_ble_eq_true rfl, Nat.le_of_ble_eq_true rfl⟩) (gV (q := (RX3, TX3, 15)) hE hP hD 0 rfl rfl) rfl rfl hl.1 rfl (lv_room (Nat.le_of_ble_eq_true rfl)) dX3_doWrite_2 ⟨Nat.le_of_ble_eq_true rfl, Nat.le_of_ble_eq_true rfl⟩) (fun v2 h1 => ?_)
  have hF := hF.trans (gLet_e h1)
  refine lv_if_eq (tgt := 22) hx hb dX3_doWrite_5 (by decide) (fun c_3 => ?_) (fun c_3 => ?_)
  · have hF := hF.trans (if_pos c_3)
    refine lv_iconst (v := 0) hx hb dX3_doWrite_22 (by decide) ?_
    exact W.zret (v := 0) hx hb hr rfl (fun t ht hW => ⟨⟨0, r, rfl, hF, ⟨by rw [ht]; exact hP, hD⟩⟩, hS.F ht⟩) hS.2.2 dX3_doWrite_23
  · have hF := hF.trans (if_neg c_3)
    refine lv_iload_n hx hb dX3_doWrite_8 rfl (lv_at hl 2 rfl) ?_
    refine xs_calli (va_runSN (As := [.int p1]) (rest := []) ⟨hx, hb, hml, hown, hts⟩ (c_X5_isValue l D y s.heap.size p1) ⟨va_cnB 1 hts gX3_doWrite_X5_isValue_n120 rfl rfl rfl (hE.2.1 _ (List.mem_of_getElem? (i := 6) rfl)) w_0 hd_X5_isValue ⟨Nat.le_of_ble_eq_true rfl, Nat.le_of_ble_eq_true rfl⟩, w_1, trivial⟩ (gS hE (hP.sub [] rfl) (hD.sub [] (by decide) rfl)) rfl rfl hl.1 rfl (lv_room (Nat.le_of_ble_eq_true rfl)) dX3_doWrite_9 ⟨Nat.le_of_ble_eq_true rfl, Nat.le_of_ble_eq_true rfl⟩) (fun v5 h4 => ?_)
    have hF := hF.trans (gLet_e h4)
    refine lv_if_eq (tgt := 22) hx hb dX3_doWrite_12 (by decide) (fun c_6 => ?_) (fun c_6 => ?_)
    · have hF := hF.trans (if_pos c_6)
      refine lv_iconst (v := 0) hx hb dX3_doWrite_22 (by decide) ?_
      exact W.zret (v := 0) hx hb hr rfl (fun t ht hW => ⟨⟨0, r, rfl, hF, ⟨by rw [ht]; exact hP, hD⟩⟩, hS.F ht⟩) hS.2.2 dX3_doWrite_23
    · have hF := hF.trans (if_neg c_6)
      refine lv_aload_n hx hb dX3_doWrite_15 rfl (lv_at hl 0 rfl) ?_
      refine va_get (D := D) (ci := 2) (v := .int (r 8)) (C := RX3) (T := TX3) (N := 15) hx hb hts hi3 hown hE.1 hP 0 rfl rfl 10 (by decide) w_2 (fun _ h9 => h9) rfl dX3_doWrite_16 ?_
      refine lv_if_eq (tgt := 24) hx hb dX3_doWrite_19 (by decide) (fun c_7 => ?_) (fun c_7 => ?_)
      · have hF := hF.trans (if_pos c_7)
        refine lv_aload_n hx hb dX3_doWrite_24 rfl (lv_at hl 0 rfl) ?_
        refine lv_iload_n hx hb dX3_doWrite_25 rfl (lv_at hl 1 rfl) ?_
        refine lv_iload_n hx hb dX3_doWrite_26 rfl (lv_at hl 2 rfl) ?_
        refine xw_calli (va_runV (As := [.int p0, .int p1]) (rest := []) ⟨hx, hb, hml, hown, hts⟩ (c_X3_writeLine l D y a0 a1 a2 s.heap.size r p0 p1 ho) (cwV 2 hts gX3_doWrite_X3_writeLine rfl rfl rfl hd_X3_writeLine ⟨Nat.le_of_ble_eq_true rfl, Nat.le_of_ble_eq_true rfl⟩) (gV (q := (RX3, TX3, 15)) hE hP hD 0 rfl rfl) rfl rfl hl.1 rfl (lv_room (Nat.le_of_ble_eq_true rfl)) dX3_doWrite_27 ⟨Nat.le_of_ble_eq_true rfl, Nat.le_of_ble_eq_true rfl⟩) hP hD hS hA [0, 1, 2] rfl (by decide) (fun _ => rfl) (fun v10 u9 H locs h8 hP hD hS => ?_)
        obtain ⟨q11, eq11⟩ : ∃ z : Int32 × gR, f_X3_writeLine r p0 p1 = z := ⟨_, rfl⟩
        obtain ⟨rfl, rfl⟩ : q11.1 = v10 ∧ q11.2 = u9 := ⟨by rw [← eq11, h8], by rw [← eq11, h8]⟩
        have hF := hF.trans (gLet_e eq11)
        have hP : va_P D vwCl [(a0, soF a1 a2 q11.2), (a1, soV y q11.2), (a2, soW y q11.2)] H := hP
        have hD : va_D A [(a0, soF a1 a2 q11.2), (a1, soV y q11.2), (a2, soW y q11.2)] := hD
        refine lv_pop hx hb dX3_doWrite_30 rfl ?_
        refine lv_iconst (v := 1) hx hb dX3_doWrite_31 (by decide) ?_
        exact W.zret (v := 1) hx hb hr rfl (fun t ht hW => ⟨⟨1, q11.2, rfl, hF, ⟨by rw [ht]; exact hP, hD⟩⟩, hS.F ht⟩) hS.2.2 dX3_doWrite_32
      · have hF := hF.trans (if_neg c_7)
        refine lv_iconst (v := 0) hx hb dX3_doWrite_22 (by decide) ?_
        exact W.zret (v := 0) hx hb hr rfl (fun t ht hW => ⟨⟨0, r, rfl, hF, ⟨by rw [ht]; exact hP, hD⟩⟩, hS.F ht⟩) hS.2.2 dX3_doWrite_23

def f_X3_doHammer (r : gR) (p0 : Int32) (p1 : Int32) : Int32 × gR :=
    gLet (f_X3_hasLine r p0) (fun (v2 : Int32) =>
    if v2 = 0 then
      (0, r)
    else
      gLet (f_X5_isHammered p1) (fun (v5 : Int32) =>
        if v5 = 0 then
          (0, r)
        else
          gLet (f_X3_hammerLine r p0 p1) (fun (q10 : Int32 × gR) =>
            (1, q10.2))))
theorem f_X3_doHammer_s (r : gR) (p0 : Int32) (p1 : Int32) : f_X3_doHammer r p0 p1 =
    (gLet (f_X3_hasLine r p0) (fun (v2 : Int32) =>
    if v2 = 0 then
      (0, r)
    else
      gLet (f_X5_isHammered p1) (fun (v5 : Int32) =>
        if v5 = 0 then
          (0, r)
        else
          gLet (f_X3_hammerLine r p0 p1) (fun (q10 : Int32 × gR) =>
            (1, q10.2))))) := rfl
theorem bo_X3_doHammer (r : gR) (p0 : Int32) (p1 : Int32) : (f_X3_doHammer r p0 p1).1 = 0 ∨ (f_X3_doHammer r p0 p1).1 = 1 := by
  unfold f_X3_doHammer
  refine gLet_i (P := fun z : Int32 × gR => z.1 = 0 ∨ z.1 = 1) (fun v2 ev2 => ?_)
  refine gIf_i (P := fun z : Int32 × gR => z.1 = 0 ∨ z.1 = 1) (fun _ => ?_) (fun _ => ?_)
  · exact Or.inl rfl
  · refine gLet_i (P := fun z : Int32 × gR => z.1 = 0 ∨ z.1 = 1) (fun v5 ev5 => ?_)
    refine gIf_i (P := fun z : Int32 × gR => z.1 = 0 ∨ z.1 = 1) (fun _ => ?_) (fun _ => ?_)
    · exact Or.inl rfl
    · refine gLet_i (P := fun z : Int32 × gR => z.1 = 0 ∨ z.1 = 1) (fun q10 eq10 => ?_)
      exact Or.inr rfl
theorem ok_X3_doHammer (r : gR) (p0 : Int32) (p1 : Int32) (ho : okC r) : okC (f_X3_doHammer r p0 p1).2 := by
  unfold f_X3_doHammer
  refine gLet_i (P := fun z : Int32 × gR => okC z.2) (fun v2 ev2 => ?_)
  refine gIf_i (P := fun z : Int32 × gR => okC z.2) (fun _ => ?_) (fun _ => ?_)
  · exact (show okC (r) from ho)
  · refine gLet_i (P := fun z : Int32 × gR => okC z.2) (fun v5 ev5 => ?_)
    refine gIf_i (P := fun z : Int32 × gR => okC z.2) (fun _ => ?_) (fun _ => ?_)
    · exact (show okC (r) from ho)
    · refine gLet_i (P := fun z : Int32 × gR => okC z.2) (fun q10 eq10 => ?_)
      have ok_q10 : okC q10.2 := by rw [← eq10]; exact (ok_X3_hammerLine _ _ _ ho)
      exact (show okC (q10.2) from ok_q10)
theorem z_X3_doHammer (r : gR) (p0 : Int32) (p1 : Int32) : (f_X3_doHammer r p0 p1).2 0 = r 0 := by
  unfold f_X3_doHammer
  refine gLet_i (P := fun z : Int32 × gR => z.2 0 = r 0) (fun v2 ev2 => ?_)
  refine gIf_i (P := fun z : Int32 × gR => z.2 0 = r 0) (fun _ => ?_) (fun _ => ?_)
  · exact (show (r) 0 = r 0 from rfl)
  · refine gLet_i (P := fun z : Int32 × gR => z.2 0 = r 0) (fun v5 ev5 => ?_)
    refine gIf_i (P := fun z : Int32 × gR => z.2 0 = r 0) (fun _ => ?_) (fun _ => ?_)
    · exact (show (r) 0 = r 0 from rfl)
    · refine gLet_i (P := fun z : Int32 × gR => z.2 0 = r 0) (fun q10 eq10 => ?_)
      have ok_q10 : q10.2 0 = r 0 := by rw [← eq10]; exact ((z_X3_hammerLine _ _ _ ).trans rfl)
      exact (show (q10.2) 0 = r 0 from ok_q10)
theorem hd_X3_doHammer : yX3_doHammer.cls = RX3 ∧ yX3_doHammer.cls ≠ "java/lang/invoke/MethodHandle" ∧ yX3_doHammer.cls ≠ "java/lang/invoke/VarHandle" ∧ (parseMethodDescriptor yX3_doHammer.desc).map (fun d => d.parameters.length) = some 2 := by decide +kernel
set_option maxHeartbeats 4000000 in
set_option maxRecDepth 100000 in
theorem c_X3_doHammer (l : Launch) (D : va_G) (y : Nat → ClassId) (a0 a1 a2 : Nat) (zh : Nat) (r : gR) (p0 : Int32) (p1 : Int32) (ho : okC r) : Met l yX3_doHammer wsX3_doHammer ({ frames := 4, cells := 0, slots := 0, locals := 90 }) (gP D y [.ref a0, .int p0, .int p1] zh [(a0, soF a1 a2 r), (a1, soV y r), (a2, soW y r)]) (va_Qi (fun (v : Int32) (u : gR) => f_X3_doHammer r p0 p1 = (v, u)) (fun (u : gR) t => va_P D vwCl [(a0, soF a1 a2 u), (a1, soV y u), (a2, soW y u)] t.heap ∧ va_D (va_A [(a0, soF a1 a2 r), (a1, soV y r), (a2, soW y r)] zh) [(a0, soF a1 a2 u), (a1, soV y u), (a2, soW y u)]) (va_A [(a0, soF a1 a2 r), (a1, soV y r), (a2, soW y r)] zh)) 0 0 (va_A [(a0, soF a1 a2 r), (a1, soV y r), (a2, soW y r)] zh) := by
  refine Met.ofW (cc := cX3_doHammer) (maxL := 3) (ret := (some .boolean)) (by decide) rfl ?_
  intro p e s m args below meth c s₁ B hml hv
  obtain ⟨rfl, hsz, hP, hE, hD⟩ := hv
  have hx := B.exec
  have hb := B.bytes
  have hr := B.returns
  have hts := atoms_spec (ws := wsX3_doHammer) B.pre
  have hown : s.vm.findClass RX3 = some m.cls := findClass_of_methodNamed B.named
  have hlocks := B.notSynchronized
  have w_0 := hts (.initialized RX5) (List.mem_cons_of_mem _ (List.mem_append_left _ (List.mem_append_left _ (List.mem_of_getElem? (i := 7) rfl))))
  have w_1 := hts (.static yX5_isHammered) (List.mem_cons_of_mem _ (List.mem_append_left _ (List.mem_append_left _ (List.mem_of_getElem? (i := 6) rfl))))
  subst hsz
  have hD := hD.self (sz := s.heap.size)
  generalize hAe : va_A [(a0, soF a1 a2 r), (a1, soV y r), (a2, soW y r)] s.heap.size = A at hD ⊢
  have hA : ∀ q : Nat, s.heap.size ≤ q → A q := fun q h => by rw [← hAe]; exact Or.inr h
  have hS : va_S A s.heap s.heap [] := va_S.rf
  have hl := lv_entry ([.ref a0, .int p0, .int p1]) (n := 3) (Nat.le_of_ble_eq_true rfl)
  rw [lg_entry_eq]
  generalize (lg_sl ([.ref a0, .int p0, .int p1]) ++ List.replicate (3 - (lg_sl ([.ref a0, .int p0, .int p1])).length) Slot.unset).toArray = ls at hl ⊢
  have hl : lv_has ls 3 [(0, .ref a0), (1, .int p0), (2, .int p1)] := hl
  have hF := f_X3_doHammer_s r p0 p1
  refine lv_aload_n hx hb dX3_doHammer_0 rfl (lv_at hl 0 rfl) ?_
  refine lv_iload_n hx hb dX3_doHammer_1 rfl (lv_at hl 1 rfl) ?_
  refine xs_calli (va_runV (As := [.int p0]) (rest := []) ⟨hx, hb, hml, hown, hts⟩ (c_X3_hasLine l D y a0 a1 a2 s.heap.size r p0) (cwV 1 hts gX3_doHammer_X3_hasLine rfl rfl rfl hd_X3_hasLine ⟨Nat.le_of_ble_eq_true rfl, Nat.le_of_ble_eq_true rfl⟩) (gV (q := (RX3, TX3, 15)) hE hP hD 0 rfl rfl) rfl rfl hl.1 rfl (lv_room (Nat.le_of_ble_eq_true rfl)) dX3_doHammer_2 ⟨Nat.le_of_ble_eq_true rfl, Nat.le_of_ble_eq_true rfl⟩) (fun v2 h1 => ?_)
  have hF := hF.trans (gLet_e h1)
  refine lv_if_eq (tgt := 15) hx hb dX3_doHammer_5 (by decide) (fun c_3 => ?_) (fun c_3 => ?_)
  · have hF := hF.trans (if_pos c_3)
    refine lv_iconst (v := 0) hx hb dX3_doHammer_15 (by decide) ?_
    exact W.zret (v := 0) hx hb hr rfl (fun t ht hW => ⟨⟨0, r, rfl, hF, ⟨by rw [ht]; exact hP, hD⟩⟩, hS.F ht⟩) hS.2.2 dX3_doHammer_16
  · have hF := hF.trans (if_neg c_3)
    refine lv_iload_n hx hb dX3_doHammer_8 rfl (lv_at hl 2 rfl) ?_
    refine xs_calli (va_runSN (As := [.int p1]) (rest := []) ⟨hx, hb, hml, hown, hts⟩ (c_X5_isHammered l D y s.heap.size p1) ⟨va_cnB 1 hts gX3_doHammer_X5_isHammered_n123 rfl rfl rfl (hE.2.1 _ (List.mem_of_getElem? (i := 7) rfl)) w_0 hd_X5_isHammered ⟨Nat.le_of_ble_eq_true rfl, Nat.le_of_ble_eq_true rfl⟩, w_1, trivial⟩ (gS hE (hP.sub [] rfl) (hD.sub [] (by decide) rfl)) rfl rfl hl.1 rfl (lv_room (Nat.le_of_ble_eq_true rfl)) dX3_doHammer_9 ⟨Nat.le_of_ble_eq_true rfl, Nat.le_of_ble_eq_true rfl⟩) (fun v5 h4 => ?_)
    have hF := hF.trans (gLet_e h4)
    refine lv_if_ne (tgt := 17) hx hb dX3_doHammer_12 (by decide) (fun c_6 => ?_) (fun c_6 => ?_)
    · have hF := hF.trans (if_neg c_6)
      refine lv_aload_n hx hb dX3_doHammer_17 rfl (lv_at hl 0 rfl) ?_
      refine lv_iload_n hx hb dX3_doHammer_18 rfl (lv_at hl 1 rfl) ?_
      refine lv_iload_n hx hb dX3_doHammer_19 rfl (lv_at hl 2 rfl) ?_
      refine xw_calli (va_runV (As := [.int p0, .int p1]) (rest := []) ⟨hx, hb, hml, hown, hts⟩ (c_X3_hammerLine l D y a0 a1 a2 s.heap.size r p0 p1 ho) (cwV 2 hts gX3_doHammer_X3_hammerLine rfl rfl rfl hd_X3_hammerLine ⟨Nat.le_of_ble_eq_true rfl, Nat.le_of_ble_eq_true rfl⟩) (gV (q := (RX3, TX3, 15)) hE hP hD 0 rfl rfl) rfl rfl hl.1 rfl (lv_room (Nat.le_of_ble_eq_true rfl)) dX3_doHammer_20 ⟨Nat.le_of_ble_eq_true rfl, Nat.le_of_ble_eq_true rfl⟩) hP hD hS hA [0, 1, 2] rfl (by decide) (fun _ => rfl) (fun v9 u8 H locs h7 hP hD hS => ?_)
      obtain ⟨q10, eq10⟩ : ∃ z : Int32 × gR, f_X3_hammerLine r p0 p1 = z := ⟨_, rfl⟩
      obtain ⟨rfl, rfl⟩ : q10.1 = v9 ∧ q10.2 = u8 := ⟨by rw [← eq10, h7], by rw [← eq10, h7]⟩
      have hF := hF.trans (gLet_e eq10)
      have hP : va_P D vwCl [(a0, soF a1 a2 q10.2), (a1, soV y q10.2), (a2, soW y q10.2)] H := hP
      have hD : va_D A [(a0, soF a1 a2 q10.2), (a1, soV y q10.2), (a2, soW y q10.2)] := hD
      refine lv_pop hx hb dX3_doHammer_23 rfl ?_
      refine lv_iconst (v := 1) hx hb dX3_doHammer_24 (by decide) ?_
      exact W.zret (v := 1) hx hb hr rfl (fun t ht hW => ⟨⟨1, q10.2, rfl, hF, ⟨by rw [ht]; exact hP, hD⟩⟩, hS.F ht⟩) hS.2.2 dX3_doHammer_25
    · have hF := hF.trans (if_pos c_6)
      refine lv_iconst (v := 0) hx hb dX3_doHammer_15 (by decide) ?_
      exact W.zret (v := 0) hx hb hr rfl (fun t ht hW => ⟨⟨0, r, rfl, hF, ⟨by rw [ht]; exact hP, hD⟩⟩, hS.F ht⟩) hS.2.2 dX3_doHammer_16

def f_X3_doAll (r : gR) (p0 : Int32) : Int32 × gR :=
    gLet (f_X5_isRounds p0) (fun (v2 : Int32) =>
    if v2 = 0 then
      (0, r)
    else
      gLet (f_X3_exists r) (fun (v5 : Int32) =>
        if v5 = 0 then
          (0, r)
        else
          gLet (f_X3_writeInTurn r (p0 * (r 0))) (fun (q10 : Int32 × gR) =>
            (1, q10.2))))
theorem f_X3_doAll_s (r : gR) (p0 : Int32) : f_X3_doAll r p0 =
    (gLet (f_X5_isRounds p0) (fun (v2 : Int32) =>
    if v2 = 0 then
      (0, r)
    else
      gLet (f_X3_exists r) (fun (v5 : Int32) =>
        if v5 = 0 then
          (0, r)
        else
          gLet (f_X3_writeInTurn r (p0 * (r 0))) (fun (q10 : Int32 × gR) =>
            (1, q10.2))))) := rfl
theorem bo_X3_doAll (r : gR) (p0 : Int32) : (f_X3_doAll r p0).1 = 0 ∨ (f_X3_doAll r p0).1 = 1 := by
  unfold f_X3_doAll
  refine gLet_i (P := fun z : Int32 × gR => z.1 = 0 ∨ z.1 = 1) (fun v2 ev2 => ?_)
  refine gIf_i (P := fun z : Int32 × gR => z.1 = 0 ∨ z.1 = 1) (fun _ => ?_) (fun _ => ?_)
  · exact Or.inl rfl
  · refine gLet_i (P := fun z : Int32 × gR => z.1 = 0 ∨ z.1 = 1) (fun v5 ev5 => ?_)
    refine gIf_i (P := fun z : Int32 × gR => z.1 = 0 ∨ z.1 = 1) (fun _ => ?_) (fun _ => ?_)
    · exact Or.inl rfl
    · refine gLet_i (P := fun z : Int32 × gR => z.1 = 0 ∨ z.1 = 1) (fun q10 eq10 => ?_)
      exact Or.inr rfl
theorem ok_X3_doAll (r : gR) (p0 : Int32) (ho : okC r) : okC (f_X3_doAll r p0).2 := by
  unfold f_X3_doAll
  refine gLet_i (P := fun z : Int32 × gR => okC z.2) (fun v2 ev2 => ?_)
  refine gIf_i (P := fun z : Int32 × gR => okC z.2) (fun _ => ?_) (fun _ => ?_)
  · exact (show okC (r) from ho)
  · refine gLet_i (P := fun z : Int32 × gR => okC z.2) (fun v5 ev5 => ?_)
    refine gIf_i (P := fun z : Int32 × gR => okC z.2) (fun _ => ?_) (fun _ => ?_)
    · exact (show okC (r) from ho)
    · refine gLet_i (P := fun z : Int32 × gR => okC z.2) (fun q10 eq10 => ?_)
      have ok_q10 : okC q10.2 := by rw [← eq10]; exact (ok_X3_writeInTurn _ _ ho)
      exact (show okC (q10.2) from ok_q10)
theorem z_X3_doAll (r : gR) (p0 : Int32) : (f_X3_doAll r p0).2 0 = r 0 := by
  unfold f_X3_doAll
  refine gLet_i (P := fun z : Int32 × gR => z.2 0 = r 0) (fun v2 ev2 => ?_)
  refine gIf_i (P := fun z : Int32 × gR => z.2 0 = r 0) (fun _ => ?_) (fun _ => ?_)
  · exact (show (r) 0 = r 0 from rfl)
  · refine gLet_i (P := fun z : Int32 × gR => z.2 0 = r 0) (fun v5 ev5 => ?_)
    refine gIf_i (P := fun z : Int32 × gR => z.2 0 = r 0) (fun _ => ?_) (fun _ => ?_)
    · exact (show (r) 0 = r 0 from rfl)
    · refine gLet_i (P := fun z : Int32 × gR => z.2 0 = r 0) (fun q10 eq10 => ?_)
      have ok_q10 : q10.2 0 = r 0 := by rw [← eq10]; exact ((z_X3_writeInTurn _ _ ).trans rfl)
      exact (show (q10.2) 0 = r 0 from ok_q10)
theorem hd_X3_doAll : yX3_doAll.cls = RX3 ∧ yX3_doAll.cls ≠ "java/lang/invoke/MethodHandle" ∧ yX3_doAll.cls ≠ "java/lang/invoke/VarHandle" ∧ (parseMethodDescriptor yX3_doAll.desc).map (fun d => d.parameters.length) = some 1 := by decide +kernel
set_option maxHeartbeats 4000000 in
set_option maxRecDepth 100000 in
theorem c_X3_doAll (l : Launch) (D : va_G) (y : Nat → ClassId) (a0 a1 a2 : Nat) (zh : Nat) (r : gR) (p0 : Int32) (ho : okC r) : Met l yX3_doAll wsX3_doAll ({ frames := 4, cells := 0, slots := 0, locals := 90 }) (gP D y [.ref a0, .int p0] zh [(a0, soF a1 a2 r), (a1, soV y r), (a2, soW y r)]) (va_Qi (fun (v : Int32) (u : gR) => f_X3_doAll r p0 = (v, u)) (fun (u : gR) t => va_P D vwCl [(a0, soF a1 a2 u), (a1, soV y u), (a2, soW y u)] t.heap ∧ va_D (va_A [(a0, soF a1 a2 r), (a1, soV y r), (a2, soW y r)] zh) [(a0, soF a1 a2 u), (a1, soV y u), (a2, soW y u)]) (va_A [(a0, soF a1 a2 r), (a1, soV y r), (a2, soW y r)] zh)) 0 0 (va_A [(a0, soF a1 a2 r), (a1, soV y r), (a2, soW y r)] zh) := by
  refine Met.ofW (cc := cX3_doAll) (maxL := 2) (ret := (some .boolean)) (by decide) rfl ?_
  intro p e s m args below meth c s₁ B hml hv
  obtain ⟨rfl, hsz, hP, hE, hD⟩ := hv
  have hx := B.exec
  have hb := B.bytes
  have hr := B.returns
  have hts := atoms_spec (ws := wsX3_doAll) B.pre
  have hown : s.vm.findClass RX3 = some m.cls := findClass_of_methodNamed B.named
  have hlocks := B.notSynchronized
  have w_0 := hts (.initialized RX5) (List.mem_cons_of_mem _ (List.mem_append_left _ (List.mem_append_left _ (List.mem_of_getElem? (i := 2) rfl))))
  have w_1 := hts (.static yX5_isRounds) (List.mem_cons_of_mem _ (List.mem_append_left _ (List.mem_append_left _ (List.mem_of_getElem? (i := 1) rfl))))
  have w_2 := hts (.fieldLink RX3 25 "GapLines$State" "lines" "I") (List.mem_cons_of_mem _ (List.mem_append_left _ (List.mem_append_left _ (List.mem_of_getElem? (i := 0) rfl))))
  have hi3 : ∀ w ∈ u_ws RX3 TX3 15, w ∈ wsX3_doAll := fun w h => (List.mem_cons_of_mem _ (List.mem_append_right _ h))
  subst hsz
  have hD := hD.self (sz := s.heap.size)
  generalize hAe : va_A [(a0, soF a1 a2 r), (a1, soV y r), (a2, soW y r)] s.heap.size = A at hD ⊢
  have hA : ∀ q : Nat, s.heap.size ≤ q → A q := fun q h => by rw [← hAe]; exact Or.inr h
  have hS : va_S A s.heap s.heap [] := va_S.rf
  have hl := lv_entry ([.ref a0, .int p0]) (n := 2) (Nat.le_of_ble_eq_true rfl)
  rw [lg_entry_eq]
  generalize (lg_sl ([.ref a0, .int p0]) ++ List.replicate (2 - (lg_sl ([.ref a0, .int p0])).length) Slot.unset).toArray = ls at hl ⊢
  have hl : lv_has ls 2 [(0, .ref a0), (1, .int p0)] := hl
  have hF := f_X3_doAll_s r p0
  refine lv_iload_n hx hb dX3_doAll_0 rfl (lv_at hl 1 rfl) ?_
  refine xs_calli (va_runSN (As := [.int p0]) (rest := []) ⟨hx, hb, hml, hown, hts⟩ (c_X5_isRounds l D y s.heap.size p0) ⟨va_cnB 1 hts gX3_doAll_X5_isRounds_n129 rfl rfl rfl (hE.2.1 _ (List.mem_of_getElem? (i := 8) rfl)) w_0 hd_X5_isRounds ⟨Nat.le_of_ble_eq_true rfl, Nat.le_of_ble_eq_true rfl⟩, w_1, trivial⟩ (gS hE (hP.sub [] rfl) (hD.sub [] (by decide) rfl)) rfl rfl hl.1 rfl (lv_room (Nat.le_of_ble_eq_true rfl)) dX3_doAll_1 ⟨Nat.le_of_ble_eq_true rfl, Nat.le_of_ble_eq_true rfl⟩) (fun v2 h1 => ?_)
  have hF := hF.trans (gLet_e h1)
  refine lv_if_eq (tgt := 14) hx hb dX3_doAll_4 (by decide) (fun c_3 => ?_) (fun c_3 => ?_)
  · have hF := hF.trans (if_pos c_3)
    refine lv_iconst (v := 0) hx hb dX3_doAll_14 (by decide) ?_
    exact W.zret (v := 0) hx hb hr rfl (fun t ht hW => ⟨⟨0, r, rfl, hF, ⟨by rw [ht]; exact hP, hD⟩⟩, hS.F ht⟩) hS.2.2 dX3_doAll_15
  · have hF := hF.trans (if_neg c_3)
    refine lv_aload_n hx hb dX3_doAll_7 rfl (lv_at hl 0 rfl) ?_
    refine xs_calli (va_runV (As := []) (rest := []) ⟨hx, hb, hml, hown, hts⟩ (c_X3_exists l D y a0 a1 a2 s.heap.size r) (cwV 0 hts gX3_doAll_X3_exists rfl rfl rfl hd_X3_exists ⟨Nat.le_of_ble_eq_true rfl, Nat.le_of_ble_eq_true rfl⟩) (gV (q := (RX3, TX3, 15)) hE hP hD 0 rfl rfl) rfl rfl hl.1 rfl (lv_room (Nat.le_of_ble_eq_true rfl)) dX3_doAll_8 ⟨Nat.le_of_ble_eq_true rfl, Nat.le_of_ble_eq_true rfl⟩) (fun v5 h4 => ?_)
    have hF := hF.trans (gLet_e h4)
    refine lv_if_ne (tgt := 16) hx hb dX3_doAll_11 (by decide) (fun c_6 => ?_) (fun c_6 => ?_)
    · have hF := hF.trans (if_neg c_6)
      refine lv_aload_n hx hb dX3_doAll_16 rfl (lv_at hl 0 rfl) ?_
      refine lv_iload_n hx hb dX3_doAll_17 rfl (lv_at hl 1 rfl) ?_
      refine lv_aload_n hx hb dX3_doAll_18 rfl (lv_at hl 0 rfl) ?_
      refine va_get (D := D) (ci := 2) (v := .int (r 0)) (C := RX3) (T := TX3) (N := 15) hx hb hts hi3 hown hE.1 hP 0 rfl rfl 0 (by decide) w_2 (fun _ h9 => h9) rfl dX3_doAll_19 ?_
      refine lv_imul hx hb dX3_doAll_22 ?_
      refine xw_calli (va_runV (As := [.int (p0 * (r 0))]) (rest := []) ⟨hx, hb, hml, hown, hts⟩ (c_X3_writeInTurn l D y a0 a1 a2 s.heap.size r (p0 * (r 0)) ho) (cwV 1 hts gX3_doAll_X3_writeInTurn rfl rfl rfl hd_X3_writeInTurn ⟨Nat.le_of_ble_eq_true rfl, Nat.le_of_ble_eq_true rfl⟩) (gV (q := (RX3, TX3, 15)) hE hP hD 0 rfl rfl) rfl rfl hl.1 rfl (lv_room (Nat.le_of_ble_eq_true rfl)) dX3_doAll_23 ⟨Nat.le_of_ble_eq_true rfl, Nat.le_of_ble_eq_true rfl⟩) hP hD hS hA [0, 1, 2] rfl (by decide) (fun _ => rfl) (fun v9 u8 H locs h7 hP hD hS => ?_)
      obtain ⟨q10, eq10⟩ : ∃ z : Int32 × gR, f_X3_writeInTurn r (p0 * (r 0)) = z := ⟨_, rfl⟩
      obtain ⟨rfl, rfl⟩ : q10.1 = v9 ∧ q10.2 = u8 := ⟨by rw [← eq10, h7], by rw [← eq10, h7]⟩
      have hF := hF.trans (gLet_e eq10)
      have hP : va_P D vwCl [(a0, soF a1 a2 q10.2), (a1, soV y q10.2), (a2, soW y q10.2)] H := hP
      have hD : va_D A [(a0, soF a1 a2 q10.2), (a1, soV y q10.2), (a2, soW y q10.2)] := hD
      refine lv_pop hx hb dX3_doAll_26 rfl ?_
      refine lv_iconst (v := 1) hx hb dX3_doAll_27 (by decide) ?_
      exact W.zret (v := 1) hx hb hr rfl (fun t ht hW => ⟨⟨1, q10.2, rfl, hF, ⟨by rw [ht]; exact hP, hD⟩⟩, hS.F ht⟩) hS.2.2 dX3_doAll_28
    · have hF := hF.trans (if_pos c_6)
      refine lv_iconst (v := 0) hx hb dX3_doAll_14 (by decide) ?_
      exact W.zret (v := 0) hx hb hr rfl (fun t ht hW => ⟨⟨0, r, rfl, hF, ⟨by rw [ht]; exact hP, hD⟩⟩, hS.F ht⟩) hS.2.2 dX3_doAll_15

def f_X3_doSet (r : gR) (p0 : Int32) (p1 : Int32) : Int32 × gR :=
    gLet (f_X5_isSettingValue p0 p1) (fun (v2 : Int32) =>
    if v2 = 0 then
      (0, r)
    else
      gLet (f_X3_changeSetting r p0 p1) (fun (u5 : gR) =>
        (1, u5)))
theorem f_X3_doSet_s (r : gR) (p0 : Int32) (p1 : Int32) : f_X3_doSet r p0 p1 =
    (gLet (f_X5_isSettingValue p0 p1) (fun (v2 : Int32) =>
    if v2 = 0 then
      (0, r)
    else
      gLet (f_X3_changeSetting r p0 p1) (fun (u5 : gR) =>
        (1, u5)))) := rfl
theorem bo_X3_doSet (r : gR) (p0 : Int32) (p1 : Int32) : (f_X3_doSet r p0 p1).1 = 0 ∨ (f_X3_doSet r p0 p1).1 = 1 := by
  unfold f_X3_doSet
  refine gLet_i (P := fun z : Int32 × gR => z.1 = 0 ∨ z.1 = 1) (fun v2 ev2 => ?_)
  refine gIf_i (P := fun z : Int32 × gR => z.1 = 0 ∨ z.1 = 1) (fun _ => ?_) (fun _ => ?_)
  · exact Or.inl rfl
  · refine gLet_i (P := fun z : Int32 × gR => z.1 = 0 ∨ z.1 = 1) (fun u5 eu5 => ?_)
    exact Or.inr rfl
theorem ok_X3_doSet (r : gR) (p0 : Int32) (p1 : Int32) (ho : okC r) : okC (f_X3_doSet r p0 p1).2 := by
  unfold f_X3_doSet
  refine gLet_i (P := fun z : Int32 × gR => okC z.2) (fun v2 ev2 => ?_)
  refine gIf_i (P := fun z : Int32 × gR => okC z.2) (fun _ => ?_) (fun _ => ?_)
  · exact (show okC (r) from ho)
  · refine gLet_i (P := fun z : Int32 × gR => okC z.2) (fun u5 eu5 => ?_)
    have ok_u5 : okC u5 := by rw [← eu5]; exact (ok_X3_changeSetting _ _ _ ho)
    exact (show okC (u5) from ok_u5)
theorem z_X3_doSet (r : gR) (p0 : Int32) (p1 : Int32) : (f_X3_doSet r p0 p1).2 0 = r 0 := by
  unfold f_X3_doSet
  refine gLet_i (P := fun z : Int32 × gR => z.2 0 = r 0) (fun v2 ev2 => ?_)
  refine gIf_i (P := fun z : Int32 × gR => z.2 0 = r 0) (fun _ => ?_) (fun _ => ?_)
  · exact (show (r) 0 = r 0 from rfl)
  · refine gLet_i (P := fun z : Int32 × gR => z.2 0 = r 0) (fun u5 eu5 => ?_)
    have ok_u5 : u5 0 = r 0 := by rw [← eu5]; exact ((z_X3_changeSetting _ _ _ ).trans rfl)
    exact (show (u5) 0 = r 0 from ok_u5)
theorem hd_X3_doSet : yX3_doSet.cls = RX3 ∧ yX3_doSet.cls ≠ "java/lang/invoke/MethodHandle" ∧ yX3_doSet.cls ≠ "java/lang/invoke/VarHandle" ∧ (parseMethodDescriptor yX3_doSet.desc).map (fun d => d.parameters.length) = some 2 := by decide +kernel
set_option maxHeartbeats 4000000 in
set_option maxRecDepth 100000 in
theorem c_X3_doSet (l : Launch) (D : va_G) (y : Nat → ClassId) (a0 a1 a2 : Nat) (zh : Nat) (r : gR) (p0 : Int32) (p1 : Int32) : Met l yX3_doSet wsX3_doSet ({ frames := 1, cells := 0, slots := 0, locals := 22 }) (gP D y [.ref a0, .int p0, .int p1] zh [(a0, soF a1 a2 r), (a1, soV y r), (a2, soW y r)]) (va_Qi (fun (v : Int32) (u : gR) => f_X3_doSet r p0 p1 = (v, u)) (fun (u : gR) t => va_P D vwCl [(a0, soF a1 a2 u), (a1, soV y u), (a2, soW y u)] t.heap ∧ va_D (va_A [(a0, soF a1 a2 r), (a1, soV y r), (a2, soW y r)] zh) [(a0, soF a1 a2 u), (a1, soV y u), (a2, soW y u)]) (va_A [(a0, soF a1 a2 r), (a1, soV y r), (a2, soW y r)] zh)) 0 0 (va_A [(a0, soF a1 a2 r), (a1, soV y r), (a2, soW y r)] zh) := by
  refine Met.ofW (cc := cX3_doSet) (maxL := 3) (ret := (some .boolean)) (by decide) rfl ?_
  intro p e s m args below meth c s₁ B hml hv
  obtain ⟨rfl, hsz, hP, hE, hD⟩ := hv
  have hx := B.exec
  have hb := B.bytes
  have hr := B.returns
  have hts := atoms_spec (ws := wsX3_doSet) B.pre
  have hown : s.vm.findClass RX3 = some m.cls := findClass_of_methodNamed B.named
  have hlocks := B.notSynchronized
  have w_0 := hts (.initialized RX5) (List.mem_cons_of_mem _ (List.mem_append_left _ (List.mem_of_getElem? (i := 1) rfl)))
  have w_1 := hts (.static yX5_isSettingValue) (List.mem_cons_of_mem _ (List.mem_append_left _ (List.mem_of_getElem? (i := 0) rfl)))
  subst hsz
  have hD := hD.self (sz := s.heap.size)
  generalize hAe : va_A [(a0, soF a1 a2 r), (a1, soV y r), (a2, soW y r)] s.heap.size = A at hD ⊢
  have hA : ∀ q : Nat, s.heap.size ≤ q → A q := fun q h => by rw [← hAe]; exact Or.inr h
  have hS : va_S A s.heap s.heap [] := va_S.rf
  have hl := lv_entry ([.ref a0, .int p0, .int p1]) (n := 3) (Nat.le_of_ble_eq_true rfl)
  rw [lg_entry_eq]
  generalize (lg_sl ([.ref a0, .int p0, .int p1]) ++ List.replicate (3 - (lg_sl ([.ref a0, .int p0, .int p1])).length) Slot.unset).toArray = ls at hl ⊢
  have hl : lv_has ls 3 [(0, .ref a0), (1, .int p0), (2, .int p1)] := hl
  have hF := f_X3_doSet_s r p0 p1
  refine lv_iload_n hx hb dX3_doSet_0 rfl (lv_at hl 1 rfl) ?_
  refine lv_iload_n hx hb dX3_doSet_1 rfl (lv_at hl 2 rfl) ?_
  refine xs_calli (va_runSN (As := [.int p0, .int p1]) (rest := []) ⟨hx, hb, hml, hown, hts⟩ (c_X5_isSettingValue l D y s.heap.size p0 p1) ⟨va_cnB 2 hts gX3_doSet_X5_isSettingValue_n135 rfl rfl rfl (hE.2.1 _ (List.mem_of_getElem? (i := 9) rfl)) w_0 hd_X5_isSettingValue ⟨Nat.le_of_ble_eq_true rfl, Nat.le_of_ble_eq_true rfl⟩, w_1, trivial⟩ (gS hE (hP.sub [] rfl) (hD.sub [] (by decide) rfl)) rfl rfl hl.1 rfl (lv_room (Nat.le_of_ble_eq_true rfl)) dX3_doSet_2 ⟨Nat.le_of_ble_eq_true rfl, Nat.le_of_ble_eq_true rfl⟩) (fun v2 h1 => ?_)
  have hF := hF.trans (gLet_e h1)
  refine lv_if_ne (tgt := 10) hx hb dX3_doSet_5 (by decide) (fun c_3 => ?_) (fun c_3 => ?_)
  · have hF := hF.trans (if_neg c_3)
    refine lv_aload_n hx hb dX3_doSet_10 rfl (lv_at hl 0 rfl) ?_
    refine lv_iload_n hx hb dX3_doSet_11 rfl (lv_at hl 1 rfl) ?_
    refine lv_iload_n hx hb dX3_doSet_12 rfl (lv_at hl 2 rfl) ?_
    refine xw_callv (va_runV (As := [.int p0, .int p1]) (rest := []) ⟨hx, hb, hml, hown, hts⟩ (c_X3_changeSetting l D y a0 a1 a2 s.heap.size r p0 p1) (cwV 2 hts gX3_doSet_X3_changeSetting rfl rfl rfl hd_X3_changeSetting ⟨Nat.le_of_ble_eq_true rfl, Nat.le_of_ble_eq_true rfl⟩) (gV (q := (RX3, TX3, 15)) hE hP hD 0 rfl rfl) rfl rfl hl.1 rfl (lv_room (Nat.le_of_ble_eq_true rfl)) dX3_doSet_13 ⟨Nat.le_of_ble_eq_true rfl, Nat.le_of_ble_eq_true rfl⟩) hP hD hS hA [0, 1, 2] rfl (by decide) (fun _ => rfl) (fun u5 H locs h4 hP hD hS => ?_)
    have hF := hF.trans (gLet_e h4)
    have hP : va_P D vwCl [(a0, soF a1 a2 u5), (a1, soV y u5), (a2, soW y u5)] H := hP
    have hD : va_D A [(a0, soF a1 a2 u5), (a1, soV y u5), (a2, soW y u5)] := hD
    refine lv_iconst (v := 1) hx hb dX3_doSet_16 (by decide) ?_
    exact W.zret (v := 1) hx hb hr rfl (fun t ht hW => ⟨⟨1, u5, rfl, hF, ⟨by rw [ht]; exact hP, hD⟩⟩, hS.F ht⟩) hS.2.2 dX3_doSet_17
  · have hF := hF.trans (if_pos c_3)
    refine lv_iconst (v := 0) hx hb dX3_doSet_8 (by decide) ?_
    exact W.zret (v := 0) hx hb hr rfl (fun t ht hW => ⟨⟨0, r, rfl, hF, ⟨by rw [ht]; exact hP, hD⟩⟩, hS.F ht⟩) hS.2.2 dX3_doSet_9
