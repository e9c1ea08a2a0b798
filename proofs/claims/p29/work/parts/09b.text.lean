def f_X5_haveCommonDivisor_L2 (p0 : Int32) (p1 : Int32) : Nat → Int32 → Int32
  | 0, _ => 0
  | n + 1, x2 =>
    if p1 < x2 then
    0
  else
    gLet (p0 - p0 / x2 * x2) (fun (v2 : Int32) =>
      if v2 = 0 then
        gLet (p1 - p1 / x2 * x2) (fun (v4 : Int32) =>
          if v4 = 0 then
            1
          else
            f_X5_haveCommonDivisor_L2 p0 p1 n (x2 + 1))
      else
        f_X5_haveCommonDivisor_L2 p0 p1 n (x2 + 1))
theorem f_X5_haveCommonDivisor_L2_s (p0 : Int32) (p1 : Int32) (n : Nat) (x2 : Int32) : f_X5_haveCommonDivisor_L2 p0 p1 (n + 1) x2 =
    (if p1 < x2 then
    0
  else
    gLet (p0 - p0 / x2 * x2) (fun (v2 : Int32) =>
      if v2 = 0 then
        gLet (p1 - p1 / x2 * x2) (fun (v4 : Int32) =>
          if v4 = 0 then
            1
          else
            f_X5_haveCommonDivisor_L2 p0 p1 n (x2 + 1))
      else
        f_X5_haveCommonDivisor_L2 p0 p1 n (x2 + 1))) := rfl
def f_X5_haveCommonDivisor (p0 : Int32) (p1 : Int32) : Int32 :=
    f_X5_haveCommonDivisor_L2 p0 p1 ((p1.toInt + 1 - (2 : Int32).toInt).toNat + 1) 2
theorem f_X5_haveCommonDivisor_s (p0 : Int32) (p1 : Int32) : f_X5_haveCommonDivisor p0 p1 =
    (f_X5_haveCommonDivisor_L2 p0 p1 ((p1.toInt + 1 - (2 : Int32).toInt).toNat + 1) 2) := rfl
theorem hd_X5_haveCommonDivisor : yX5_haveCommonDivisor.cls ≠ "java/lang/invoke/MethodHandle" ∧ yX5_haveCommonDivisor.cls ≠ "java/lang/invoke/VarHandle" ∧ (parseMethodDescriptor yX5_haveCommonDivisor.desc).map (fun d => d.parameters.length) = some 2 := by decide +kernel
set_option maxHeartbeats 4000000 in
set_option maxRecDepth 100000 in
theorem c_X5_haveCommonDivisor (l : Launch) (D : va_G) (y : Nat → ClassId) (zh : Nat) (p0 : Int32) (p1 : Int32) (hp : p1.toInt < 1000) : Met l yX5_haveCommonDivisor wsX5_haveCommonDivisor ({ frames := 0, cells := 0, slots := 0, locals := 0 }) (gP D y [.int p0, .int p1] zh []) (vp_Si (fun v : Int32 => f_X5_haveCommonDivisor p0 p1 = v)) 0 0 (fun _ => False) := by
  refine Met.ofW (cc := cX5_haveCommonDivisor) (maxL := 3) (ret := (some .boolean)) (by decide) rfl ?_
  intro p e s m args below meth c s₁ B hml hv
  obtain ⟨rfl, hsz, hP, hE, hD⟩ := hv
  have hx := B.exec
  have hb := B.bytes
  have hr := B.returns
  have hts := atoms_spec (ws := wsX5_haveCommonDivisor) B.pre
  have hown : s.vm.findClass RX5 = some m.cls := findClass_of_methodNamed B.named
  have hlocks := B.notSynchronized
  have hl := lv_entry ([.int p0, .int p1]) (n := 3) (Nat.le_of_ble_eq_true rfl)
  rw [lg_entry_eq]
  generalize (lg_sl ([.int p0, .int p1]) ++ List.replicate (3 - (lg_sl ([.int p0, .int p1])).length) Slot.unset).toArray = ls at hl ⊢
  have hl : lv_has ls 3 [(0, .int p0), (1, .int p1)] := hl
  have loop_2 : ∀ (n : Nat) (x2 : Int32) (hx2 : 2 ≤ x2.toInt), (p1.toInt + 1 - x2.toInt).toNat < n → f_X5_haveCommonDivisor p0 p1 = f_X5_haveCommonDivisor_L2 p0 p1 n x2 → ∀ (ls : Array Slot), lv_has ls 3 [(0, .int p0), (1, .int p1), (2, .int x2)] → W p l e (headSpec wsX5_haveCommonDivisor ({ frames := 0, cells := 0, slots := 0, locals := 0 })).room s m ([.int p0, .int p1] : List Value).toArray below meth c s.heap [] 0 0 (MQ below (vp_Si (fun v : Int32 => f_X5_haveCommonDivisor p0 p1 = v)) ([.int p0, .int p1] : List Value).toArray s 0 0 (fun _ => False)) (F0 m 2 ls []) := by
    intro n
    induction n with
    | zero =>
      intro x2 hx2 hμ
      exact absurd hμ (Nat.not_lt_zero _)
    | succ n ih =>
      intro x2 hx2 hμ hF ls hl
      have hF := hF.trans (f_X5_haveCommonDivisor_L2_s p0 p1 n x2)
      refine lv_iload_n hx hb dX5_haveCommonDivisor_2 rfl (lv_at hl 2 rfl) ?_
      refine lv_iload_n hx hb dX5_haveCommonDivisor_3 rfl (lv_at hl 1 rfl) ?_
      refine lv_icmp_gt (tgt := 27) hx hb dX5_haveCommonDivisor_4 (by decide) (fun c_1 => ?_) (fun c_1 => ?_)
      · have hF := hF.trans (if_pos c_1)
        refine lv_iconst (v := 0) hx hb dX5_haveCommonDivisor_27 (by decide) ?_
        exact W.zret (v := 0) hx hb hr rfl (fun t ht hW => ⟨0, rfl, hF, ht⟩) (fun _ h => nomatch h) dX5_haveCommonDivisor_28
      · have hF := hF.trans (if_neg c_1)
        refine lv_iload_n hx hb dX5_haveCommonDivisor_7 rfl (lv_at hl 0 rfl) ?_
        refine lv_iload_n hx hb dX5_haveCommonDivisor_8 rfl (lv_at hl 2 rfl) ?_
        refine lv_irem hx hb dX5_haveCommonDivisor_9 (ne_2 hx2) ?_
        obtain ⟨v2, ev2⟩ : ∃ z : Int32, p0 - p0 / x2 * x2 = z := ⟨_, rfl⟩
        rw [ev2]
        have hF := hF.trans (gLet_e ev2)
        refine lv_if_ne (tgt := 21) hx hb dX5_haveCommonDivisor_10 (by decide) (fun c_3 => ?_) (fun c_3 => ?_)
        · have hF := hF.trans (if_neg c_3)
          refine lv_iinc (v := (x2 + 1)) (lv' := [(2, .int (x2 + 1)), (0, .int p0), (1, .int p1)]) hx hb dX5_haveCommonDivisor_21 hl (k := 2) rfl rfl (by decide) rfl (fun ls hl => ?_)
          refine lv_goto (tgt := 2) hx hb dX5_haveCommonDivisor_24 (by decide) ?_
          exact ih (x2 + 1) (up_n2 hp (by assumption) hx2) (lp_cd hp (by assumption) hμ) hF ls (lv_sub hl [1, 2, 0] rfl)
        · have hF := hF.trans (if_pos c_3)
          refine lv_iload_n hx hb dX5_haveCommonDivisor_13 rfl (lv_at hl 1 rfl) ?_
          refine lv_iload_n hx hb dX5_haveCommonDivisor_14 rfl (lv_at hl 2 rfl) ?_
          refine lv_irem hx hb dX5_haveCommonDivisor_15 (ne_2 hx2) ?_
          obtain ⟨v4, ev4⟩ : ∃ z : Int32, p1 - p1 / x2 * x2 = z := ⟨_, rfl⟩
          rw [ev4]
          have hF := hF.trans (gLet_e ev4)
          refine lv_if_ne (tgt := 21) hx hb dX5_haveCommonDivisor_16 (by decide) (fun c_5 => ?_) (fun c_5 => ?_)
          · have hF := hF.trans (if_neg c_5)
            refine lv_iinc (v := (x2 + 1)) (lv' := [(2, .int (x2 + 1)), (0, .int p0), (1, .int p1)]) hx hb dX5_haveCommonDivisor_21 hl (k := 2) rfl rfl (by decide) rfl (fun ls hl => ?_)
            refine lv_goto (tgt := 2) hx hb dX5_haveCommonDivisor_24 (by decide) ?_
            exact ih (x2 + 1) (up_n2 hp (by assumption) hx2) (lp_cd hp (by assumption) hμ) hF ls (lv_sub hl [1, 2, 0] rfl)
          · have hF := hF.trans (if_pos c_5)
            refine lv_iconst (v := 1) hx hb dX5_haveCommonDivisor_19 (by decide) ?_
            exact W.zret (v := 1) hx hb hr rfl (fun t ht hW => ⟨1, rfl, hF, ht⟩) (fun _ h => nomatch h) dX5_haveCommonDivisor_20
  have hF := f_X5_haveCommonDivisor_s p0 p1
  refine lv_iconst (v := 2) hx hb dX5_haveCommonDivisor_0 (by decide) ?_
  refine lv_istore_n (lv' := [(2, .int 2), (0, .int p0), (1, .int p1)]) hx hb dX5_haveCommonDivisor_1 rfl hl (by decide) rfl (fun ls hl => ?_)
  exact loop_2 _ 2 (by decide) (Nat.lt_succ_self _) hF ls (lv_sub hl [1, 2, 0] rfl)

def f_X5_isShape (p0 : Int32) (p1 : Int32) : Int32 :=
    if p0 < 4 then
    0
  else
    if 32 < p0 then
      0
    else
      if p1 < 1 then
        0
      else
        if p0 ≤ p1 then
          0
        else
          gLet (f_X5_haveCommonDivisor p0 p1) (fun (v6 : Int32) =>
            if v6 = 0 then
              1
            else
              0)
theorem f_X5_isShape_s (p0 : Int32) (p1 : Int32) : f_X5_isShape p0 p1 =
    (if p0 < 4 then
    0
  else
    if 32 < p0 then
      0
    else
      if p1 < 1 then
        0
      else
        if p0 ≤ p1 then
          0
        else
          gLet (f_X5_haveCommonDivisor p0 p1) (fun (v6 : Int32) =>
            if v6 = 0 then
              1
            else
              0)) := rfl
theorem sh_in {a b v : Int32} (h : f_X5_isShape a b = v) (c : ¬ v = 0) : 4 ≤ a ∧ a ≤ 32 := by
  subst h
  unfold f_X5_isShape at c
  by_cases h1 : a < 4
  · simp [h1] at c
  · by_cases h2 : 32 < a
    · simp [h1, h2] at c
    · exact ⟨Int32.not_lt.mp h1, Int32.not_lt.mp h2⟩
theorem sh_le {w a b v : Int32} (e : w = a) (h : f_X5_isShape a b = v) (c : ¬ v = 0) : 0 ≤ w.toInt ∧ w.toInt ≤ 32 := by
  subst e
  have q := sh_in h c
  have q1 := i_le.mp q.1
  have q2 := i_le.mp q.2
  have e4 : (4 : Int32).toInt = 4 := by decide
  have e5 : (32 : Int32).toInt = 32 := by decide
  omega
theorem hd_X5_isShape : yX5_isShape.cls ≠ "java/lang/invoke/MethodHandle" ∧ yX5_isShape.cls ≠ "java/lang/invoke/VarHandle" ∧ (parseMethodDescriptor yX5_isShape.desc).map (fun d => d.parameters.length) = some 2 := by decide +kernel
set_option maxHeartbeats 4000000 in
set_option maxRecDepth 100000 in
theorem c_X5_isShape (l : Launch) (D : va_G) (y : Nat → ClassId) (zh : Nat) (p0 : Int32) (p1 : Int32) : Met l yX5_isShape wsX5_isShape ({ frames := 1, cells := 0, slots := 0, locals := 22 }) (gP D y [.int p0, .int p1] zh []) (vp_Si (fun v : Int32 => f_X5_isShape p0 p1 = v)) 0 0 (fun _ => False) := by
  refine Met.ofW (cc := cX5_isShape) (maxL := 2) (ret := (some .boolean)) (by decide) rfl ?_
  intro p e s m args below meth c s₁ B hml hv
  obtain ⟨rfl, hsz, hP, hE, hD⟩ := hv
  have hx := B.exec
  have hb := B.bytes
  have hr := B.returns
  have hts := atoms_spec (ws := wsX5_isShape) B.pre
  have hown : s.vm.findClass RX5 = some m.cls := findClass_of_methodNamed B.named
  have hlocks := B.notSynchronized
  have hl := lv_entry ([.int p0, .int p1]) (n := 2) (Nat.le_of_ble_eq_true rfl)
  rw [lg_entry_eq]
  generalize (lg_sl ([.int p0, .int p1]) ++ List.replicate (2 - (lg_sl ([.int p0, .int p1])).length) Slot.unset).toArray = ls at hl ⊢
  have hl : lv_has ls 2 [(0, .int p0), (1, .int p1)] := hl
  have hF := f_X5_isShape_s p0 p1
  refine lv_iload_n hx hb dX5_isShape_0 rfl (lv_at hl 0 rfl) ?_
  refine lv_iconst (v := 4) hx hb dX5_isShape_1 (by decide) ?_
  refine lv_icmp_lt (tgt := 33) hx hb dX5_isShape_2 (by decide) (fun c_1 => ?_) (fun c_1 => ?_)
  · have hF := hF.trans (if_pos c_1)
    refine lv_iconst (v := 0) hx hb dX5_isShape_33 (by decide) ?_
    exact W.zret (v := 0) hx hb hr rfl (fun t ht hW => ⟨0, rfl, hF, ht⟩) (fun _ h => nomatch h) dX5_isShape_34
  · have hF := hF.trans (if_neg c_1)
    refine lv_iload_n hx hb dX5_isShape_5 rfl (lv_at hl 0 rfl) ?_
    refine lv_bipush (v := 32) hx hb dX5_isShape_6 (by decide) ?_
    refine lv_icmp_gt (tgt := 33) hx hb dX5_isShape_8 (by decide) (fun c_2 => ?_) (fun c_2 => ?_)
    · have hF := hF.trans (if_pos c_2)
      refine lv_iconst (v := 0) hx hb dX5_isShape_33 (by decide) ?_
      exact W.zret (v := 0) hx hb hr rfl (fun t ht hW => ⟨0, rfl, hF, ht⟩) (fun _ h => nomatch h) dX5_isShape_34
    · have hF := hF.trans (if_neg c_2)
      refine lv_iload_n hx hb dX5_isShape_11 rfl (lv_at hl 1 rfl) ?_
      refine lv_iconst (v := 1) hx hb dX5_isShape_12 (by decide) ?_
      refine lv_icmp_lt (tgt := 33) hx hb dX5_isShape_13 (by decide) (fun c_3 => ?_) (fun c_3 => ?_)
      · have hF := hF.trans (if_pos c_3)
        refine lv_iconst (v := 0) hx hb dX5_isShape_33 (by decide) ?_
        exact W.zret (v := 0) hx hb hr rfl (fun t ht hW => ⟨0, rfl, hF, ht⟩) (fun _ h => nomatch h) dX5_isShape_34
      · have hF := hF.trans (if_neg c_3)
        refine lv_iload_n hx hb dX5_isShape_16 rfl (lv_at hl 1 rfl) ?_
        refine lv_iload_n hx hb dX5_isShape_17 rfl (lv_at hl 0 rfl) ?_
        refine lv_icmp_ge (tgt := 33) hx hb dX5_isShape_18 (by decide) (fun c_4 => ?_) (fun c_4 => ?_)
        · have hF := hF.trans (if_pos c_4)
          refine lv_iconst (v := 0) hx hb dX5_isShape_33 (by decide) ?_
          exact W.zret (v := 0) hx hb hr rfl (fun t ht hW => ⟨0, rfl, hF, ht⟩) (fun _ h => nomatch h) dX5_isShape_34
        · have hF := hF.trans (if_neg c_4)
          refine lv_iload_n hx hb dX5_isShape_21 rfl (lv_at hl 0 rfl) ?_
          refine lv_iload_n hx hb dX5_isShape_22 rfl (lv_at hl 1 rfl) ?_
          refine xs_calli (va_runS (As := [.int p0, .int p1]) (rest := []) ⟨hx, hb, hml, hown, hts⟩ (c_X5_haveCommonDivisor l D y s.heap.size p0 p1 (sh_lt (by assumption) (by assumption))) (va_cwS 2 hts gX5_isShape_X5_haveCommonDivisor rfl rfl rfl hd_X5_haveCommonDivisor ⟨Nat.le_of_ble_eq_true rfl, Nat.le_of_ble_eq_true rfl⟩) (gS hE hP hD) rfl rfl hl.1 rfl (lv_room (Nat.le_of_ble_eq_true rfl)) dX5_isShape_23 ⟨Nat.le_of_ble_eq_true rfl, Nat.le_of_ble_eq_true rfl⟩) (fun v6 h5 => ?_)
          have hF := hF.trans (gLet_e h5)
          refine lv_if_ne (tgt := 33) hx hb dX5_isShape_26 (by decide) (fun c_7 => ?_) (fun c_7 => ?_)
          · have hF := hF.trans (if_neg c_7)
            refine lv_iconst (v := 0) hx hb dX5_isShape_33 (by decide) ?_
            exact W.zret (v := 0) hx hb hr rfl (fun t ht hW => ⟨0, rfl, hF, ht⟩) (fun _ h => nomatch h) dX5_isShape_34
          · have hF := hF.trans (if_pos c_7)
            refine lv_iconst (v := 1) hx hb dX5_isShape_29 (by decide) ?_
            refine lv_goto (tgt := 34) hx hb dX5_isShape_30 (by decide) ?_
            exact W.zret (v := 1) hx hb hr rfl (fun t ht hW => ⟨1, rfl, hF, ht⟩) (fun _ h => nomatch h) dX5_isShape_34

def f_X4_isFull (tn : Int32) (tf : Nat → Int32) : Int32 :=
    if tn < 120 then
    0
  else
    1
theorem f_X4_isFull_s (tn : Int32) (tf : Nat → Int32) : f_X4_isFull tn tf =
    (if tn < 120 then
    0
  else
    1) := rfl
theorem bo_X4_isFull (tn : Int32) (tf : Nat → Int32) : f_X4_isFull tn tf = 0 ∨ f_X4_isFull tn tf = 1 := by
  unfold f_X4_isFull
  repeat' split
  all_goals first | exact Or.inl rfl | exact Or.inr rfl
theorem fu_in {tn v : Int32} {tf : Nat → Int32} (ht : okT tn tf) (h : f_X4_isFull tn tf = v) (c : v = 0) : vp_in tn 120 := by
  subst h
  unfold f_X4_isFull at c
  by_cases h1 : tn < 120
  · exact xin2 ht.1 (by have := i_lt.mp h1; have e : (120 : Int32).toInt = 120 := (by decide); omega)
  · simp [h1] at c
theorem hd_X4_isFull : yX4_isFull.cls = RX4 ∧ yX4_isFull.cls ≠ "java/lang/invoke/MethodHandle" ∧ yX4_isFull.cls ≠ "java/lang/invoke/VarHandle" ∧ (parseMethodDescriptor yX4_isFull.desc).map (fun d => d.parameters.length) = some 0 := by decide +kernel
set_option maxHeartbeats 4000000 in
set_option maxRecDepth 100000 in
theorem c_X4_isFull (l : Launch) (D : va_G) (y : Nat → ClassId) (a0 a1 : Nat) (zh : Nat) (tn : Int32) (tf : Nat → Int32) : Met l yX4_isFull wsX4_isFull ({ frames := 0, cells := 0, slots := 0, locals := 0 }) (gP D y [.ref a0] zh [(a0, .inr (3, [.ref a1, .int tn])), (a1, .inl (y 1, 120, .inl tf))]) (vp_Si (fun v : Int32 => f_X4_isFull tn tf = v)) 0 0 (fun _ => False) := by
  refine Met.ofW (cc := cX4_isFull) (maxL := 1) (ret := (some .boolean)) (by decide) rfl ?_
  intro p e s m args below meth c s₁ B hml hv
  obtain ⟨rfl, hsz, hP, hE, hD⟩ := hv
  have hx := B.exec
  have hb := B.bytes
  have hr := B.returns
  have hts := atoms_spec (ws := wsX4_isFull) B.pre
  have hown : s.vm.findClass RX4 = some m.cls := findClass_of_methodNamed B.named
  have hlocks := B.notSynchronized
  have w_0 := hts (.fieldLink RX4 15 "GapLines$Text" "length" "I") (List.mem_cons_of_mem _ (List.mem_append_left _ (List.mem_of_getElem? (i := 0) rfl)))
  have hi4 : ∀ w ∈ u_ws RX4 TX4 2, w ∈ wsX4_isFull := fun w h => (List.mem_cons_of_mem _ (List.mem_append_right _ h))
  have hl := lv_entry ([.ref a0]) (n := 1) (Nat.le_of_ble_eq_true rfl)
  rw [lg_entry_eq]
  generalize (lg_sl ([.ref a0]) ++ List.replicate (1 - (lg_sl ([.ref a0])).length) Slot.unset).toArray = ls at hl ⊢
  have hl : lv_has ls 1 [(0, .ref a0)] := hl
  have hF := f_X4_isFull_s tn tf
  refine lv_aload_n hx hb dX4_isFull_0 rfl (lv_at hl 0 rfl) ?_
  refine va_get (D := D) (ci := 3) (v := .int tn) (C := RX4) (T := TX4) (N := 2) hx hb hts hi4 hown hE.1 hP 0 rfl rfl 1 (by decide) w_0 (fun _ h9 => h9) rfl dX4_isFull_1 ?_
  refine lv_bipush (v := 120) hx hb dX4_isFull_4 (by decide) ?_
  refine lv_icmp_lt (tgt := 13) hx hb dX4_isFull_6 (by decide) (fun c_1 => ?_) (fun c_1 => ?_)
  · have hF := hF.trans (if_pos c_1)
    refine lv_iconst (v := 0) hx hb dX4_isFull_13 (by decide) ?_
    exact W.zret (v := 0) hx hb hr rfl (fun t ht hW => ⟨0, rfl, hF, ht⟩) (fun _ h => nomatch h) dX4_isFull_14
  · have hF := hF.trans (if_neg c_1)
    refine lv_iconst (v := 1) hx hb dX4_isFull_9 (by decide) ?_
    refine lv_goto (tgt := 14) hx hb dX4_isFull_10 (by decide) ?_
    exact W.zret (v := 1) hx hb hr rfl (fun t ht hW => ⟨1, rfl, hF, ht⟩) (fun _ h => nomatch h) dX4_isFull_14

def f_X4_add (tn : Int32) (tf : Nat → Int32) (p0 : Int32) : Int32 × Int32 × (Nat → Int32) :=
    gLet (f_X4_isFull tn tf) (fun (v2 : Int32) =>
    if v2 = 0 then
      gLet (upd tf tn.toNatClampNeg p0) (fun (r4 : Nat → Int32) =>
        ((tn + 1), (tn + 1), r4))
    else
      (tn, tn, tf))
theorem f_X4_add_s (tn : Int32) (tf : Nat → Int32) (p0 : Int32) : f_X4_add tn tf p0 =
    (gLet (f_X4_isFull tn tf) (fun (v2 : Int32) =>
    if v2 = 0 then
      gLet (upd tf tn.toNatClampNeg p0) (fun (r4 : Nat → Int32) =>
        ((tn + 1), (tn + 1), r4))
    else
      (tn, tn, tf))) := rfl
theorem hd_X4_add : yX4_add.cls = RX4 ∧ yX4_add.cls ≠ "java/lang/invoke/MethodHandle" ∧ yX4_add.cls ≠ "java/lang/invoke/VarHandle" ∧ (parseMethodDescriptor yX4_add.desc).map (fun d => d.parameters.length) = some 1 := by decide +kernel
set_option maxHeartbeats 4000000 in
set_option maxRecDepth 100000 in
theorem c_X4_add (l : Launch) (D : va_G) (y : Nat → ClassId) (a0 a1 : Nat) (zh : Nat) (tn : Int32) (tf : Nat → Int32) (p0 : Int32) (ht : okT tn tf) (hc : chr p0) : Met l yX4_add wsX4_add ({ frames := 1, cells := 0, slots := 0, locals := 20 }) (gP D y [.ref a0, .int p0] zh [(a0, .inr (3, [.ref a1, .int tn])), (a1, .inl (y 1, 120, .inl tf))]) (va_Qi (fun (v : Int32) (u : Int32 × (Nat → Int32)) => f_X4_add tn tf p0 = (v, u)) (fun (u : Int32 × (Nat → Int32)) t => va_P D vwCl [(a0, .inr (3, [.ref a1, .int u.1])), (a1, .inl (y 1, 120, .inl u.2))] t.heap ∧ va_D (va_A [(a0, .inr (3, [.ref a1, .int tn])), (a1, .inl (y 1, 120, .inl tf))] zh) [(a0, .inr (3, [.ref a1, .int u.1])), (a1, .inl (y 1, 120, .inl u.2))]) (va_A [(a0, .inr (3, [.ref a1, .int tn])), (a1, .inl (y 1, 120, .inl tf))] zh)) 0 0 (va_A [(a0, .inr (3, [.ref a1, .int tn])), (a1, .inl (y 1, 120, .inl tf))] zh) := by
  refine Met.ofW (cc := cX4_add) (maxL := 2) (ret := (some .int)) (by decide) rfl ?_
  intro p e s m args below meth c s₁ B hml hv
  obtain ⟨rfl, hsz, hP, hE, hD⟩ := hv
  have hx := B.exec
  have hb := B.bytes
  have hr := B.returns
  have hts := atoms_spec (ws := wsX4_add) B.pre
  have hown : s.vm.findClass RX4 = some m.cls := findClass_of_methodNamed B.named
  have hlocks := B.notSynchronized
  have w_0 := hts (.fieldLink RX4 15 "GapLines$Text" "length" "I") (List.mem_cons_of_mem _ (List.mem_append_left _ (List.mem_of_getElem? (i := 1) rfl)))
  have hi4 : ∀ w ∈ u_ws RX4 TX4 2, w ∈ wsX4_add := fun w h => (List.mem_cons_of_mem _ (List.mem_append_right _ h))
  have w_2 := hts (.fieldLink RX4 11 "GapLines$Text" "signs" "[C") (List.mem_cons_of_mem _ (List.mem_append_left _ (List.mem_of_getElem? (i := 0) rfl)))
  subst hsz
  have hD := hD.self (sz := s.heap.size)
  generalize hAe : va_A [(a0, .inr (3, [.ref a1, .int tn])), (a1, .inl (y 1, 120, .inl tf))] s.heap.size = A at hD ⊢
  have hA : ∀ q : Nat, s.heap.size ≤ q → A q := fun q h => by rw [← hAe]; exact Or.inr h
  have hS : va_S A s.heap s.heap [] := va_S.rf
  have hl := lv_entry ([.ref a0, .int p0]) (n := 2) (Nat.le_of_ble_eq_true rfl)
  rw [lg_entry_eq]
  generalize (lg_sl ([.ref a0, .int p0]) ++ List.replicate (2 - (lg_sl ([.ref a0, .int p0])).length) Slot.unset).toArray = ls at hl ⊢
  have hl : lv_has ls 2 [(0, .ref a0), (1, .int p0)] := hl
  have hF := f_X4_add_s tn tf p0
  refine lv_aload_n hx hb dX4_add_0 rfl (lv_at hl 0 rfl) ?_
  refine xs_calli (va_runV (As := []) (rest := []) ⟨hx, hb, hml, hown, hts⟩ (c_X4_isFull l D y a0 a1 s.heap.size tn tf) (cwV 0 hts gX4_add_X4_isFull rfl rfl rfl hd_X4_isFull ⟨Nat.le_of_ble_eq_true rfl, Nat.le_of_ble_eq_true rfl⟩) (gV (q := (RX4, TX4, 2)) hE hP hD 0 rfl rfl) rfl rfl hl.1 rfl (lv_room (Nat.le_of_ble_eq_true rfl)) dX4_add_1 ⟨Nat.le_of_ble_eq_true rfl, Nat.le_of_ble_eq_true rfl⟩) (fun v2 h1 => ?_)
  have hF := hF.trans (gLet_e h1)
  refine lv_if_ne (tgt := 27) hx hb dX4_add_4 (by decide) (fun c_3 => ?_) (fun c_3 => ?_)
  · have hF := hF.trans (if_neg c_3)
    refine lv_aload_n hx hb dX4_add_27 rfl (lv_at hl 0 rfl) ?_
    refine va_get (D := D) (ci := 3) (v := .int tn) (C := RX4) (T := TX4) (N := 2) hx hb hts hi4 hown hE.1 hP 0 rfl rfl 1 (by decide) w_0 (fun _ h9 => h9) rfl dX4_add_28 ?_
    exact W.iret (v := tn) hx hb hr (fun t ht hW => ⟨⟨tn, ⟨tn, tf⟩, rfl, hF, ⟨by rw [ht]; exact hP, hD⟩⟩, hS.F ht⟩) hS.2.2 dX4_add_31
  · have hF := hF.trans (if_pos c_3)
    refine lv_aload_n hx hb dX4_add_7 rfl (lv_at hl 0 rfl) ?_
    refine va_get (D := D) (ci := 3) (v := .ref a1) (C := RX4) (T := TX4) (N := 2) hx hb hts hi4 hown hE.1 hP 0 rfl rfl 0 (by decide) w_2 (fun _ h9 => h9) rfl dX4_add_8 ?_
    refine lv_aload_n hx hb dX4_add_11 rfl (lv_at hl 0 rfl) ?_
    refine va_get (D := D) (ci := 3) (v := .int tn) (C := RX4) (T := TX4) (N := 2) hx hb hts hi4 hown hE.1 hP 0 rfl rfl 1 (by decide) w_0 (fun _ h9 => h9) rfl dX4_add_12 ?_
    refine lv_iload_n hx hb dX4_add_15 rfl (lv_at hl 1 rfl) ?_
    refine xa_cast (k := tn.toNatClampNeg) (x' := p0) hx hb hE.1 hP hD hS 1 1 rfl rfl (fu_in ht (by assumption) (by assumption)) rfl hc.2 dX4_add_16 (fun H locs hP hD hS => ?_)
    obtain ⟨r4, er4⟩ : ∃ z : Nat → Int32, upd tf tn.toNatClampNeg p0 = z := ⟨_, rfl⟩
    have hF := hF.trans (gLet_e er4)
    rw [er4] at hP hD
    have hP : va_P D vwCl [(a0, .inr (3, [.ref a1, .int tn])), (a1, .inl (y 1, 120, .inl r4))] H := hP
    have hD : va_D A [(a0, .inr (3, [.ref a1, .int tn])), (a1, .inl (y 1, 120, .inl r4))] := hD
    refine lv_aload_n hx hb dX4_add_17 rfl (lv_at hl 0 rfl) ?_
    refine lv_dup hx hb dX4_add_18 rfl ?_
    refine va_get (D := D) (ci := 3) (v := .int tn) (C := RX4) (T := TX4) (N := 2) hx hb hts hi4 hown hE.1 hP 0 rfl rfl 1 (by decide) w_0 (fun _ h9 => h9) rfl dX4_add_19 ?_
    refine lv_iconst (v := 1) hx hb dX4_add_22 (by decide) ?_
    refine lv_iadd hx hb dX4_add_23 ?_
    refine va_put (D := D) (ci := 3) (v := .int (tn + 1)) (ty := .int) (C := RX4) (T := TX4) (N := 2) hx hb hts hi4 tyX4 tyX4_ok nmX4 hown hE.1 hP hD hS 0 rfl rfl 1 (by decide) w_0 (fun _ h9 => h9) rfl (by decide +kernel) rfl rfl (Nat.le_of_ble_eq_true rfl) dX4_add_24 (fun H locs hP hD hS => ?_)
    have hP : va_P D vwCl [(a0, .inr (3, [.ref a1, .int (tn + 1)])), (a1, .inl (y 1, 120, .inl r4))] H := hP
    have hD : va_D A [(a0, .inr (3, [.ref a1, .int (tn + 1)])), (a1, .inl (y 1, 120, .inl r4))] := hD
    refine lv_aload_n hx hb dX4_add_27 rfl (lv_at hl 0 rfl) ?_
    refine va_get (D := D) (ci := 3) (v := .int (tn + 1)) (C := RX4) (T := TX4) (N := 2) hx hb hts hi4 hown hE.1 hP 0 rfl rfl 1 (by decide) w_0 (fun _ h9 => h9) rfl dX4_add_28 ?_
    exact W.iret (v := (tn + 1)) hx hb hr (fun t ht hW => ⟨⟨(tn + 1), ⟨(tn + 1), r4⟩, rfl, hF, ⟨by rw [ht]; exact hP, hD⟩⟩, hS.F ht⟩) hS.2.2 dX4_add_31

def f_X4_signAt (tn : Int32) (tf : Nat → Int32) (p0 : Int32) : Int32 :=
    if p0 < 0 then
    0
  else
    if tn ≤ p0 then
      0
    else
      (tf p0.toNatClampNeg)
theorem f_X4_signAt_s (tn : Int32) (tf : Nat → Int32) (p0 : Int32) : f_X4_signAt tn tf p0 =
    (if p0 < 0 then
    0
  else
    if tn ≤ p0 then
      0
    else
      (tf p0.toNatClampNeg)) := rfl
theorem hd_X4_signAt : yX4_signAt.cls = RX4 ∧ yX4_signAt.cls ≠ "java/lang/invoke/MethodHandle" ∧ yX4_signAt.cls ≠ "java/lang/invoke/VarHandle" ∧ (parseMethodDescriptor yX4_signAt.desc).map (fun d => d.parameters.length) = some 1 := by decide +kernel
set_option maxHeartbeats 4000000 in
set_option maxRecDepth 100000 in
theorem c_X4_signAt (l : Launch) (D : va_G) (y : Nat → ClassId) (a0 a1 : Nat) (zh : Nat) (tn : Int32) (tf : Nat → Int32) (p0 : Int32) (ht : okT tn tf) : Met l yX4_signAt wsX4_signAt ({ frames := 0, cells := 0, slots := 0, locals := 0 }) (gP D y [.ref a0, .int p0] zh [(a0, .inr (3, [.ref a1, .int tn])), (a1, .inl (y 1, 120, .inl tf))]) (vp_Si (fun v : Int32 => f_X4_signAt tn tf p0 = v)) 0 0 (fun _ => False) := by
  refine Met.ofW (cc := cX4_signAt) (maxL := 2) (ret := (some .char)) (by decide) rfl ?_
  intro p e s m args below meth c s₁ B hml hv
  obtain ⟨rfl, hsz, hP, hE, hD⟩ := hv
  have hx := B.exec
  have hb := B.bytes
  have hr := B.returns
  have hts := atoms_spec (ws := wsX4_signAt) B.pre
  have hown : s.vm.findClass RX4 = some m.cls := findClass_of_methodNamed B.named
  have hlocks := B.notSynchronized
  have w_0 := hts (.fieldLink RX4 15 "GapLines$Text" "length" "I") (List.mem_cons_of_mem _ (List.mem_append_left _ (List.mem_of_getElem? (i := 0) rfl)))
  have hi4 : ∀ w ∈ u_ws RX4 TX4 2, w ∈ wsX4_signAt := fun w h => (List.mem_cons_of_mem _ (List.mem_append_right _ h))
  have w_2 := hts (.fieldLink RX4 11 "GapLines$Text" "signs" "[C") (List.mem_cons_of_mem _ (List.mem_append_left _ (List.mem_of_getElem? (i := 1) rfl)))
  have hl := lv_entry ([.ref a0, .int p0]) (n := 2) (Nat.le_of_ble_eq_true rfl)
  rw [lg_entry_eq]
  generalize (lg_sl ([.ref a0, .int p0]) ++ List.replicate (2 - (lg_sl ([.ref a0, .int p0])).length) Slot.unset).toArray = ls at hl ⊢
  have hl : lv_has ls 2 [(0, .ref a0), (1, .int p0)] := hl
  have hF := f_X4_signAt_s tn tf p0
  refine lv_iload_n hx hb dX4_signAt_0 rfl (lv_at hl 1 rfl) ?_
  refine lv_if_lt (tgt := 21) hx hb dX4_signAt_1 (by decide) (fun c_1 => ?_) (fun c_1 => ?_)
  · have hF := hF.trans (if_pos c_1)
    refine lv_iconst (v := 0) hx hb dX4_signAt_21 (by decide) ?_
    exact W.zret (v := 0) hx hb hr rfl (fun t ht hW => ⟨0, rfl, hF, ht⟩) (fun _ h => nomatch h) dX4_signAt_22
  · have hF := hF.trans (if_neg c_1)
    refine lv_iload_n hx hb dX4_signAt_4 rfl (lv_at hl 1 rfl) ?_
    refine lv_aload_n hx hb dX4_signAt_5 rfl (lv_at hl 0 rfl) ?_
    refine va_get (D := D) (ci := 3) (v := .int tn) (C := RX4) (T := TX4) (N := 2) hx hb hts hi4 hown hE.1 hP 0 rfl rfl 1 (by decide) w_0 (fun _ h9 => h9) rfl dX4_signAt_6 ?_
    refine lv_icmp_ge (tgt := 21) hx hb dX4_signAt_9 (by decide) (fun c_2 => ?_) (fun c_2 => ?_)
    · have hF := hF.trans (if_pos c_2)
      refine lv_iconst (v := 0) hx hb dX4_signAt_21 (by decide) ?_
      exact W.zret (v := 0) hx hb hr rfl (fun t ht hW => ⟨0, rfl, hF, ht⟩) (fun _ h => nomatch h) dX4_signAt_22
    · have hF := hF.trans (if_neg c_2)
      refine lv_aload_n hx hb dX4_signAt_12 rfl (lv_at hl 0 rfl) ?_
      refine va_get (D := D) (ci := 3) (v := .ref a1) (C := RX4) (T := TX4) (N := 2) hx hb hts hi4 hown hE.1 hP 0 rfl rfl 0 (by decide) w_2 (fun _ h9 => h9) rfl dX4_signAt_13 ?_
      refine lv_iload_n hx hb dX4_signAt_16 rfl (lv_at hl 1 rfl) ?_
      refine xa_cald (k := p0.toNatClampNeg) (v := tf p0.toNatClampNeg) hx hb hE.1 hP 1 1 rfl rfl (ix_btl (m := tn) (by assumption) (by assumption) ht.2.1) rfl rfl dX4_signAt_17 ?_
      refine lv_goto (tgt := 22) hx hb dX4_signAt_18 (by decide) ?_
      exact W.zret (v := (tf p0.toNatClampNeg)) hx hb hr (ht.2.2 _).1 (fun t ht hW => ⟨(tf p0.toNatClampNeg), rfl, hF, ht⟩) (fun _ h => nomatch h) dX4_signAt_22

def f_X4_numberAt_L5 (tn : Int32) (tf : Nat → Int32) (p0 : Int32) (p1 : Int32) : Nat → Int32 → Int32 → Int32
  | 0, _, _ => 0
  | n + 1, x3, x4 =>
    if p1 ≤ x4 then
    x3
  else
    gLet (f_X4_signAt tn tf (p0 + x4)) (fun (v3 : Int32) =>
      f_X4_numberAt_L5 tn tf p0 p1 n ((x3 * 10) + (v3 - 48)) (x4 + 1))
theorem f_X4_numberAt_L5_s (tn : Int32) (tf : Nat → Int32) (p0 : Int32) (p1 : Int32) (n : Nat) (x3 : Int32) (x4 : Int32) : f_X4_numberAt_L5 tn tf p0 p1 (n + 1) x3 x4 =
    (if p1 ≤ x4 then
    x3
  else
    gLet (f_X4_signAt tn tf (p0 + x4)) (fun (v3 : Int32) =>
      f_X4_numberAt_L5 tn tf p0 p1 n ((x3 * 10) + (v3 - 48)) (x4 + 1))) := rfl
def f_X4_numberAt (tn : Int32) (tf : Nat → Int32) (p0 : Int32) (p1 : Int32) : Int32 :=
    f_X4_numberAt_L5 tn tf p0 p1 ((p1.toInt - (0 : Int32).toInt).toNat + 1) 0 0
theorem f_X4_numberAt_s (tn : Int32) (tf : Nat → Int32) (p0 : Int32) (p1 : Int32) : f_X4_numberAt tn tf p0 p1 =
    (f_X4_numberAt_L5 tn tf p0 p1 ((p1.toInt - (0 : Int32).toInt).toNat + 1) 0 0) := rfl
theorem hd_X4_numberAt : yX4_numberAt.cls = RX4 ∧ yX4_numberAt.cls ≠ "java/lang/invoke/MethodHandle" ∧ yX4_numberAt.cls ≠ "java/lang/invoke/VarHandle" ∧ (parseMethodDescriptor yX4_numberAt.desc).map (fun d => d.parameters.length) = some 2 := by decide +kernel
set_option maxHeartbeats 4000000 in
set_option maxRecDepth 100000 in
theorem c_X4_numberAt (l : Launch) (D : va_G) (y : Nat → ClassId) (a0 a1 : Nat) (zh : Nat) (tn : Int32) (tf : Nat → Int32) (p0 : Int32) (p1 : Int32) (ht : okT tn tf) : Met l yX4_numberAt wsX4_numberAt ({ frames := 1, cells := 0, slots := 0, locals := 21 }) (gP D y [.ref a0, .int p0, .int p1] zh [(a0, .inr (3, [.ref a1, .int tn])), (a1, .inl (y 1, 120, .inl tf))]) (vp_Si (fun v : Int32 => f_X4_numberAt tn tf p0 p1 = v)) 0 0 (fun _ => False) := by
  refine Met.ofW (cc := cX4_numberAt) (maxL := 5) (ret := (some .int)) (by decide) rfl ?_
  intro p e s m args below meth c s₁ B hml hv
  obtain ⟨rfl, hsz, hP, hE, hD⟩ := hv
  have hx := B.exec
  have hb := B.bytes
  have hr := B.returns
  have hts := atoms_spec (ws := wsX4_numberAt) B.pre
  have hown : s.vm.findClass RX4 = some m.cls := findClass_of_methodNamed B.named
  have hlocks := B.notSynchronized
  have hl := lv_entry ([.ref a0, .int p0, .int p1]) (n := 5) (Nat.le_of_ble_eq_true rfl)
  rw [lg_entry_eq]
  generalize (lg_sl ([.ref a0, .int p0, .int p1]) ++ List.replicate (5 - (lg_sl ([.ref a0, .int p0, .int p1])).length) Slot.unset).toArray = ls at hl ⊢
  have hl : lv_has ls 5 [(0, .ref a0), (1, .int p0), (2, .int p1)] := hl
  have loop_5 : ∀ (n : Nat) (x3 : Int32) (x4 : Int32), (p1.toInt - x4.toInt).toNat < n → f_X4_numberAt tn tf p0 p1 = f_X4_numberAt_L5 tn tf p0 p1 n x3 x4 → ∀ (ls : Array Slot), lv_has ls 5 [(0, .ref a0), (1, .int p0), (2, .int p1), (3, .int x3), (4, .int x4)] → W p l e (headSpec wsX4_numberAt ({ frames := 1, cells := 0, slots := 0, locals := 21 })).room s m ([.ref a0, .int p0, .int p1] : List Value).toArray below meth c s.heap [] 0 0 (MQ below (vp_Si (fun v : Int32 => f_X4_numberAt tn tf p0 p1 = v)) ([.ref a0, .int p0, .int p1] : List Value).toArray s 0 0 (fun _ => False)) (F0 m 5 ls []) := by
    intro n
    induction n with
    | zero =>
      intro x3 x4 hμ
      exact absurd hμ (Nat.not_lt_zero _)
    | succ n ih =>
      intro x3 x4 hμ hF ls hl
      have hF := hF.trans (f_X4_numberAt_L5_s tn tf p0 p1 n x3 x4)
      refine lv_iload hx hb dX4_numberAt_5 (lv_at hl 4 rfl) ?_
      refine lv_iload_n hx hb dX4_numberAt_7 rfl (lv_at hl 2 rfl) ?_
      refine lv_icmp_ge (tgt := 34) hx hb dX4_numberAt_8 (by decide) (fun c_1 => ?_) (fun c_1 => ?_)
      · have hF := hF.trans (if_pos c_1)
        refine lv_iload_n hx hb dX4_numberAt_34 rfl (lv_at hl 3 rfl) ?_
        exact W.iret (v := x3) hx hb hr (fun t ht hW => ⟨x3, rfl, hF, ht⟩) (fun _ h => nomatch h) dX4_numberAt_35
      · have hF := hF.trans (if_neg c_1)
        refine lv_iload_n hx hb dX4_numberAt_11 rfl (lv_at hl 3 rfl) ?_
        refine lv_bipush (v := 10) hx hb dX4_numberAt_12 (by decide) ?_
        refine lv_imul hx hb dX4_numberAt_14 ?_
        refine lv_aload_n hx hb dX4_numberAt_15 rfl (lv_at hl 0 rfl) ?_
        refine lv_iload_n hx hb dX4_numberAt_16 rfl (lv_at hl 1 rfl) ?_
        refine lv_iload hx hb dX4_numberAt_17 (lv_at hl 4 rfl) ?_
        refine lv_iadd hx hb dX4_numberAt_19 ?_
        refine xs_calli (va_runV (As := [.int (p0 + x4)]) (rest := [.int (x3 * 10)]) ⟨hx, hb, hml, hown, hts⟩ (c_X4_signAt l D y a0 a1 s.heap.size tn tf (p0 + x4) ht) (cwV 1 hts gX4_numberAt_X4_signAt rfl rfl rfl hd_X4_signAt ⟨Nat.le_of_ble_eq_true rfl, Nat.le_of_ble_eq_true rfl⟩) (gV (q := (RX4, TX4, 2)) hE hP hD 0 rfl rfl) rfl rfl hl.1 rfl (lv_room (Nat.le_of_ble_eq_true rfl)) dX4_numberAt_20 ⟨Nat.le_of_ble_eq_true rfl, Nat.le_of_ble_eq_true rfl⟩) (fun v3 h2 => ?_)
        have hF := hF.trans (gLet_e h2)
        refine lv_bipush (v := 48) hx hb dX4_numberAt_23 (by decide) ?_
        refine lv_isub hx hb dX4_numberAt_25 ?_
        refine lv_iadd hx hb dX4_numberAt_26 ?_
        refine lv_istore_n (lv' := [(3, .int ((x3 * 10) + (v3 - 48))), (0, .ref a0), (1, .int p0), (2, .int p1), (4, .int x4)]) hx hb dX4_numberAt_27 rfl hl (by decide) rfl (fun ls hl => ?_)
        refine lv_iinc (v := (x4 + 1)) (lv' := [(4, .int (x4 + 1)), (3, .int ((x3 * 10) + (v3 - 48))), (0, .ref a0), (1, .int p0), (2, .int p1)]) hx hb dX4_numberAt_28 hl (k := 4) rfl rfl (by decide) rfl (fun ls hl => ?_)
        refine lv_goto (tgt := 5) hx hb dX4_numberAt_31 (by decide) ?_
        exact ih ((x3 * 10) + (v3 - 48)) (x4 + 1) (lp_up (by assumption) hμ) hF ls (lv_sub hl [2, 3, 4, 1, 0] rfl)
  have hF := f_X4_numberAt_s tn tf p0 p1
  refine lv_iconst (v := 0) hx hb dX4_numberAt_0 (by decide) ?_
  refine lv_istore_n (lv' := [(3, .int 0), (0, .ref a0), (1, .int p0), (2, .int p1)]) hx hb dX4_numberAt_1 rfl hl (by decide) rfl (fun ls hl => ?_)
  refine lv_iconst (v := 0) hx hb dX4_numberAt_2 (by decide) ?_
  refine lv_istore (lv' := [(4, .int 0), (3, .int 0), (0, .ref a0), (1, .int p0), (2, .int p1)]) hx hb dX4_numberAt_3 hl (by decide) rfl (fun ls hl => ?_)
  exact loop_5 _ 0 0 (Nat.lt_succ_self _) hF ls (lv_sub hl [2, 3, 4, 1, 0] rfl)

def f_X4_errorInNumber_L31 (tn : Int32) (tf : Nat → Int32) (p0 : Int32) (p1 : Int32) (p2 : Int32) (p3 : Int32) : Nat → Int32 → Int32 → Int32 → Int32
  | 0, _, _, _ => 0
  | n + 1, x5, x6, x7 =>
    if p1 ≤ x7 then
    (-1)
  else
    gLet (f_X4_signAt tn tf (p0 + x7)) (fun (v3 : Int32) =>
      if v3 < 48 then
        (p0 + x7)
      else
        if v3 ≤ 57 then
          if p3 < (x5 + ((v3 - 48) * (x6 / 10))) then
            (p0 + x7)
          else
            if p2 ≤ (((x5 + ((v3 - 48) * (x6 / 10))) + (x6 / 10)) - 1) then
              f_X4_errorInNumber_L31 tn tf p0 p1 p2 p3 n (x5 + ((v3 - 48) * (x6 / 10))) (x6 / 10) (x7 + 1)
            else
              (p0 + x7)
        else
          (p0 + x7))
theorem f_X4_errorInNumber_L31_s (tn : Int32) (tf : Nat → Int32) (p0 : Int32) (p1 : Int32) (p2 : Int32) (p3 : Int32) (n : Nat) (x5 : Int32) (x6 : Int32) (x7 : Int32) : f_X4_errorInNumber_L31 tn tf p0 p1 p2 p3 (n + 1) x5 x6 x7 =
    (if p1 ≤ x7 then
    (-1)
  else
    gLet (f_X4_signAt tn tf (p0 + x7)) (fun (v3 : Int32) =>
      if v3 < 48 then
        (p0 + x7)
      else
        if v3 ≤ 57 then
          if p3 < (x5 + ((v3 - 48) * (x6 / 10))) then
            (p0 + x7)
          else
            if p2 ≤ (((x5 + ((v3 - 48) * (x6 / 10))) + (x6 / 10)) - 1) then
              f_X4_errorInNumber_L31 tn tf p0 p1 p2 p3 n (x5 + ((v3 - 48) * (x6 / 10))) (x6 / 10) (x7 + 1)
            else
              (p0 + x7)
        else
          (p0 + x7))) := rfl
def f_X4_errorInNumber (tn : Int32) (tf : Nat → Int32) (p0 : Int32) (p1 : Int32) (p2 : Int32) (p3 : Int32) : Int32 :=
    if p1 = 3 then
    f_X4_errorInNumber_L31 tn tf p0 p1 p2 p3 ((p1.toInt - (0 : Int32).toInt).toNat + 1) 0 1000 0
  else
    if p1 = 2 then
      f_X4_errorInNumber_L31 tn tf p0 p1 p2 p3 ((p1.toInt - (0 : Int32).toInt).toNat + 1) 0 100 0
    else
      f_X4_errorInNumber_L31 tn tf p0 p1 p2 p3 ((p1.toInt - (0 : Int32).toInt).toNat + 1) 0 10 0
theorem f_X4_errorInNumber_s (tn : Int32) (tf : Nat → Int32) (p0 : Int32) (p1 : Int32) (p2 : Int32) (p3 : Int32) : f_X4_errorInNumber tn tf p0 p1 p2 p3 =
    (if p1 = 3 then
    f_X4_errorInNumber_L31 tn tf p0 p1 p2 p3 ((p1.toInt - (0 : Int32).toInt).toNat + 1) 0 1000 0
  else
    if p1 = 2 then
      f_X4_errorInNumber_L31 tn tf p0 p1 p2 p3 ((p1.toInt - (0 : Int32).toInt).toNat + 1) 0 100 0
    else
      f_X4_errorInNumber_L31 tn tf p0 p1 p2 p3 ((p1.toInt - (0 : Int32).toInt).toNat + 1) 0 10 0) := rfl
theorem hd_X4_errorInNumber : yX4_errorInNumber.cls = RX4 ∧ yX4_errorInNumber.cls ≠ "java/lang/invoke/MethodHandle" ∧ yX4_errorInNumber.cls ≠ "java/lang/invoke/VarHandle" ∧ (parseMethodDescriptor yX4_errorInNumber.desc).map (fun d => d.parameters.length) = some 4 := by decide +kernel
set_option maxHeartbeats 4000000 in
set_option maxRecDepth 100000 in
theorem c_X4_errorInNumber (l : Launch) (D : va_G) (y : Nat → ClassId) (a0 a1 : Nat) (zh : Nat) (tn : Int32) (tf : Nat → Int32) (p0 : Int32) (p1 : Int32) (p2 : Int32) (p3 : Int32) (ht : okT tn tf) : Met l yX4_errorInNumber wsX4_errorInNumber ({ frames := 1, cells := 0, slots := 0, locals := 21 }) (gP D y [.ref a0, .int p0, .int p1, .int p2, .int p3] zh [(a0, .inr (3, [.ref a1, .int tn])), (a1, .inl (y 1, 120, .inl tf))]) (vp_Si (fun v : Int32 => f_X4_errorInNumber tn tf p0 p1 p2 p3 = v)) 0 0 (fun _ => False) := by
  refine Met.ofW (cc := cX4_errorInNumber) (maxL := 9) (ret := (some .int)) (by decide) rfl ?_
  intro p e s m args below meth c s₁ B hml hv
  obtain ⟨rfl, hsz, hP, hE, hD⟩ := hv
  have hx := B.exec
  have hb := B.bytes
  have hr := B.returns
  have hts := atoms_spec (ws := wsX4_errorInNumber) B.pre
  have hown : s.vm.findClass RX4 = some m.cls := findClass_of_methodNamed B.named
  have hlocks := B.notSynchronized
  have hl := lv_entry ([.ref a0, .int p0, .int p1, .int p2, .int p3]) (n := 9) (Nat.le_of_ble_eq_true rfl)
  rw [lg_entry_eq]
  generalize (lg_sl ([.ref a0, .int p0, .int p1, .int p2, .int p3]) ++ List.replicate (9 - (lg_sl ([.ref a0, .int p0, .int p1, .int p2, .int p3])).length) Slot.unset).toArray = ls at hl ⊢
  have hl : lv_has ls 9 [(0, .ref a0), (1, .int p0), (2, .int p1), (3, .int p2), (4, .int p3)] := hl
  have loop_31 : ∀ (n : Nat) (x5 : Int32) (x6 : Int32) (x7 : Int32), (p1.toInt - x7.toInt).toNat < n → f_X4_errorInNumber tn tf p0 p1 p2 p3 = f_X4_errorInNumber_L31 tn tf p0 p1 p2 p3 n x5 x6 x7 → ∀ (ls : Array Slot), lv_has ls 9 [(0, .ref a0), (1, .int p0), (2, .int p1), (3, .int p2), (4, .int p3), (5, .int x5), (6, .int x6), (7, .int x7)] → W p l e (headSpec wsX4_errorInNumber ({ frames := 1, cells := 0, slots := 0, locals := 21 })).room s m ([.ref a0, .int p0, .int p1, .int p2, .int p3] : List Value).toArray below meth c s.heap [] 0 0 (MQ below (vp_Si (fun v : Int32 => f_X4_errorInNumber tn tf p0 p1 p2 p3 = v)) ([.ref a0, .int p0, .int p1, .int p2, .int p3] : List Value).toArray s 0 0 (fun _ => False)) (F0 m 31 ls []) := by
    intro n
    induction n with
    | zero =>
      intro x5 x6 x7 hμ
      exact absurd hμ (Nat.not_lt_zero _)
    | succ n ih =>
      intro x5 x6 x7 hμ hF ls hl
      have hF := hF.trans (f_X4_errorInNumber_L31_s tn tf p0 p1 p2 p3 n x5 x6 x7)
      refine lv_iload hx hb dX4_errorInNumber_31 (lv_at hl 7 rfl) ?_
      refine lv_iload_n hx hb dX4_errorInNumber_33 rfl (lv_at hl 2 rfl) ?_
      refine lv_icmp_ge (tgt := 115) hx hb dX4_errorInNumber_34 (by decide) (fun c_1 => ?_) (fun c_1 => ?_)
      · have hF := hF.trans (if_pos c_1)
        refine lv_iconst (v := (-1)) hx hb dX4_errorInNumber_115 (by decide) ?_
        exact W.iret (v := (-1)) hx hb hr (fun t ht hW => ⟨(-1), rfl, hF, ht⟩) (fun _ h => nomatch h) dX4_errorInNumber_116
      · have hF := hF.trans (if_neg c_1)
        refine lv_aload_n hx hb dX4_errorInNumber_37 rfl (lv_at hl 0 rfl) ?_
        refine lv_iload_n hx hb dX4_errorInNumber_38 rfl (lv_at hl 1 rfl) ?_
        refine lv_iload hx hb dX4_errorInNumber_39 (lv_at hl 7 rfl) ?_
        refine lv_iadd hx hb dX4_errorInNumber_41 ?_
        refine xs_calli (va_runV (As := [.int (p0 + x7)]) (rest := []) ⟨hx, hb, hml, hown, hts⟩ (c_X4_signAt l D y a0 a1 s.heap.size tn tf (p0 + x7) ht) (cwV 1 hts gX4_errorInNumber_X4_signAt rfl rfl rfl hd_X4_signAt ⟨Nat.le_of_ble_eq_true rfl, Nat.le_of_ble_eq_true rfl⟩) (gV (q := (RX4, TX4, 2)) hE hP hD 0 rfl rfl) rfl rfl hl.1 rfl (lv_room (Nat.le_of_ble_eq_true rfl)) dX4_errorInNumber_42 ⟨Nat.le_of_ble_eq_true rfl, Nat.le_of_ble_eq_true rfl⟩) (fun v3 h2 => ?_)
        have hF := hF.trans (gLet_e h2)
        refine lv_istore (lv' := [(8, .int v3), (0, .ref a0), (1, .int p0), (2, .int p1), (3, .int p2), (4, .int p3), (5, .int x5), (6, .int x6), (7, .int x7)]) hx hb dX4_errorInNumber_45 hl (by decide) rfl (fun ls hl => ?_)
        refine lv_iload hx hb dX4_errorInNumber_47 (lv_at hl 0 rfl) ?_
        refine lv_bipush (v := 48) hx hb dX4_errorInNumber_49 (by decide) ?_
        refine lv_icmp_lt (tgt := 61) hx hb dX4_errorInNumber_51 (by decide) (fun c_4 => ?_) (fun c_4 => ?_)
        · have hF := hF.trans (if_pos c_4)
          refine lv_iload_n hx hb dX4_errorInNumber_61 rfl (lv_at hl 2 rfl) ?_
          refine lv_iload hx hb dX4_errorInNumber_62 (lv_at hl 8 rfl) ?_
          refine lv_iadd hx hb dX4_errorInNumber_64 ?_
          exact W.iret (v := (p0 + x7)) hx hb hr (fun t ht hW => ⟨(p0 + x7), rfl, hF, ht⟩) (fun _ h => nomatch h) dX4_errorInNumber_65
        · have hF := hF.trans (if_neg c_4)
          refine lv_iload hx hb dX4_errorInNumber_54 (lv_at hl 0 rfl) ?_
          refine lv_bipush (v := 57) hx hb dX4_errorInNumber_56 (by decide) ?_
          refine lv_icmp_le (tgt := 66) hx hb dX4_errorInNumber_58 (by decide) (fun c_5 => ?_) (fun c_5 => ?_)
          · have hF := hF.trans (if_pos c_5)
            refine lv_iload hx hb dX4_errorInNumber_66 (lv_at hl 7 rfl) ?_
            refine lv_bipush (v := 10) hx hb dX4_errorInNumber_68 (by decide) ?_
            refine lv_idiv hx hb dX4_errorInNumber_70 (by decide) ?_
            refine lv_istore (lv' := [(6, .int (x6 / 10)), (8, .int v3), (0, .ref a0), (1, .int p0), (2, .int p1), (3, .int p2), (4, .int p3), (5, .int x5), (7, .int x7)]) hx hb dX4_errorInNumber_71 hl (by decide) rfl (fun ls hl => ?_)
            refine lv_iload hx hb dX4_errorInNumber_73 (lv_at hl 7 rfl) ?_
            refine lv_iload hx hb dX4_errorInNumber_75 (lv_at hl 1 rfl) ?_
            refine lv_bipush (v := 48) hx hb dX4_errorInNumber_77 (by decide) ?_
            refine lv_isub hx hb dX4_errorInNumber_79 ?_
            refine lv_iload hx hb dX4_errorInNumber_80 (lv_at hl 0 rfl) ?_
            refine lv_imul hx hb dX4_errorInNumber_82 ?_
            refine lv_iadd hx hb dX4_errorInNumber_83 ?_
            refine lv_istore (lv' := [(5, .int (x5 + ((v3 - 48) * (x6 / 10)))), (6, .int (x6 / 10)), (8, .int v3), (0, .ref a0), (1, .int p0), (2, .int p1), (3, .int p2), (4, .int p3), (7, .int x7)]) hx hb dX4_errorInNumber_84 hl (by decide) rfl (fun ls hl => ?_)
            refine lv_iload hx hb dX4_errorInNumber_86 (lv_at hl 0 rfl) ?_
            refine lv_iload hx hb dX4_errorInNumber_88 (lv_at hl 7 rfl) ?_
            refine lv_icmp_gt (tgt := 104) hx hb dX4_errorInNumber_90 (by decide) (fun c_6 => ?_) (fun c_6 => ?_)
            · have hF := hF.trans (if_pos c_6)
              refine lv_iload_n hx hb dX4_errorInNumber_104 rfl (lv_at hl 4 rfl) ?_
              refine lv_iload hx hb dX4_errorInNumber_105 (lv_at hl 8 rfl) ?_
              refine lv_iadd hx hb dX4_errorInNumber_107 ?_
              exact W.iret (v := (p0 + x7)) hx hb hr (fun t ht hW => ⟨(p0 + x7), rfl, hF, ht⟩) (fun _ h => nomatch h) dX4_errorInNumber_108
            · have hF := hF.trans (if_neg c_6)
              refine lv_iload hx hb dX4_errorInNumber_93 (lv_at hl 0 rfl) ?_
              refine lv_iload hx hb dX4_errorInNumber_95 (lv_at hl 1 rfl) ?_
              refine lv_iadd hx hb dX4_errorInNumber_97 ?_
              refine lv_iconst (v := 1) hx hb dX4_errorInNumber_98 (by decide) ?_
              refine lv_isub hx hb dX4_errorInNumber_99 ?_
              refine lv_iload_n hx hb dX4_errorInNumber_100 rfl (lv_at hl 6 rfl) ?_
              refine lv_icmp_ge (tgt := 109) hx hb dX4_errorInNumber_101 (by decide) (fun c_7 => ?_) (fun c_7 => ?_)
              · have hF := hF.trans (if_pos c_7)
                refine lv_iinc (v := (x7 + 1)) (lv' := [(7, .int (x7 + 1)), (5, .int (x5 + ((v3 - 48) * (x6 / 10)))), (6, .int (x6 / 10)), (8, .int v3), (0, .ref a0), (1, .int p0), (2, .int p1), (3, .int p2), (4, .int p3)]) hx hb dX4_errorInNumber_109 hl (k := 8) rfl rfl (by decide) rfl (fun ls hl => ?_)
                refine lv_goto (tgt := 31) hx hb dX4_errorInNumber_112 (by decide) ?_
                exact ih (x5 + ((v3 - 48) * (x6 / 10))) (x6 / 10) (x7 + 1) (lp_up (by assumption) hμ) hF ls (lv_sub hl [4, 5, 6, 7, 8, 1, 2, 0] rfl)
              · have hF := hF.trans (if_neg c_7)
                refine lv_iload_n hx hb dX4_errorInNumber_104 rfl (lv_at hl 4 rfl) ?_
                refine lv_iload hx hb dX4_errorInNumber_105 (lv_at hl 8 rfl) ?_
                refine lv_iadd hx hb dX4_errorInNumber_107 ?_
                exact W.iret (v := (p0 + x7)) hx hb hr (fun t ht hW => ⟨(p0 + x7), rfl, hF, ht⟩) (fun _ h => nomatch h) dX4_errorInNumber_108
          · have hF := hF.trans (if_neg c_5)
            refine lv_iload_n hx hb dX4_errorInNumber_61 rfl (lv_at hl 2 rfl) ?_
            refine lv_iload hx hb dX4_errorInNumber_62 (lv_at hl 8 rfl) ?_
            refine lv_iadd hx hb dX4_errorInNumber_64 ?_
            exact W.iret (v := (p0 + x7)) hx hb hr (fun t ht hW => ⟨(p0 + x7), rfl, hF, ht⟩) (fun _ h => nomatch h) dX4_errorInNumber_65
  have hF := f_X4_errorInNumber_s tn tf p0 p1 p2 p3
  refine lv_iconst (v := 0) hx hb dX4_errorInNumber_0 (by decide) ?_
  refine lv_istore (lv' := [(5, .int 0), (0, .ref a0), (1, .int p0), (2, .int p1), (3, .int p2), (4, .int p3)]) hx hb dX4_errorInNumber_1 hl (by decide) rfl (fun ls hl => ?_)
  refine lv_iload_n hx hb dX4_errorInNumber_3 rfl (lv_at hl 3 rfl) ?_
  refine lv_iconst (v := 3) hx hb dX4_errorInNumber_4 (by decide) ?_
  refine lv_icmp_ne (tgt := 14) hx hb dX4_errorInNumber_5 (by decide) (fun c_8 => ?_) (fun c_8 => ?_)
  · have hF := hF.trans (if_neg c_8)
    refine lv_iload_n hx hb dX4_errorInNumber_14 rfl (lv_at hl 3 rfl) ?_
    refine lv_iconst (v := 2) hx hb dX4_errorInNumber_15 (by decide) ?_
    refine lv_icmp_ne (tgt := 24) hx hb dX4_errorInNumber_16 (by decide) (fun c_9 => ?_) (fun c_9 => ?_)
    · have hF := hF.trans (if_neg c_9)
      refine lv_bipush (v := 10) hx hb dX4_errorInNumber_24 (by decide) ?_
      refine lv_istore (lv' := [(6, .int 10), (5, .int 0), (0, .ref a0), (1, .int p0), (2, .int p1), (3, .int p2), (4, .int p3)]) hx hb dX4_errorInNumber_26 hl (by decide) rfl (fun ls hl => ?_)
      refine lv_iconst (v := 0) hx hb dX4_errorInNumber_28 (by decide) ?_
      refine lv_istore (lv' := [(7, .int 0), (6, .int 10), (5, .int 0), (0, .ref a0), (1, .int p0), (2, .int p1), (3, .int p2), (4, .int p3)]) hx hb dX4_errorInNumber_29 hl (by decide) rfl (fun ls hl => ?_)
      exact loop_31 _ 0 10 0 (Nat.lt_succ_self _) hF ls (lv_sub hl [3, 4, 5, 6, 7, 2, 1, 0] rfl)
    · have hF := hF.trans (if_pos c_9)
      refine lv_bipush (v := 100) hx hb dX4_errorInNumber_19 (by decide) ?_
      refine lv_goto (tgt := 26) hx hb dX4_errorInNumber_21 (by decide) ?_
      refine lv_istore (lv' := [(6, .int 100), (5, .int 0), (0, .ref a0), (1, .int p0), (2, .int p1), (3, .int p2), (4, .int p3)]) hx hb dX4_errorInNumber_26 hl (by decide) rfl (fun ls hl => ?_)
      refine lv_iconst (v := 0) hx hb dX4_errorInNumber_28 (by decide) ?_
      refine lv_istore (lv' := [(7, .int 0), (6, .int 100), (5, .int 0), (0, .ref a0), (1, .int p0), (2, .int p1), (3, .int p2), (4, .int p3)]) hx hb dX4_errorInNumber_29 hl (by decide) rfl (fun ls hl => ?_)
      exact loop_31 _ 0 100 0 (Nat.lt_succ_self _) hF ls (lv_sub hl [3, 4, 5, 6, 7, 2, 1, 0] rfl)
  · have hF := hF.trans (if_pos c_8)
    refine lv_sipush (v := 1000) hx hb dX4_errorInNumber_8 (by decide) ?_
    refine lv_goto (tgt := 26) hx hb dX4_errorInNumber_11 (by decide) ?_
    refine lv_istore (lv' := [(6, .int 1000), (5, .int 0), (0, .ref a0), (1, .int p0), (2, .int p1), (3, .int p2), (4, .int p3)]) hx hb dX4_errorInNumber_26 hl (by decide) rfl (fun ls hl => ?_)
    refine lv_iconst (v := 0) hx hb dX4_errorInNumber_28 (by decide) ?_
    refine lv_istore (lv' := [(7, .int 0), (6, .int 1000), (5, .int 0), (0, .ref a0), (1, .int p0), (2, .int p1), (3, .int p2), (4, .int p3)]) hx hb dX4_errorInNumber_29 hl (by decide) rfl (fun ls hl => ?_)
    exact loop_31 _ 0 1000 0 (Nat.lt_succ_self _) hF ls (lv_sub hl [3, 4, 5, 6, 7, 2, 1, 0] rfl)

def f_X4_errorInHead (tn : Int32) (tf : Nat → Int32) : Int32 :=
    gLet (f_X4_signAt tn tf 0) (fun (v2 : Int32) =>
    if v2 = 76 then
      gLet (f_X4_errorInNumber tn tf 1 2 4 32) (fun (v5 : Int32) =>
        if v5 = (-1) then
          gLet (f_X4_errorInNumber tn tf 3 2 1 31) (fun (v11 : Int32) =>
            if v11 = (-1) then
              gLet (f_X4_errorInNumber tn tf 5 1 0 4) (fun (v14 : Int32) =>
                v14)
            else
              v11)
        else
          if v5 = (-1) then
            gLet (f_X4_errorInNumber tn tf 5 1 0 4) (fun (v9 : Int32) =>
              v9)
          else
            v5)
    else
      0)
theorem f_X4_errorInHead_s (tn : Int32) (tf : Nat → Int32) : f_X4_errorInHead tn tf =
    (gLet (f_X4_signAt tn tf 0) (fun (v2 : Int32) =>
    if v2 = 76 then
      gLet (f_X4_errorInNumber tn tf 1 2 4 32) (fun (v5 : Int32) =>
        if v5 = (-1) then
          gLet (f_X4_errorInNumber tn tf 3 2 1 31) (fun (v11 : Int32) =>
            if v11 = (-1) then
              gLet (f_X4_errorInNumber tn tf 5 1 0 4) (fun (v14 : Int32) =>
                v14)
            else
              v11)
        else
          if v5 = (-1) then
            gLet (f_X4_errorInNumber tn tf 5 1 0 4) (fun (v9 : Int32) =>
              v9)
          else
            v5)
    else
      0)) := rfl
theorem hd_X4_errorInHead : yX4_errorInHead.cls = RX4 ∧ yX4_errorInHead.cls ≠ "java/lang/invoke/MethodHandle" ∧ yX4_errorInHead.cls ≠ "java/lang/invoke/VarHandle" ∧ (parseMethodDescriptor yX4_errorInHead.desc).map (fun d => d.parameters.length) = some 0 := by decide +kernel
set_option maxHeartbeats 4000000 in
set_option maxRecDepth 100000 in
theorem c_X4_errorInHead (l : Launch) (D : va_G) (y : Nat → ClassId) (a0 a1 : Nat) (zh : Nat) (tn : Int32) (tf : Nat → Int32) (ht : okT tn tf) : Met l yX4_errorInHead wsX4_errorInHead ({ frames := 2, cells := 0, slots := 0, locals := 49 }) (gP D y [.ref a0] zh [(a0, .inr (3, [.ref a1, .int tn])), (a1, .inl (y 1, 120, .inl tf))]) (vp_Si (fun v : Int32 => f_X4_errorInHead tn tf = v)) 0 0 (fun _ => False) := by
  refine Met.ofW (cc := cX4_errorInHead) (maxL := 2) (ret := (some .int)) (by decide) rfl ?_
  intro p e s m args below meth c s₁ B hml hv
  obtain ⟨rfl, hsz, hP, hE, hD⟩ := hv
  have hx := B.exec
  have hb := B.bytes
  have hr := B.returns
  have hts := atoms_spec (ws := wsX4_errorInHead) B.pre
  have hown : s.vm.findClass RX4 = some m.cls := findClass_of_methodNamed B.named
  have hlocks := B.notSynchronized
  have hl := lv_entry ([.ref a0]) (n := 2) (Nat.le_of_ble_eq_true rfl)
  rw [lg_entry_eq]
  generalize (lg_sl ([.ref a0]) ++ List.replicate (2 - (lg_sl ([.ref a0])).length) Slot.unset).toArray = ls at hl ⊢
  have hl : lv_has ls 2 [(0, .ref a0)] := hl
  have hF := f_X4_errorInHead_s tn tf
  refine lv_aload_n hx hb dX4_errorInHead_0 rfl (lv_at hl 0 rfl) ?_
  refine lv_iconst (v := 0) hx hb dX4_errorInHead_1 (by decide) ?_
  refine xs_calli (va_runV (As := [.int 0]) (rest := []) ⟨hx, hb, hml, hown, hts⟩ (c_X4_signAt l D y a0 a1 s.heap.size tn tf 0 ht) (cwV 1 hts gX4_errorInHead_X4_signAt rfl rfl rfl hd_X4_signAt ⟨Nat.le_of_ble_eq_true rfl, Nat.le_of_ble_eq_true rfl⟩) (gV (q := (RX4, TX4, 2)) hE hP hD 0 rfl rfl) rfl rfl hl.1 rfl (lv_room (Nat.le_of_ble_eq_true rfl)) dX4_errorInHead_2 ⟨Nat.le_of_ble_eq_true rfl, Nat.le_of_ble_eq_true rfl⟩) (fun v2 h1 => ?_)
  have hF := hF.trans (gLet_e h1)
  refine lv_bipush (v := 76) hx hb dX4_errorInHead_5 (by decide) ?_
  refine lv_icmp_eq (tgt := 12) hx hb dX4_errorInHead_7 (by decide) (fun c_3 => ?_) (fun c_3 => ?_)
  · have hF := hF.trans (if_pos c_3)
    refine lv_aload_n hx hb dX4_errorInHead_12 rfl (lv_at hl 0 rfl) ?_
    refine lv_iconst (v := 1) hx hb dX4_errorInHead_13 (by decide) ?_
    refine lv_iconst (v := 2) hx hb dX4_errorInHead_14 (by decide) ?_
    refine lv_iconst (v := 4) hx hb dX4_errorInHead_15 (by decide) ?_
    refine lv_bipush (v := 32) hx hb dX4_errorInHead_16 (by decide) ?_
    refine xs_calli (va_runV (As := [.int 1, .int 2, .int 4, .int 32]) (rest := []) ⟨hx, hb, hml, hown, hts⟩ (c_X4_errorInNumber l D y a0 a1 s.heap.size tn tf 1 2 4 32 ht) (cwV 4 hts gX4_errorInHead_X4_errorInNumber rfl rfl rfl hd_X4_errorInNumber ⟨Nat.le_of_ble_eq_true rfl, Nat.le_of_ble_eq_true rfl⟩) (gV (q := (RX4, TX4, 2)) hE hP hD 0 rfl rfl) rfl rfl hl.1 rfl (lv_room (Nat.le_of_ble_eq_true rfl)) dX4_errorInHead_18 ⟨Nat.le_of_ble_eq_true rfl, Nat.le_of_ble_eq_true rfl⟩) (fun v5 h4 => ?_)
    have hF := hF.trans (gLet_e h4)
    refine lv_istore_n (lv' := [(1, .int v5), (0, .ref a0)]) hx hb dX4_errorInHead_21 rfl hl (by decide) rfl (fun ls hl => ?_)
    refine lv_iload_n hx hb dX4_errorInHead_22 rfl (lv_at hl 0 rfl) ?_
    refine lv_iconst (v := (-1)) hx hb dX4_errorInHead_23 (by decide) ?_
    refine lv_icmp_ne (tgt := 37) hx hb dX4_errorInHead_24 (by decide) (fun c_6 => ?_) (fun c_6 => ?_)
    · have hF := hF.trans (if_neg c_6)
      refine lv_iload_n hx hb dX4_errorInHead_37 rfl (lv_at hl 0 rfl) ?_
      refine lv_iconst (v := (-1)) hx hb dX4_errorInHead_38 (by decide) ?_
      refine lv_icmp_ne (tgt := 51) hx hb dX4_errorInHead_39 (by decide) (fun c_7 => ?_) (fun c_7 => ?_)
      · have hF := hF.trans (if_neg c_7)
        refine lv_iload_n hx hb dX4_errorInHead_51 rfl (lv_at hl 0 rfl) ?_
        exact W.iret (v := v5) hx hb hr (fun t ht hW => ⟨v5, rfl, hF, ht⟩) (fun _ h => nomatch h) dX4_errorInHead_52
      · have hF := hF.trans (if_pos c_7)
        refine lv_aload_n hx hb dX4_errorInHead_42 rfl (lv_at hl 1 rfl) ?_
        refine lv_iconst (v := 5) hx hb dX4_errorInHead_43 (by decide) ?_
        refine lv_iconst (v := 1) hx hb dX4_errorInHead_44 (by decide) ?_
        refine lv_iconst (v := 0) hx hb dX4_errorInHead_45 (by decide) ?_
        refine lv_iconst (v := 4) hx hb dX4_errorInHead_46 (by decide) ?_
        refine xs_calli (va_runV (As := [.int 5, .int 1, .int 0, .int 4]) (rest := []) ⟨hx, hb, hml, hown, hts⟩ (c_X4_errorInNumber l D y a0 a1 s.heap.size tn tf 5 1 0 4 ht) (cwV 4 hts gX4_errorInHead_X4_errorInNumber rfl rfl rfl hd_X4_errorInNumber ⟨Nat.le_of_ble_eq_true rfl, Nat.le_of_ble_eq_true rfl⟩) (gV (q := (RX4, TX4, 2)) hE hP hD 0 rfl rfl) rfl rfl hl.1 rfl (lv_room (Nat.le_of_ble_eq_true rfl)) dX4_errorInHead_47 ⟨Nat.le_of_ble_eq_true rfl, Nat.le_of_ble_eq_true rfl⟩) (fun v9 h8 => ?_)
        have hF := hF.trans (gLet_e h8)
        refine lv_istore_n (lv' := [(1, .int v9), (0, .ref a0)]) hx hb dX4_errorInHead_50 rfl hl (by decide) rfl (fun ls hl => ?_)
        refine lv_iload_n hx hb dX4_errorInHead_51 rfl (lv_at hl 0 rfl) ?_
        exact W.iret (v := v9) hx hb hr (fun t ht hW => ⟨v9, rfl, hF, ht⟩) (fun _ h => nomatch h) dX4_errorInHead_52
    · have hF := hF.trans (if_pos c_6)
      refine lv_aload_n hx hb dX4_errorInHead_27 rfl (lv_at hl 1 rfl) ?_
      refine lv_iconst (v := 3) hx hb dX4_errorInHead_28 (by decide) ?_
      refine lv_iconst (v := 2) hx hb dX4_errorInHead_29 (by decide) ?_
      refine lv_iconst (v := 1) hx hb dX4_errorInHead_30 (by decide) ?_
      refine lv_bipush (v := 31) hx hb dX4_errorInHead_31 (by decide) ?_
      refine xs_calli (va_runV (As := [.int 3, .int 2, .int 1, .int 31]) (rest := []) ⟨hx, hb, hml, hown, hts⟩ (c_X4_errorInNumber l D y a0 a1 s.heap.size tn tf 3 2 1 31 ht) (cwV 4 hts gX4_errorInHead_X4_errorInNumber rfl rfl rfl hd_X4_errorInNumber ⟨Nat.le_of_ble_eq_true rfl, Nat.le_of_ble_eq_true rfl⟩) (gV (q := (RX4, TX4, 2)) hE hP hD 0 rfl rfl) rfl rfl hl.1 rfl (lv_room (Nat.le_of_ble_eq_true rfl)) dX4_errorInHead_33 ⟨Nat.le_of_ble_eq_true rfl, Nat.le_of_ble_eq_true rfl⟩) (fun v11 h10 => ?_)
      have hF := hF.trans (gLet_e h10)
      refine lv_istore_n (lv' := [(1, .int v11), (0, .ref a0)]) hx hb dX4_errorInHead_36 rfl hl (by decide) rfl (fun ls hl => ?_)
      refine lv_iload_n hx hb dX4_errorInHead_37 rfl (lv_at hl 0 rfl) ?_
      refine lv_iconst (v := (-1)) hx hb dX4_errorInHead_38 (by decide) ?_
      refine lv_icmp_ne (tgt := 51) hx hb dX4_errorInHead_39 (by decide) (fun c_12 => ?_) (fun c_12 => ?_)
      · have hF := hF.trans (if_neg c_12)
        refine lv_iload_n hx hb dX4_errorInHead_51 rfl (lv_at hl 0 rfl) ?_
        exact W.iret (v := v11) hx hb hr (fun t ht hW => ⟨v11, rfl, hF, ht⟩) (fun _ h => nomatch h) dX4_errorInHead_52
      · have hF := hF.trans (if_pos c_12)
        refine lv_aload_n hx hb dX4_errorInHead_42 rfl (lv_at hl 1 rfl) ?_
        refine lv_iconst (v := 5) hx hb dX4_errorInHead_43 (by decide) ?_
        refine lv_iconst (v := 1) hx hb dX4_errorInHead_44 (by decide) ?_
        refine lv_iconst (v := 0) hx hb dX4_errorInHead_45 (by decide) ?_
        refine lv_iconst (v := 4) hx hb dX4_errorInHead_46 (by decide) ?_
        refine xs_calli (va_runV (As := [.int 5, .int 1, .int 0, .int 4]) (rest := []) ⟨hx, hb, hml, hown, hts⟩ (c_X4_errorInNumber l D y a0 a1 s.heap.size tn tf 5 1 0 4 ht) (cwV 4 hts gX4_errorInHead_X4_errorInNumber rfl rfl rfl hd_X4_errorInNumber ⟨Nat.le_of_ble_eq_true rfl, Nat.le_of_ble_eq_true rfl⟩) (gV (q := (RX4, TX4, 2)) hE hP hD 0 rfl rfl) rfl rfl hl.1 rfl (lv_room (Nat.le_of_ble_eq_true rfl)) dX4_errorInHead_47 ⟨Nat.le_of_ble_eq_true rfl, Nat.le_of_ble_eq_true rfl⟩) (fun v14 h13 => ?_)
        have hF := hF.trans (gLet_e h13)
        refine lv_istore_n (lv' := [(1, .int v14), (0, .ref a0)]) hx hb dX4_errorInHead_50 rfl hl (by decide) rfl (fun ls hl => ?_)
        refine lv_iload_n hx hb dX4_errorInHead_51 rfl (lv_at hl 0 rfl) ?_
        exact W.iret (v := v14) hx hb hr (fun t ht hW => ⟨v14, rfl, hF, ht⟩) (fun _ h => nomatch h) dX4_errorInHead_52
  · have hF := hF.trans (if_neg c_3)
    refine lv_iconst (v := 0) hx hb dX4_errorInHead_10 (by decide) ?_
    exact W.iret (v := 0) hx hb hr (fun t ht hW => ⟨0, rfl, hF, ht⟩) (fun _ h => nomatch h) dX4_errorInHead_11

def f_X4_errorInCommand (tn : Int32) (tf : Nat → Int32) (p0 : Int32) : Int32 :=
    gLet (f_X4_signAt tn tf p0) (fun (v2 : Int32) =>
    if v2 = 97 then
      gLet (f_X4_errorInNumber tn tf (p0 + 1) 1 1 9) (fun (v31 : Int32) =>
        v31)
    else
      gLet (f_X4_signAt tn tf p0) (fun (v5 : Int32) =>
        if v5 = 119 then
          gLet (f_X4_errorInNumber tn tf (p0 + 1) 2 0 31) (fun (v8 : Int32) =>
            if v8 = (-1) then
              gLet (f_X4_signAt tn tf p0) (fun (v11 : Int32) =>
                if v11 = 119 then
                  gLet (f_X4_errorInNumber tn tf (p0 + 3) 3 0 999) (fun (v16 : Int32) =>
                    v16)
                else
                  gLet (f_X4_errorInNumber tn tf (p0 + 3) 2 1 99) (fun (v14 : Int32) =>
                    v14))
            else
              v8)
        else
          gLet (f_X4_signAt tn tf p0) (fun (v18 : Int32) =>
            if v18 = 104 then
              gLet (f_X4_errorInNumber tn tf (p0 + 1) 2 0 31) (fun (v21 : Int32) =>
                if v21 = (-1) then
                  gLet (f_X4_signAt tn tf p0) (fun (v24 : Int32) =>
                    if v24 = 119 then
                      gLet (f_X4_errorInNumber tn tf (p0 + 3) 3 0 999) (fun (v29 : Int32) =>
                        v29)
                    else
                      gLet (f_X4_errorInNumber tn tf (p0 + 3) 2 1 99) (fun (v27 : Int32) =>
                        v27))
                else
                  v21)
            else
              p0)))
theorem f_X4_errorInCommand_s (tn : Int32) (tf : Nat → Int32) (p0 : Int32) : f_X4_errorInCommand tn tf p0 =
    (gLet (f_X4_signAt tn tf p0) (fun (v2 : Int32) =>
    if v2 = 97 then
      gLet (f_X4_errorInNumber tn tf (p0 + 1) 1 1 9) (fun (v31 : Int32) =>
        v31)
    else
      gLet (f_X4_signAt tn tf p0) (fun (v5 : Int32) =>
        if v5 = 119 then
          gLet (f_X4_errorInNumber tn tf (p0 + 1) 2 0 31) (fun (v8 : Int32) =>
            if v8 = (-1) then
              gLet (f_X4_signAt tn tf p0) (fun (v11 : Int32) =>
                if v11 = 119 then
                  gLet (f_X4_errorInNumber tn tf (p0 + 3) 3 0 999) (fun (v16 : Int32) =>
                    v16)
                else
                  gLet (f_X4_errorInNumber tn tf (p0 + 3) 2 1 99) (fun (v14 : Int32) =>
                    v14))
            else
              v8)
        else
          gLet (f_X4_signAt tn tf p0) (fun (v18 : Int32) =>
            if v18 = 104 then
              gLet (f_X4_errorInNumber tn tf (p0 + 1) 2 0 31) (fun (v21 : Int32) =>
                if v21 = (-1) then
                  gLet (f_X4_signAt tn tf p0) (fun (v24 : Int32) =>
                    if v24 = 119 then
                      gLet (f_X4_errorInNumber tn tf (p0 + 3) 3 0 999) (fun (v29 : Int32) =>
                        v29)
                    else
                      gLet (f_X4_errorInNumber tn tf (p0 + 3) 2 1 99) (fun (v27 : Int32) =>
                        v27))
                else
                  v21)
            else
              p0)))) := rfl
theorem hd_X4_errorInCommand : yX4_errorInCommand.cls = RX4 ∧ yX4_errorInCommand.cls ≠ "java/lang/invoke/MethodHandle" ∧ yX4_errorInCommand.cls ≠ "java/lang/invoke/VarHandle" ∧ (parseMethodDescriptor yX4_errorInCommand.desc).map (fun d => d.parameters.length) = some 1 := by decide +kernel
set_option maxHeartbeats 4000000 in
set_option maxRecDepth 100000 in
theorem c_X4_errorInCommand (l : Launch) (D : va_G) (y : Nat → ClassId) (a0 a1 : Nat) (zh : Nat) (tn : Int32) (tf : Nat → Int32) (p0 : Int32) (ht : okT tn tf) : Met l yX4_errorInCommand wsX4_errorInCommand ({ frames := 2, cells := 0, slots := 0, locals := 49 }) (gP D y [.ref a0, .int p0] zh [(a0, .inr (3, [.ref a1, .int tn])), (a1, .inl (y 1, 120, .inl tf))]) (vp_Si (fun v : Int32 => f_X4_errorInCommand tn tf p0 = v)) 0 0 (fun _ => False) := by
  refine Met.ofW (cc := cX4_errorInCommand) (maxL := 3) (ret := (some .int)) (by decide) rfl ?_
  intro p e s m args below meth c s₁ B hml hv
  obtain ⟨rfl, hsz, hP, hE, hD⟩ := hv
  have hx := B.exec
  have hb := B.bytes
  have hr := B.returns
  have hts := atoms_spec (ws := wsX4_errorInCommand) B.pre
  have hown : s.vm.findClass RX4 = some m.cls := findClass_of_methodNamed B.named
  have hlocks := B.notSynchronized
  have hl := lv_entry ([.ref a0, .int p0]) (n := 3) (Nat.le_of_ble_eq_true rfl)
  rw [lg_entry_eq]
  generalize (lg_sl ([.ref a0, .int p0]) ++ List.replicate (3 - (lg_sl ([.ref a0, .int p0])).length) Slot.unset).toArray = ls at hl ⊢
  have hl : lv_has ls 3 [(0, .ref a0), (1, .int p0)] := hl
  have hF := f_X4_errorInCommand_s tn tf p0
  refine lv_aload_n hx hb dX4_errorInCommand_0 rfl (lv_at hl 0 rfl) ?_
  refine lv_iload_n hx hb dX4_errorInCommand_1 rfl (lv_at hl 1 rfl) ?_
  refine xs_calli (va_runV (As := [.int p0]) (rest := []) ⟨hx, hb, hml, hown, hts⟩ (c_X4_signAt l D y a0 a1 s.heap.size tn tf p0 ht) (cwV 1 hts gX4_errorInCommand_X4_signAt rfl rfl rfl hd_X4_signAt ⟨Nat.le_of_ble_eq_true rfl, Nat.le_of_ble_eq_true rfl⟩) (gV (q := (RX4, TX4, 2)) hE hP hD 0 rfl rfl) rfl rfl hl.1 rfl (lv_room (Nat.le_of_ble_eq_true rfl)) dX4_errorInCommand_2 ⟨Nat.le_of_ble_eq_true rfl, Nat.le_of_ble_eq_true rfl⟩) (fun v2 h1 => ?_)
  have hF := hF.trans (gLet_e h1)
  refine lv_bipush (v := 97) hx hb dX4_errorInCommand_5 (by decide) ?_
  refine lv_icmp_ne (tgt := 22) hx hb dX4_errorInCommand_7 (by decide) (fun c_3 => ?_) (fun c_3 => ?_)
  · have hF := hF.trans (if_neg c_3)
    refine lv_aload_n hx hb dX4_errorInCommand_22 rfl (lv_at hl 0 rfl) ?_
    refine lv_iload_n hx hb dX4_errorInCommand_23 rfl (lv_at hl 1 rfl) ?_
    refine xs_calli (va_runV (As := [.int p0]) (rest := []) ⟨hx, hb, hml, hown, hts⟩ (c_X4_signAt l D y a0 a1 s.heap.size tn tf p0 ht) (cwV 1 hts gX4_errorInCommand_X4_signAt rfl rfl rfl hd_X4_signAt ⟨Nat.le_of_ble_eq_true rfl, Nat.le_of_ble_eq_true rfl⟩) (gV (q := (RX4, TX4, 2)) hE hP hD 0 rfl rfl) rfl rfl hl.1 rfl (lv_room (Nat.le_of_ble_eq_true rfl)) dX4_errorInCommand_24 ⟨Nat.le_of_ble_eq_true rfl, Nat.le_of_ble_eq_true rfl⟩) (fun v5 h4 => ?_)
    have hF := hF.trans (gLet_e h4)
    refine lv_bipush (v := 119) hx hb dX4_errorInCommand_27 (by decide) ?_
    refine lv_icmp_eq (tgt := 44) hx hb dX4_errorInCommand_29 (by decide) (fun c_6 => ?_) (fun c_6 => ?_)
    · have hF := hF.trans (if_pos c_6)
      refine lv_aload_n hx hb dX4_errorInCommand_44 rfl (lv_at hl 0 rfl) ?_
      refine lv_iload_n hx hb dX4_errorInCommand_45 rfl (lv_at hl 1 rfl) ?_
      refine lv_iconst (v := 1) hx hb dX4_errorInCommand_46 (by decide) ?_
      refine lv_iadd hx hb dX4_errorInCommand_47 ?_
      refine lv_iconst (v := 2) hx hb dX4_errorInCommand_48 (by decide) ?_
      refine lv_iconst (v := 0) hx hb dX4_errorInCommand_49 (by decide) ?_
      refine lv_bipush (v := 31) hx hb dX4_errorInCommand_50 (by decide) ?_
      refine xs_calli (va_runV (As := [.int (p0 + 1), .int 2, .int 0, .int 31]) (rest := []) ⟨hx, hb, hml, hown, hts⟩ (c_X4_errorInNumber l D y a0 a1 s.heap.size tn tf (p0 + 1) 2 0 31 ht) (cwV 4 hts gX4_errorInCommand_X4_errorInNumber rfl rfl rfl hd_X4_errorInNumber ⟨Nat.le_of_ble_eq_true rfl, Nat.le_of_ble_eq_true rfl⟩) (gV (q := (RX4, TX4, 2)) hE hP hD 0 rfl rfl) rfl rfl hl.1 rfl (lv_room (Nat.le_of_ble_eq_true rfl)) dX4_errorInCommand_52 ⟨Nat.le_of_ble_eq_true rfl, Nat.le_of_ble_eq_true rfl⟩) (fun v8 h7 => ?_)
      have hF := hF.trans (gLet_e h7)
      refine lv_istore_n (lv' := [(2, .int v8), (0, .ref a0), (1, .int p0)]) hx hb dX4_errorInCommand_55 rfl hl (by decide) rfl (fun ls hl => ?_)
      refine lv_iload_n hx hb dX4_errorInCommand_56 rfl (lv_at hl 0 rfl) ?_
      refine lv_iconst (v := (-1)) hx hb dX4_errorInCommand_57 (by decide) ?_
      refine lv_icmp_eq (tgt := 63) hx hb dX4_errorInCommand_58 (by decide) (fun c_9 => ?_) (fun c_9 => ?_)
      · have hF := hF.trans (if_pos c_9)
        refine lv_aload_n hx hb dX4_errorInCommand_63 rfl (lv_at hl 1 rfl) ?_
        refine lv_iload_n hx hb dX4_errorInCommand_64 rfl (lv_at hl 2 rfl) ?_
        refine xs_calli (va_runV (As := [.int p0]) (rest := []) ⟨hx, hb, hml, hown, hts⟩ (c_X4_signAt l D y a0 a1 s.heap.size tn tf p0 ht) (cwV 1 hts gX4_errorInCommand_X4_signAt rfl rfl rfl hd_X4_signAt ⟨Nat.le_of_ble_eq_true rfl, Nat.le_of_ble_eq_true rfl⟩) (gV (q := (RX4, TX4, 2)) hE hP hD 0 rfl rfl) rfl rfl hl.1 rfl (lv_room (Nat.le_of_ble_eq_true rfl)) dX4_errorInCommand_65 ⟨Nat.le_of_ble_eq_true rfl, Nat.le_of_ble_eq_true rfl⟩) (fun v11 h10 => ?_)
        have hF := hF.trans (gLet_e h10)
        refine lv_bipush (v := 119) hx hb dX4_errorInCommand_68 (by decide) ?_
        refine lv_icmp_ne (tgt := 88) hx hb dX4_errorInCommand_70 (by decide) (fun c_12 => ?_) (fun c_12 => ?_)
        · have hF := hF.trans (if_neg c_12)
          refine lv_aload_n hx hb dX4_errorInCommand_88 rfl (lv_at hl 1 rfl) ?_
          refine lv_iload_n hx hb dX4_errorInCommand_89 rfl (lv_at hl 2 rfl) ?_
          refine lv_iconst (v := 3) hx hb dX4_errorInCommand_90 (by decide) ?_
          refine lv_iadd hx hb dX4_errorInCommand_91 ?_
          refine lv_iconst (v := 2) hx hb dX4_errorInCommand_92 (by decide) ?_
          refine lv_iconst (v := 1) hx hb dX4_errorInCommand_93 (by decide) ?_
          refine lv_bipush (v := 99) hx hb dX4_errorInCommand_94 (by decide) ?_
          refine xs_calli (va_runV (As := [.int (p0 + 3), .int 2, .int 1, .int 99]) (rest := []) ⟨hx, hb, hml, hown, hts⟩ (c_X4_errorInNumber l D y a0 a1 s.heap.size tn tf (p0 + 3) 2 1 99 ht) (cwV 4 hts gX4_errorInCommand_X4_errorInNumber rfl rfl rfl hd_X4_errorInNumber ⟨Nat.le_of_ble_eq_true rfl, Nat.le_of_ble_eq_true rfl⟩) (gV (q := (RX4, TX4, 2)) hE hP hD 0 rfl rfl) rfl rfl hl.1 rfl (lv_room (Nat.le_of_ble_eq_true rfl)) dX4_errorInCommand_96 ⟨Nat.le_of_ble_eq_true rfl, Nat.le_of_ble_eq_true rfl⟩) (fun v14 h13 => ?_)
          have hF := hF.trans (gLet_e h13)
          exact W.iret (v := v14) hx hb hr (fun t ht hW => ⟨v14, rfl, hF, ht⟩) (fun _ h => nomatch h) dX4_errorInCommand_99
        · have hF := hF.trans (if_pos c_12)
          refine lv_aload_n hx hb dX4_errorInCommand_73 rfl (lv_at hl 1 rfl) ?_
          refine lv_iload_n hx hb dX4_errorInCommand_74 rfl (lv_at hl 2 rfl) ?_
          refine lv_iconst (v := 3) hx hb dX4_errorInCommand_75 (by decide) ?_
          refine lv_iadd hx hb dX4_errorInCommand_76 ?_
          refine lv_iconst (v := 3) hx hb dX4_errorInCommand_77 (by decide) ?_
          refine lv_iconst (v := 0) hx hb dX4_errorInCommand_78 (by decide) ?_
          refine lv_sipush (v := 999) hx hb dX4_errorInCommand_79 (by decide) ?_
          refine xs_calli (va_runV (As := [.int (p0 + 3), .int 3, .int 0, .int 999]) (rest := []) ⟨hx, hb, hml, hown, hts⟩ (c_X4_errorInNumber l D y a0 a1 s.heap.size tn tf (p0 + 3) 3 0 999 ht) (cwV 4 hts gX4_errorInCommand_X4_errorInNumber rfl rfl rfl hd_X4_errorInNumber ⟨Nat.le_of_ble_eq_true rfl, Nat.le_of_ble_eq_true rfl⟩) (gV (q := (RX4, TX4, 2)) hE hP hD 0 rfl rfl) rfl rfl hl.1 rfl (lv_room (Nat.le_of_ble_eq_true rfl)) dX4_errorInCommand_82 ⟨Nat.le_of_ble_eq_true rfl, Nat.le_of_ble_eq_true rfl⟩) (fun v16 h15 => ?_)
          have hF := hF.trans (gLet_e h15)
          refine lv_goto (tgt := 99) hx hb dX4_errorInCommand_85 (by decide) ?_
          exact W.iret (v := v16) hx hb hr (fun t ht hW => ⟨v16, rfl, hF, ht⟩) (fun _ h => nomatch h) dX4_errorInCommand_99
      · have hF := hF.trans (if_neg c_9)
        refine lv_iload_n hx hb dX4_errorInCommand_61 rfl (lv_at hl 0 rfl) ?_
        exact W.iret (v := v8) hx hb hr (fun t ht hW => ⟨v8, rfl, hF, ht⟩) (fun _ h => nomatch h) dX4_errorInCommand_62
    · have hF := hF.trans (if_neg c_6)
      refine lv_aload_n hx hb dX4_errorInCommand_32 rfl (lv_at hl 0 rfl) ?_
      refine lv_iload_n hx hb dX4_errorInCommand_33 rfl (lv_at hl 1 rfl) ?_
      refine xs_calli (va_runV (As := [.int p0]) (rest := []) ⟨hx, hb, hml, hown, hts⟩ (c_X4_signAt l D y a0 a1 s.heap.size tn tf p0 ht) (cwV 1 hts gX4_errorInCommand_X4_signAt rfl rfl rfl hd_X4_signAt ⟨Nat.le_of_ble_eq_true rfl, Nat.le_of_ble_eq_true rfl⟩) (gV (q := (RX4, TX4, 2)) hE hP hD 0 rfl rfl) rfl rfl hl.1 rfl (lv_room (Nat.le_of_ble_eq_true rfl)) dX4_errorInCommand_34 ⟨Nat.le_of_ble_eq_true rfl, Nat.le_of_ble_eq_true rfl⟩) (fun v18 h17 => ?_)
      have hF := hF.trans (gLet_e h17)
      refine lv_bipush (v := 104) hx hb dX4_errorInCommand_37 (by decide) ?_
      refine lv_icmp_eq (tgt := 44) hx hb dX4_errorInCommand_39 (by decide) (fun c_19 => ?_) (fun c_19 => ?_)
      · have hF := hF.trans (if_pos c_19)
        refine lv_aload_n hx hb dX4_errorInCommand_44 rfl (lv_at hl 0 rfl) ?_
        refine lv_iload_n hx hb dX4_errorInCommand_45 rfl (lv_at hl 1 rfl) ?_
        refine lv_iconst (v := 1) hx hb dX4_errorInCommand_46 (by decide) ?_
        refine lv_iadd hx hb dX4_errorInCommand_47 ?_
        refine lv_iconst (v := 2) hx hb dX4_errorInCommand_48 (by decide) ?_
        refine lv_iconst (v := 0) hx hb dX4_errorInCommand_49 (by decide) ?_
        refine lv_bipush (v := 31) hx hb dX4_errorInCommand_50 (by decide) ?_
        refine xs_calli (va_runV (As := [.int (p0 + 1), .int 2, .int 0, .int 31]) (rest := []) ⟨hx, hb, hml, hown, hts⟩ (c_X4_errorInNumber l D y a0 a1 s.heap.size tn tf (p0 + 1) 2 0 31 ht) (cwV 4 hts gX4_errorInCommand_X4_errorInNumber rfl rfl rfl hd_X4_errorInNumber ⟨Nat.le_of_ble_eq_true rfl, Nat.le_of_ble_eq_true rfl⟩) (gV (q := (RX4, TX4, 2)) hE hP hD 0 rfl rfl) rfl rfl hl.1 rfl (lv_room (Nat.le_of_ble_eq_true rfl)) dX4_errorInCommand_52 ⟨Nat.le_of_ble_eq_true rfl, Nat.le_of_ble_eq_true rfl⟩) (fun v21 h20 => ?_)
        have hF := hF.trans (gLet_e h20)
        refine lv_istore_n (lv' := [(2, .int v21), (0, .ref a0), (1, .int p0)]) hx hb dX4_errorInCommand_55 rfl hl (by decide) rfl (fun ls hl => ?_)
        refine lv_iload_n hx hb dX4_errorInCommand_56 rfl (lv_at hl 0 rfl) ?_
        refine lv_iconst (v := (-1)) hx hb dX4_errorInCommand_57 (by decide) ?_
        refine lv_icmp_eq (tgt := 63) hx hb dX4_errorInCommand_58 (by decide) (fun c_22 => ?_) (fun c_22 => ?_)
        · have hF := hF.trans (if_pos c_22)
          refine lv_aload_n hx hb dX4_errorInCommand_63 rfl (lv_at hl 1 rfl) ?_
          refine lv_iload_n hx hb dX4_errorInCommand_64 rfl (lv_at hl 2 rfl) ?_
          refine xs_calli (va_runV (As := [.int p0]) (rest := []) ⟨hx, hb, hml, hown, hts⟩ (c_X4_signAt l D y a0 a1 s.heap.size tn tf p0 ht) (cwV 1 hts gX4_errorInCommand_X4_signAt rfl rfl rfl hd_X4_signAt ⟨Nat.le_of_ble_eq_true rfl, Nat.le_of_ble_eq_true rfl⟩) (gV (q := (RX4, TX4, 2)) hE hP hD 0 rfl rfl) rfl rfl hl.1 rfl (lv_room (Nat.le_of_ble_eq_true rfl)) dX4_errorInCommand_65 ⟨Nat.le_of_ble_eq_true rfl, Nat.le_of_ble_eq_true rfl⟩) (fun v24 h23 => ?_)
          have hF := hF.trans (gLet_e h23)
          refine lv_bipush (v := 119) hx hb dX4_errorInCommand_68 (by decide) ?_
          refine lv_icmp_ne (tgt := 88) hx hb dX4_errorInCommand_70 (by decide) (fun c_25 => ?_) (fun c_25 => ?_)
          · have hF := hF.trans (if_neg c_25)
            refine lv_aload_n hx hb dX4_errorInCommand_88 rfl (lv_at hl 1 rfl) ?_
            refine lv_iload_n hx hb dX4_errorInCommand_89 rfl (lv_at hl 2 rfl) ?_
            refine lv_iconst (v := 3) hx hb dX4_errorInCommand_90 (by decide) ?_
            refine lv_iadd hx hb dX4_errorInCommand_91 ?_
            refine lv_iconst (v := 2) hx hb dX4_errorInCommand_92 (by decide) ?_
            refine lv_iconst (v := 1) hx hb dX4_errorInCommand_93 (by decide) ?_
            refine lv_bipush (v := 99) hx hb dX4_errorInCommand_94 (by decide) ?_
            refine xs_calli (va_runV (As := [.int (p0 + 3), .int 2, .int 1, .int 99]) (rest := []) ⟨hx, hb, hml, hown, hts⟩ (c_X4_errorInNumber l D y a0 a1 s.heap.size tn tf (p0 + 3) 2 1 99 ht) (cwV 4 hts gX4_errorInCommand_X4_errorInNumber rfl rfl rfl hd_X4_errorInNumber ⟨Nat.le_of_ble_eq_true rfl, Nat.le_of_ble_eq_true rfl⟩) (gV (q := (RX4, TX4, 2)) hE hP hD 0 rfl rfl) rfl rfl hl.1 rfl (lv_room (Nat.le_of_ble_eq_true rfl)) dX4_errorInCommand_96 ⟨Nat.le_of_ble_eq_true rfl, Nat.le_of_ble_eq_true rfl⟩) (fun v27 h26 => ?_)
            have hF := hF.trans (gLet_e h26)
            exact W.iret (v := v27) hx hb hr (fun t ht hW => ⟨v27, rfl, hF, ht⟩) (fun _ h => nomatch h) dX4_errorInCommand_99
          · have hF := hF.trans (if_pos c_25)
            refine lv_aload_n hx hb dX4_errorInCommand_73 rfl (lv_at hl 1 rfl) ?_
            refine lv_iload_n hx hb dX4_errorInCommand_74 rfl (lv_at hl 2 rfl) ?_
            refine lv_iconst (v := 3) hx hb dX4_errorInCommand_75 (by decide) ?_
            refine lv_iadd hx hb dX4_errorInCommand_76 ?_
            refine lv_iconst (v := 3) hx hb dX4_errorInCommand_77 (by decide) ?_
            refine lv_iconst (v := 0) hx hb dX4_errorInCommand_78 (by decide) ?_
            refine lv_sipush (v := 999) hx hb dX4_errorInCommand_79 (by decide) ?_
            refine xs_calli (va_runV (As := [.int (p0 + 3), .int 3, .int 0, .int 999]) (rest := []) ⟨hx, hb, hml, hown, hts⟩ (c_X4_errorInNumber l D y a0 a1 s.heap.size tn tf (p0 + 3) 3 0 999 ht) (cwV 4 hts gX4_errorInCommand_X4_errorInNumber rfl rfl rfl hd_X4_errorInNumber ⟨Nat.le_of_ble_eq_true rfl, Nat.le_of_ble_eq_true rfl⟩) (gV (q := (RX4, TX4, 2)) hE hP hD 0 rfl rfl) rfl rfl hl.1 rfl (lv_room (Nat.le_of_ble_eq_true rfl)) dX4_errorInCommand_82 ⟨Nat.le_of_ble_eq_true rfl, Nat.le_of_ble_eq_true rfl⟩) (fun v29 h28 => ?_)
            have hF := hF.trans (gLet_e h28)
            refine lv_goto (tgt := 99) hx hb dX4_errorInCommand_85 (by decide) ?_
            exact W.iret (v := v29) hx hb hr (fun t ht hW => ⟨v29, rfl, hF, ht⟩) (fun _ h => nomatch h) dX4_errorInCommand_99
        · have hF := hF.trans (if_neg c_22)
          refine lv_iload_n hx hb dX4_errorInCommand_61 rfl (lv_at hl 0 rfl) ?_
          exact W.iret (v := v21) hx hb hr (fun t ht hW => ⟨v21, rfl, hF, ht⟩) (fun _ h => nomatch h) dX4_errorInCommand_62
      · have hF := hF.trans (if_neg c_19)
        refine lv_iload_n hx hb dX4_errorInCommand_42 rfl (lv_at hl 1 rfl) ?_
        exact W.iret (v := p0) hx hb hr (fun t ht hW => ⟨p0, rfl, hF, ht⟩) (fun _ h => nomatch h) dX4_errorInCommand_43
  · have hF := hF.trans (if_pos c_3)
    refine lv_aload_n hx hb dX4_errorInCommand_10 rfl (lv_at hl 0 rfl) ?_
    refine lv_iload_n hx hb dX4_errorInCommand_11 rfl (lv_at hl 1 rfl) ?_
    refine lv_iconst (v := 1) hx hb dX4_errorInCommand_12 (by decide) ?_
    refine lv_iadd hx hb dX4_errorInCommand_13 ?_
    refine lv_iconst (v := 1) hx hb dX4_errorInCommand_14 (by decide) ?_
    refine lv_iconst (v := 1) hx hb dX4_errorInCommand_15 (by decide) ?_
    refine lv_bipush (v := 9) hx hb dX4_errorInCommand_16 (by decide) ?_
    refine xs_calli (va_runV (As := [.int (p0 + 1), .int 1, .int 1, .int 9]) (rest := []) ⟨hx, hb, hml, hown, hts⟩ (c_X4_errorInNumber l D y a0 a1 s.heap.size tn tf (p0 + 1) 1 1 9 ht) (cwV 4 hts gX4_errorInCommand_X4_errorInNumber rfl rfl rfl hd_X4_errorInNumber ⟨Nat.le_of_ble_eq_true rfl, Nat.le_of_ble_eq_true rfl⟩) (gV (q := (RX4, TX4, 2)) hE hP hD 0 rfl rfl) rfl rfl hl.1 rfl (lv_room (Nat.le_of_ble_eq_true rfl)) dX4_errorInCommand_18 ⟨Nat.le_of_ble_eq_true rfl, Nat.le_of_ble_eq_true rfl⟩) (fun v31 h30 => ?_)
    have hF := hF.trans (gLet_e h30)
    exact W.iret (v := v31) hx hb hr (fun t ht hW => ⟨v31, rfl, hF, ht⟩) (fun _ h => nomatch h) dX4_errorInCommand_21

def f_X4_commandLength (tn : Int32) (tf : Nat → Int32) (p0 : Int32) : Int32 :=
    gLet (f_X4_signAt tn tf p0) (fun (v2 : Int32) =>
    if v2 = 104 then
      5
    else
      if v2 = 119 then
        6
      else
        2)
theorem f_X4_commandLength_s (tn : Int32) (tf : Nat → Int32) (p0 : Int32) : f_X4_commandLength tn tf p0 =
    (gLet (f_X4_signAt tn tf p0) (fun (v2 : Int32) =>
    if v2 = 104 then
      5
    else
      if v2 = 119 then
        6
      else
        2)) := rfl
theorem hd_X4_commandLength : yX4_commandLength.cls = RX4 ∧ yX4_commandLength.cls ≠ "java/lang/invoke/MethodHandle" ∧ yX4_commandLength.cls ≠ "java/lang/invoke/VarHandle" ∧ (parseMethodDescriptor yX4_commandLength.desc).map (fun d => d.parameters.length) = some 1 := by decide +kernel
set_option maxHeartbeats 4000000 in
set_option maxRecDepth 100000 in
theorem c_X4_commandLength (l : Launch) (D : va_G) (y : Nat → ClassId) (a0 a1 : Nat) (zh : Nat) (tn : Int32) (tf : Nat → Int32) (p0 : Int32) (ht : okT tn tf) : Met l yX4_commandLength wsX4_commandLength ({ frames := 1, cells := 0, slots := 0, locals := 21 }) (gP D y [.ref a0, .int p0] zh [(a0, .inr (3, [.ref a1, .int tn])), (a1, .inl (y 1, 120, .inl tf))]) (vp_Si (fun v : Int32 => f_X4_commandLength tn tf p0 = v)) 0 0 (fun _ => False) := by
  refine Met.ofW (cc := cX4_commandLength) (maxL := 2) (ret := (some .int)) (by decide) rfl ?_
  intro p e s m args below meth c s₁ B hml hv
  obtain ⟨rfl, hsz, hP, hE, hD⟩ := hv
  have hx := B.exec
  have hb := B.bytes
  have hr := B.returns
  have hts := atoms_spec (ws := wsX4_commandLength) B.pre
  have hown : s.vm.findClass RX4 = some m.cls := findClass_of_methodNamed B.named
  have hlocks := B.notSynchronized
  have hl := lv_entry ([.ref a0, .int p0]) (n := 2) (Nat.le_of_ble_eq_true rfl)
  rw [lg_entry_eq]
  generalize (lg_sl ([.ref a0, .int p0]) ++ List.replicate (2 - (lg_sl ([.ref a0, .int p0])).length) Slot.unset).toArray = ls at hl ⊢
  have hl : lv_has ls 2 [(0, .ref a0), (1, .int p0)] := hl
  have hF := f_X4_commandLength_s tn tf p0
  refine lv_aload_n hx hb dX4_commandLength_0 rfl (lv_at hl 0 rfl) ?_
  refine lv_iload_n hx hb dX4_commandLength_1 rfl (lv_at hl 1 rfl) ?_
  refine xs_calli (va_runV (As := [.int p0]) (rest := []) ⟨hx, hb, hml, hown, hts⟩ (c_X4_signAt l D y a0 a1 s.heap.size tn tf p0 ht) (cwV 1 hts gX4_commandLength_X4_signAt rfl rfl rfl hd_X4_signAt ⟨Nat.le_of_ble_eq_true rfl, Nat.le_of_ble_eq_true rfl⟩) (gV (q := (RX4, TX4, 2)) hE hP hD 0 rfl rfl) rfl rfl hl.1 rfl (lv_room (Nat.le_of_ble_eq_true rfl)) dX4_commandLength_2 ⟨Nat.le_of_ble_eq_true rfl, Nat.le_of_ble_eq_true rfl⟩) (fun v2 h1 => ?_)
  have hF := hF.trans (gLet_e h1)
  by_cases c_3 : v2 = 104
  · have hF := hF.trans (if_pos c_3)
    refine lv_lookup (off := 30) (tgt := 35) hx hb dX4_commandLength_5 (by decide) (by rw [c_3]; decide) (by decide) ?_
    refine lv_iconst (v := 5) hx hb dX4_commandLength_35 (by decide) ?_
    exact W.iret (v := 5) hx hb hr (fun t ht hW => ⟨5, rfl, hF, ht⟩) (fun _ h => nomatch h) dX4_commandLength_36
  · have hF := hF.trans (if_neg c_3)
    by_cases c_4 : v2 = 119
    · have hF := hF.trans (if_pos c_4)
      refine lv_lookup (off := 27) (tgt := 32) hx hb dX4_commandLength_5 (by decide) (by rw [c_4]; decide) (by decide) ?_
      refine lv_bipush (v := 6) hx hb dX4_commandLength_32 (by decide) ?_
      exact W.iret (v := 6) hx hb hr (fun t ht hW => ⟨6, rfl, hF, ht⟩) (fun _ h => nomatch h) dX4_commandLength_34
    · have hF := hF.trans (if_neg c_4)
      refine lv_lookup (off := 32) (tgt := 37) hx hb dX4_commandLength_5 (by decide) (by have q0 := sw_ne c_3 (n := 104) (by decide); have q1 := sw_ne c_4 (n := 119) (by decide); simp [Op.lookupswitch.offset, Ne.symm q0, Ne.symm q1]) (by decide) ?_
      refine lv_iconst (v := 2) hx hb dX4_commandLength_37 (by decide) ?_
      exact W.iret (v := 2) hx hb hr (fun t ht hW => ⟨2, rfl, hF, ht⟩) (fun _ h => nomatch h) dX4_commandLength_38

def f_X4_firstError_L11 (tn : Int32) (tf : Nat → Int32) : Nat → Int32 → Int32 → Int32 → Int32
  | 0, _, _, _ => 0
  | n + 1, x1, x2, x3 =>
    if tn ≤ x3 then
    x1
  else
    if x1 = (-1) then
      if x3 = x2 then
        gLet (f_X4_errorInCommand tn tf x3) (fun (v5 : Int32) =>
          gLet (f_X4_commandLength tn tf x3) (fun (v7 : Int32) =>
            f_X4_firstError_L11 tn tf n v5 (x3 + v7) (x3 + 1)))
      else
        f_X4_firstError_L11 tn tf n x1 x2 (x3 + 1)
    else
      x1
theorem f_X4_firstError_L11_s (tn : Int32) (tf : Nat → Int32) (n : Nat) (x1 : Int32) (x2 : Int32) (x3 : Int32) : f_X4_firstError_L11 tn tf (n + 1) x1 x2 x3 =
    (if tn ≤ x3 then
    x1
  else
    if x1 = (-1) then
      if x3 = x2 then
        gLet (f_X4_errorInCommand tn tf x3) (fun (v5 : Int32) =>
          gLet (f_X4_commandLength tn tf x3) (fun (v7 : Int32) =>
            f_X4_firstError_L11 tn tf n v5 (x3 + v7) (x3 + 1)))
      else
        f_X4_firstError_L11 tn tf n x1 x2 (x3 + 1)
    else
      x1) := rfl
def f_X4_firstError (tn : Int32) (tf : Nat → Int32) : Int32 :=
    gLet (f_X4_errorInHead tn tf) (fun (v9 : Int32) =>
    f_X4_firstError_L11 tn tf ((tn.toInt - (6 : Int32).toInt).toNat + 1) v9 6 6)
theorem f_X4_firstError_s (tn : Int32) (tf : Nat → Int32) : f_X4_firstError tn tf =
    (gLet (f_X4_errorInHead tn tf) (fun (v9 : Int32) =>
    f_X4_firstError_L11 tn tf ((tn.toInt - (6 : Int32).toInt).toNat + 1) v9 6 6)) := rfl
theorem hd_X4_firstError : yX4_firstError.cls = RX4 ∧ yX4_firstError.cls ≠ "java/lang/invoke/MethodHandle" ∧ yX4_firstError.cls ≠ "java/lang/invoke/VarHandle" ∧ (parseMethodDescriptor yX4_firstError.desc).map (fun d => d.parameters.length) = some 0 := by decide +kernel
set_option maxHeartbeats 4000000 in
set_option maxRecDepth 100000 in
theorem c_X4_firstError (l : Launch) (D : va_G) (y : Nat → ClassId) (a0 a1 : Nat) (zh : Nat) (tn : Int32) (tf : Nat → Int32) (ht : okT tn tf) : Met l yX4_firstError wsX4_firstError ({ frames := 3, cells := 0, slots := 0, locals := 71 }) (gP D y [.ref a0] zh [(a0, .inr (3, [.ref a1, .int tn])), (a1, .inl (y 1, 120, .inl tf))]) (vp_Si (fun v : Int32 => f_X4_firstError tn tf = v)) 0 0 (fun _ => False) := by
  refine Met.ofW (cc := cX4_firstError) (maxL := 4) (ret := (some .int)) (by decide) rfl ?_
  intro p e s m args below meth c s₁ B hml hv
  obtain ⟨rfl, hsz, hP, hE, hD⟩ := hv
  have hx := B.exec
  have hb := B.bytes
  have hr := B.returns
  have hts := atoms_spec (ws := wsX4_firstError) B.pre
  have hown : s.vm.findClass RX4 = some m.cls := findClass_of_methodNamed B.named
  have hlocks := B.notSynchronized
  have w_0 := hts (.fieldLink RX4 15 "GapLines$Text" "length" "I") (List.mem_cons_of_mem _ (List.mem_append_left _ (List.mem_of_getElem? (i := 0) rfl)))
  have hi4 : ∀ w ∈ u_ws RX4 TX4 2, w ∈ wsX4_firstError := fun w h => (List.mem_cons_of_mem _ (List.mem_append_right _ h))
  have hl := lv_entry ([.ref a0]) (n := 4) (Nat.le_of_ble_eq_true rfl)
  rw [lg_entry_eq]
  generalize (lg_sl ([.ref a0]) ++ List.replicate (4 - (lg_sl ([.ref a0])).length) Slot.unset).toArray = ls at hl ⊢
  have hl : lv_has ls 4 [(0, .ref a0)] := hl
  have loop_11 : ∀ (n : Nat) (x1 : Int32) (x2 : Int32) (x3 : Int32), (tn.toInt - x3.toInt).toNat < n → f_X4_firstError tn tf = f_X4_firstError_L11 tn tf n x1 x2 x3 → ∀ (ls : Array Slot), lv_has ls 4 [(0, .ref a0), (1, .int x1), (2, .int x2), (3, .int x3)] → W p l e (headSpec wsX4_firstError ({ frames := 3, cells := 0, slots := 0, locals := 71 })).room s m ([.ref a0] : List Value).toArray below meth c s.heap [] 0 0 (MQ below (vp_Si (fun v : Int32 => f_X4_firstError tn tf = v)) ([.ref a0] : List Value).toArray s 0 0 (fun _ => False)) (F0 m 11 ls []) := by
    intro n
    induction n with
    | zero =>
      intro x1 x2 x3 hμ
      exact absurd hμ (Nat.not_lt_zero _)
    | succ n ih =>
      intro x1 x2 x3 hμ hF ls hl
      have hF := hF.trans (f_X4_firstError_L11_s tn tf n x1 x2 x3)
      refine lv_iload_n hx hb dX4_firstError_11 rfl (lv_at hl 3 rfl) ?_
      refine lv_aload_n hx hb dX4_firstError_12 rfl (lv_at hl 0 rfl) ?_
      refine va_get (D := D) (ci := 3) (v := .int tn) (C := RX4) (T := TX4) (N := 2) hx hb hts hi4 hown hE.1 hP 0 rfl rfl 1 (by decide) w_0 (fun _ h9 => h9) rfl dX4_firstError_13 ?_
      refine lv_icmp_ge (tgt := 49) hx hb dX4_firstError_16 (by decide) (fun c_1 => ?_) (fun c_1 => ?_)
      · have hF := hF.trans (if_pos c_1)
        refine lv_iload_n hx hb dX4_firstError_49 rfl (lv_at hl 1 rfl) ?_
        exact W.iret (v := x1) hx hb hr (fun t ht hW => ⟨x1, rfl, hF, ht⟩) (fun _ h => nomatch h) dX4_firstError_50
      · have hF := hF.trans (if_neg c_1)
        refine lv_iload_n hx hb dX4_firstError_19 rfl (lv_at hl 1 rfl) ?_
        refine lv_iconst (v := (-1)) hx hb dX4_firstError_20 (by decide) ?_
        refine lv_icmp_ne (tgt := 49) hx hb dX4_firstError_21 (by decide) (fun c_2 => ?_) (fun c_2 => ?_)
        · have hF := hF.trans (if_neg c_2)
          refine lv_iload_n hx hb dX4_firstError_49 rfl (lv_at hl 1 rfl) ?_
          exact W.iret (v := x1) hx hb hr (fun t ht hW => ⟨x1, rfl, hF, ht⟩) (fun _ h => nomatch h) dX4_firstError_50
        · have hF := hF.trans (if_pos c_2)
          refine lv_iload_n hx hb dX4_firstError_24 rfl (lv_at hl 3 rfl) ?_
          refine lv_iload_n hx hb dX4_firstError_25 rfl (lv_at hl 2 rfl) ?_
          refine lv_icmp_ne (tgt := 43) hx hb dX4_firstError_26 (by decide) (fun c_3 => ?_) (fun c_3 => ?_)
          · have hF := hF.trans (if_neg c_3)
            refine lv_iinc (v := (x3 + 1)) (lv' := [(3, .int (x3 + 1)), (0, .ref a0), (1, .int x1), (2, .int x2)]) hx hb dX4_firstError_43 hl (k := 3) rfl rfl (by decide) rfl (fun ls hl => ?_)
            refine lv_goto (tgt := 11) hx hb dX4_firstError_46 (by decide) ?_
            exact ih x1 x2 (x3 + 1) (lp_up (by assumption) hμ) hF ls (lv_sub hl [1, 2, 3, 0] rfl)
          · have hF := hF.trans (if_pos c_3)
            refine lv_aload_n hx hb dX4_firstError_29 rfl (lv_at hl 0 rfl) ?_
            refine lv_iload_n hx hb dX4_firstError_30 rfl (lv_at hl 3 rfl) ?_
            refine xs_calli (va_runV (As := [.int x3]) (rest := []) ⟨hx, hb, hml, hown, hts⟩ (c_X4_errorInCommand l D y a0 a1 s.heap.size tn tf x3 ht) (cwV 1 hts gX4_firstError_X4_errorInCommand rfl rfl rfl hd_X4_errorInCommand ⟨Nat.le_of_ble_eq_true rfl, Nat.le_of_ble_eq_true rfl⟩) (gV (q := (RX4, TX4, 2)) hE hP hD 0 rfl rfl) rfl rfl hl.1 rfl (lv_room (Nat.le_of_ble_eq_true rfl)) dX4_firstError_31 ⟨Nat.le_of_ble_eq_true rfl, Nat.le_of_ble_eq_true rfl⟩) (fun v5 h4 => ?_)
            have hF := hF.trans (gLet_e h4)
            refine lv_istore_n (lv' := [(1, .int v5), (0, .ref a0), (2, .int x2), (3, .int x3)]) hx hb dX4_firstError_34 rfl hl (by decide) rfl (fun ls hl => ?_)
            refine lv_iload_n hx hb dX4_firstError_35 rfl (lv_at hl 3 rfl) ?_
            refine lv_aload_n hx hb dX4_firstError_36 rfl (lv_at hl 1 rfl) ?_
            refine lv_iload_n hx hb dX4_firstError_37 rfl (lv_at hl 3 rfl) ?_
            refine xs_calli (va_runV (As := [.int x3]) (rest := [.int x3]) ⟨hx, hb, hml, hown, hts⟩ (c_X4_commandLength l D y a0 a1 s.heap.size tn tf x3 ht) (cwV 1 hts gX4_firstError_X4_commandLength rfl rfl rfl hd_X4_commandLength ⟨Nat.le_of_ble_eq_true rfl, Nat.le_of_ble_eq_true rfl⟩) (gV (q := (RX4, TX4, 2)) hE hP hD 0 rfl rfl) rfl rfl hl.1 rfl (lv_room (Nat.le_of_ble_eq_true rfl)) dX4_firstError_38 ⟨Nat.le_of_ble_eq_true rfl, Nat.le_of_ble_eq_true rfl⟩) (fun v7 h6 => ?_)
            have hF := hF.trans (gLet_e h6)
            refine lv_iadd hx hb dX4_firstError_41 ?_
            refine lv_istore_n (lv' := [(2, .int (x3 + v7)), (1, .int v5), (0, .ref a0), (3, .int x3)]) hx hb dX4_firstError_42 rfl hl (by decide) rfl (fun ls hl => ?_)
            refine lv_iinc (v := (x3 + 1)) (lv' := [(3, .int (x3 + 1)), (2, .int (x3 + v7)), (1, .int v5), (0, .ref a0)]) hx hb dX4_firstError_43 hl (k := 3) rfl rfl (by decide) rfl (fun ls hl => ?_)
            refine lv_goto (tgt := 11) hx hb dX4_firstError_46 (by decide) ?_
            exact ih v5 (x3 + v7) (x3 + 1) (lp_up (by assumption) hμ) hF ls (lv_sub hl [3, 2, 1, 0] rfl)
  have hF := f_X4_firstError_s tn tf
  refine lv_aload_n hx hb dX4_firstError_0 rfl (lv_at hl 0 rfl) ?_
  refine xs_calli (va_runV (As := []) (rest := []) ⟨hx, hb, hml, hown, hts⟩ (c_X4_errorInHead l D y a0 a1 s.heap.size tn tf ht) (cwV 0 hts gX4_firstError_X4_errorInHead rfl rfl rfl hd_X4_errorInHead ⟨Nat.le_of_ble_eq_true rfl, Nat.le_of_ble_eq_true rfl⟩) (gV (q := (RX4, TX4, 2)) hE hP hD 0 rfl rfl) rfl rfl hl.1 rfl (lv_room (Nat.le_of_ble_eq_true rfl)) dX4_firstError_1 ⟨Nat.le_of_ble_eq_true rfl, Nat.le_of_ble_eq_true rfl⟩) (fun v9 h8 => ?_)
  have hF := hF.trans (gLet_e h8)
  refine lv_istore_n (lv' := [(1, .int v9), (0, .ref a0)]) hx hb dX4_firstError_4 rfl hl (by decide) rfl (fun ls hl => ?_)
  refine lv_bipush (v := 6) hx hb dX4_firstError_5 (by decide) ?_
  refine lv_istore_n (lv' := [(2, .int 6), (1, .int v9), (0, .ref a0)]) hx hb dX4_firstError_7 rfl hl (by decide) rfl (fun ls hl => ?_)
  refine lv_bipush (v := 6) hx hb dX4_firstError_8 (by decide) ?_
  refine lv_istore_n (lv' := [(3, .int 6), (2, .int 6), (1, .int v9), (0, .ref a0)]) hx hb dX4_firstError_10 rfl hl (by decide) rfl (fun ls hl => ?_)
  exact loop_11 _ v9 6 6 (Nat.lt_succ_self _) hF ls (lv_sub hl [3, 2, 1, 0] rfl)

def f_X4_tellTo_L49 (tn : Int32) (tf : Nat → Int32) : Nat → Int32 → Int32 → Int32 → gR → Int32 × gR
  | 0, _, _, _, r_ => (0, r_)
  | n + 1, x2, x3, x4, r_ =>
    if tn ≤ x4 then
    (x2, r_)
  else
    if x4 = x3 then
      gLet (f_X4_commandLength tn tf x4) (fun (v4 : Int32) =>
        gLet (f_X4_signAt tn tf x4) (fun (v6 : Int32) =>
          if v6 = 104 then
            gLet (f_X4_numberAt tn tf (x4 + 1) 2) (fun (v9 : Int32) =>
              gLet (f_X4_numberAt tn tf (x4 + 3) 2) (fun (v11 : Int32) =>
                gLet (f_X3_doHammer r_ v9 v11) (fun (q15 : Int32 × gR) =>
                  if q15.1 = 0 then
                    f_X4_tellTo_L49 tn tf n (x2 + 1) (x4 + v4) (x4 + 1) q15.2
                  else
                    f_X4_tellTo_L49 tn tf n (x2 + 0) (x4 + v4) (x4 + 1) q15.2)))
          else
            if v6 = 119 then
              gLet (f_X4_numberAt tn tf (x4 + 1) 2) (fun (v19 : Int32) =>
                gLet (f_X4_numberAt tn tf (x4 + 3) 3) (fun (v21 : Int32) =>
                  gLet (f_X3_doWrite r_ v19 v21) (fun (q25 : Int32 × gR) =>
                    if q25.1 = 0 then
                      f_X4_tellTo_L49 tn tf n (x2 + 1) (x4 + v4) (x4 + 1) q25.2
                    else
                      f_X4_tellTo_L49 tn tf n (x2 + 0) (x4 + v4) (x4 + 1) q25.2)))
            else
              gLet (f_X4_numberAt tn tf (x4 + 1) 1) (fun (v28 : Int32) =>
                gLet (f_X3_doAll r_ v28) (fun (q32 : Int32 × gR) =>
                  if q32.1 = 0 then
                    f_X4_tellTo_L49 tn tf n (x2 + 1) (x4 + v4) (x4 + 1) q32.2
                  else
                    f_X4_tellTo_L49 tn tf n (x2 + 0) (x4 + v4) (x4 + 1) q32.2))))
    else
      f_X4_tellTo_L49 tn tf n x2 x3 (x4 + 1) r_
theorem f_X4_tellTo_L49_s (tn : Int32) (tf : Nat → Int32) (n : Nat) (x2 : Int32) (x3 : Int32) (x4 : Int32) (r_ : gR) : f_X4_tellTo_L49 tn tf (n + 1) x2 x3 x4 r_ =
    (if tn ≤ x4 then
    (x2, r_)
  else
    if x4 = x3 then
      gLet (f_X4_commandLength tn tf x4) (fun (v4 : Int32) =>
        gLet (f_X4_signAt tn tf x4) (fun (v6 : Int32) =>
          if v6 = 104 then
            gLet (f_X4_numberAt tn tf (x4 + 1) 2) (fun (v9 : Int32) =>
              gLet (f_X4_numberAt tn tf (x4 + 3) 2) (fun (v11 : Int32) =>
                gLet (f_X3_doHammer r_ v9 v11) (fun (q15 : Int32 × gR) =>
                  if q15.1 = 0 then
                    f_X4_tellTo_L49 tn tf n (x2 + 1) (x4 + v4) (x4 + 1) q15.2
                  else
                    f_X4_tellTo_L49 tn tf n (x2 + 0) (x4 + v4) (x4 + 1) q15.2)))
          else
            if v6 = 119 then
              gLet (f_X4_numberAt tn tf (x4 + 1) 2) (fun (v19 : Int32) =>
                gLet (f_X4_numberAt tn tf (x4 + 3) 3) (fun (v21 : Int32) =>
                  gLet (f_X3_doWrite r_ v19 v21) (fun (q25 : Int32 × gR) =>
                    if q25.1 = 0 then
                      f_X4_tellTo_L49 tn tf n (x2 + 1) (x4 + v4) (x4 + 1) q25.2
                    else
                      f_X4_tellTo_L49 tn tf n (x2 + 0) (x4 + v4) (x4 + 1) q25.2)))
            else
              gLet (f_X4_numberAt tn tf (x4 + 1) 1) (fun (v28 : Int32) =>
                gLet (f_X3_doAll r_ v28) (fun (q32 : Int32 × gR) =>
                  if q32.1 = 0 then
                    f_X4_tellTo_L49 tn tf n (x2 + 1) (x4 + v4) (x4 + 1) q32.2
                  else
                    f_X4_tellTo_L49 tn tf n (x2 + 0) (x4 + v4) (x4 + 1) q32.2))))
    else
      f_X4_tellTo_L49 tn tf n x2 x3 (x4 + 1) r_) := rfl
def f_X4_tellTo (tn : Int32) (tf : Nat → Int32) (r : gR) : Int32 × gR :=
    gLet (f_X4_numberAt tn tf 1 2) (fun (v35 : Int32) =>
    gLet (f_X4_numberAt tn tf 3 2) (fun (v37 : Int32) =>
      gLet (f_X5_isShape v35 v37) (fun (v39 : Int32) =>
        if v39 = 0 then
          f_X4_tellTo_L49 tn tf ((tn.toInt - (6 : Int32).toInt).toNat + 1) 0 6 6 r
        else
          gLet (f_X4_numberAt tn tf 1 2) (fun (v42 : Int32) =>
            gLet (f_X4_numberAt tn tf 3 2) (fun (v44 : Int32) =>
              gLet (f_X4_numberAt tn tf 5 1) (fun (v46 : Int32) =>
                gLet (f_X3_begin r v42 v44 v46) (fun (u48 : gR) =>
                  f_X4_tellTo_L49 tn tf ((tn.toInt - (6 : Int32).toInt).toNat + 1) 0 6 6 u48)))))))
theorem f_X4_tellTo_s (tn : Int32) (tf : Nat → Int32) (r : gR) : f_X4_tellTo tn tf r =
    (gLet (f_X4_numberAt tn tf 1 2) (fun (v35 : Int32) =>
    gLet (f_X4_numberAt tn tf 3 2) (fun (v37 : Int32) =>
      gLet (f_X5_isShape v35 v37) (fun (v39 : Int32) =>
        if v39 = 0 then
          f_X4_tellTo_L49 tn tf ((tn.toInt - (6 : Int32).toInt).toNat + 1) 0 6 6 r
        else
          gLet (f_X4_numberAt tn tf 1 2) (fun (v42 : Int32) =>
            gLet (f_X4_numberAt tn tf 3 2) (fun (v44 : Int32) =>
              gLet (f_X4_numberAt tn tf 5 1) (fun (v46 : Int32) =>
                gLet (f_X3_begin r v42 v44 v46) (fun (u48 : gR) =>
                  f_X4_tellTo_L49 tn tf ((tn.toInt - (6 : Int32).toInt).toNat + 1) 0 6 6 u48)))))))) := rfl
theorem hd_X4_tellTo : yX4_tellTo.cls = RX4 ∧ yX4_tellTo.cls ≠ "java/lang/invoke/MethodHandle" ∧ yX4_tellTo.cls ≠ "java/lang/invoke/VarHandle" ∧ (parseMethodDescriptor yX4_tellTo.desc).map (fun d => d.parameters.length) = some 1 := by decide +kernel
set_option maxHeartbeats 4000000 in
set_option maxRecDepth 100000 in
theorem c_X4_tellTo (l : Launch) (D : va_G) (y : Nat → ClassId) (a0 a1 a2 a3 a4 : Nat) (zh : Nat) (tn : Int32) (tf : Nat → Int32) (r : gR) (ht : okT tn tf) (ho : okC r) : Met l yX4_tellTo wsX4_tellTo ({ frames := 5, cells := 0, slots := 0, locals := 112 }) (gP D y [.ref a0, .ref a2] zh [(a0, .inr (3, [.ref a1, .int tn])), (a1, .inl (y 1, 120, .inl tf)), (a2, soF a3 a4 r), (a3, soV y r), (a4, soW y r)]) (va_Qi (fun (v : Int32) (u : gR) => f_X4_tellTo tn tf r = (v, u)) (fun (u : gR) t => va_P D vwCl [(a0, .inr (3, [.ref a1, .int tn])), (a1, .inl (y 1, 120, .inl tf)), (a2, soF a3 a4 u), (a3, soV y u), (a4, soW y u)] t.heap ∧ va_D (va_A [(a0, .inr (3, [.ref a1, .int tn])), (a1, .inl (y 1, 120, .inl tf)), (a2, soF a3 a4 r), (a3, soV y r), (a4, soW y r)] zh) [(a0, .inr (3, [.ref a1, .int tn])), (a1, .inl (y 1, 120, .inl tf)), (a2, soF a3 a4 u), (a3, soV y u), (a4, soW y u)]) (va_A [(a0, .inr (3, [.ref a1, .int tn])), (a1, .inl (y 1, 120, .inl tf)), (a2, soF a3 a4 r), (a3, soV y r), (a4, soW y r)] zh)) 0 0 (va_A [(a0, .inr (3, [.ref a1, .int tn])), (a1, .inl (y 1, 120, .inl tf)), (a2, soF a3 a4 r), (a3, soV y r), (a4, soW y r)] zh) := by
  refine Met.ofW (cc := cX4_tellTo) (maxL := 6) (ret := (some .int)) (by decide) rfl ?_
  intro p e s m args below meth c s₁ B hml hv
  obtain ⟨rfl, hsz, hP, hE, hD⟩ := hv
  have hx := B.exec
  have hb := B.bytes
  have hr := B.returns
  have hts := atoms_spec (ws := wsX4_tellTo) B.pre
  have hown : s.vm.findClass RX4 = some m.cls := findClass_of_methodNamed B.named
  have hlocks := B.notSynchronized
  have w_0 := hts (.fieldLink RX4 15 "GapLines$Text" "length" "I") (List.mem_cons_of_mem _ (List.mem_append_left _ (List.mem_append_left _ (List.mem_append_left _ (List.mem_of_getElem? (i := 0) rfl)))))
  have hi4 : ∀ w ∈ u_ws RX4 TX4 2, w ∈ wsX4_tellTo := fun w h => (List.mem_cons_of_mem _ (List.mem_append_left _ (List.mem_append_right _ h)))
  have w_2 := hts (.initialized RX5) (List.mem_cons_of_mem _ (List.mem_append_left _ (List.mem_append_left _ (List.mem_append_left _ (List.mem_of_getElem? (i := 12) rfl)))))
  have w_3 := hts (.static yX5_isShape) (List.mem_cons_of_mem _ (List.mem_append_left _ (List.mem_append_left _ (List.mem_append_left _ (List.mem_of_getElem? (i := 11) rfl)))))
  subst hsz
  have hD := hD.self (sz := s.heap.size)
  generalize hAe : va_A [(a0, .inr (3, [.ref a1, .int tn])), (a1, .inl (y 1, 120, .inl tf)), (a2, soF a3 a4 r), (a3, soV y r), (a4, soW y r)] s.heap.size = A at hD ⊢
  have hA : ∀ q : Nat, s.heap.size ≤ q → A q := fun q h => by rw [← hAe]; exact Or.inr h
  have hS : va_S A s.heap s.heap [] := va_S.rf
  have hl := lv_entry ([.ref a0, .ref a2]) (n := 6) (Nat.le_of_ble_eq_true rfl)
  rw [lg_entry_eq]
  generalize (lg_sl ([.ref a0, .ref a2]) ++ List.replicate (6 - (lg_sl ([.ref a0, .ref a2])).length) Slot.unset).toArray = ls at hl ⊢
  have hl : lv_has ls 6 [(0, .ref a0), (1, .ref a2)] := hl
  have loop_49 : ∀ (n : Nat) (x2 : Int32) (x3 : Int32) (x4 : Int32) (r_ : gR) (ho_ : okC r_), (tn.toInt - x4.toInt).toNat < n → f_X4_tellTo tn tf r = f_X4_tellTo_L49 tn tf n x2 x3 x4 r_ → ∀ (H : Heap) (locs : List Loc), va_P D vwCl [(a0, .inr (3, [.ref a1, .int tn])), (a1, .inl (y 1, 120, .inl tf)), (a2, soF a3 a4 r_), (a3, soV y r_), (a4, soW y r_)] H → va_D A [(a0, .inr (3, [.ref a1, .int tn])), (a1, .inl (y 1, 120, .inl tf)), (a2, soF a3 a4 r_), (a3, soV y r_), (a4, soW y r_)] → va_S A s.heap H locs → ∀ (ls : Array Slot), lv_has ls 6 [(0, .ref a0), (1, .ref a2), (2, .int x2), (3, .int x3), (4, .int x4)] → W p l e (headSpec wsX4_tellTo ({ frames := 5, cells := 0, slots := 0, locals := 112 })).room s m ([.ref a0, .ref a2] : List Value).toArray below meth c H locs 0 0 (MQ below (va_Qi (fun (v : Int32) (u : gR) => f_X4_tellTo tn tf r = (v, u)) (fun (u : gR) t => va_P D vwCl [(a0, .inr (3, [.ref a1, .int tn])), (a1, .inl (y 1, 120, .inl tf)), (a2, soF a3 a4 u), (a3, soV y u), (a4, soW y u)] t.heap ∧ va_D (A) [(a0, .inr (3, [.ref a1, .int tn])), (a1, .inl (y 1, 120, .inl tf)), (a2, soF a3 a4 u), (a3, soV y u), (a4, soW y u)]) A) ([.ref a0, .ref a2] : List Value).toArray s 0 0 A) (F0 m 49 ls []) := by
    intro n
    induction n with
    | zero =>
      intro x2 x3 x4 r_ ho_ hμ
      exact absurd hμ (Nat.not_lt_zero _)
    | succ n ih =>
      intro x2 x3 x4 r_ ho_ hμ hF H locs hP hD hS ls hl
      have hF := hF.trans (f_X4_tellTo_L49_s tn tf n x2 x3 x4 r_)
      refine lv_iload hx hb dX4_tellTo_49 (lv_at hl 4 rfl) ?_
      refine lv_aload_n hx hb dX4_tellTo_51 rfl (lv_at hl 0 rfl) ?_
      refine va_get (D := D) (ci := 3) (v := .int tn) (C := RX4) (T := TX4) (N := 2) hx hb hts hi4 hown hE.1 hP 0 rfl rfl 1 (by decide) w_0 (fun _ h9 => h9) rfl dX4_tellTo_52 ?_
      refine lv_icmp_ge (tgt := 196) hx hb dX4_tellTo_55 (by decide) (fun c_1 => ?_) (fun c_1 => ?_)
      · have hF := hF.trans (if_pos c_1)
        refine lv_iload_n hx hb dX4_tellTo_196 rfl (lv_at hl 2 rfl) ?_
        exact W.iret (v := x2) hx hb hr (fun t ht hW => ⟨⟨x2, r_, rfl, hF, ⟨by rw [ht]; exact hP, hD⟩⟩, hS.F ht⟩) hS.2.2 dX4_tellTo_197
      · have hF := hF.trans (if_neg c_1)
        refine lv_iload hx hb dX4_tellTo_58 (lv_at hl 4 rfl) ?_
        refine lv_iload_n hx hb dX4_tellTo_60 rfl (lv_at hl 3 rfl) ?_
        refine lv_icmp_ne (tgt := 190) hx hb dX4_tellTo_61 (by decide) (fun c_2 => ?_) (fun c_2 => ?_)
        · have hF := hF.trans (if_neg c_2)
          refine lv_iinc (v := (x4 + 1)) (lv' := [(4, .int (x4 + 1)), (0, .ref a0), (1, .ref a2), (2, .int x2), (3, .int x3)]) hx hb dX4_tellTo_190 hl (k := 4) rfl rfl (by decide) rfl (fun ls hl => ?_)
          refine lv_goto (tgt := 49) hx hb dX4_tellTo_193 (by decide) ?_
          exact ih x2 x3 (x4 + 1) r_ (ho_) (lp_up (by assumption) hμ) hF _ _ hP hD hS ls (lv_sub hl [1, 2, 3, 4, 0] rfl)
        · have hF := hF.trans (if_pos c_2)
          refine lv_iload hx hb dX4_tellTo_64 (lv_at hl 4 rfl) ?_
          refine lv_aload_n hx hb dX4_tellTo_66 rfl (lv_at hl 0 rfl) ?_
          refine lv_iload hx hb dX4_tellTo_67 (lv_at hl 4 rfl) ?_
          refine xs_calli (va_runV (As := [.int x4]) (rest := [.int x4]) ⟨hx, hb, hml, hown, hts⟩ (c_X4_commandLength l D y a0 a1 H.size tn tf x4 ht) (cwV 1 hts gX4_tellTo_X4_commandLength rfl rfl rfl hd_X4_commandLength ⟨Nat.le_of_ble_eq_true rfl, Nat.le_of_ble_eq_true rfl⟩) (gV (q := (RX4, TX4, 2)) hE (hP.sub [0, 1] rfl) (hD.sub [0, 1] (by decide) rfl) 0 rfl rfl) rfl rfl hl.1 rfl (lv_room (Nat.le_of_ble_eq_true rfl)) dX4_tellTo_69 ⟨Nat.le_of_ble_eq_true rfl, Nat.le_of_ble_eq_true rfl⟩) (fun v4 h3 => ?_)
          have hF := hF.trans (gLet_e h3)
          refine lv_iadd hx hb dX4_tellTo_72 ?_
          refine lv_istore_n (lv' := [(3, .int (x4 + v4)), (0, .ref a0), (1, .ref a2), (2, .int x2), (4, .int x4)]) hx hb dX4_tellTo_73 rfl hl (by decide) rfl (fun ls hl => ?_)
          refine lv_aload_n hx hb dX4_tellTo_74 rfl (lv_at hl 1 rfl) ?_
          refine lv_iload hx hb dX4_tellTo_75 (lv_at hl 4 rfl) ?_
          refine xs_calli (va_runV (As := [.int x4]) (rest := []) ⟨hx, hb, hml, hown, hts⟩ (c_X4_signAt l D y a0 a1 H.size tn tf x4 ht) (cwV 1 hts gX4_tellTo_X4_signAt rfl rfl rfl hd_X4_signAt ⟨Nat.le_of_ble_eq_true rfl, Nat.le_of_ble_eq_true rfl⟩) (gV (q := (RX4, TX4, 2)) hE (hP.sub [0, 1] rfl) (hD.sub [0, 1] (by decide) rfl) 0 rfl rfl) rfl rfl hl.1 rfl (lv_room (Nat.le_of_ble_eq_true rfl)) dX4_tellTo_77 ⟨Nat.le_of_ble_eq_true rfl, Nat.le_of_ble_eq_true rfl⟩) (fun v6 h5 => ?_)
          have hF := hF.trans (gLet_e h5)
          by_cases c_7 : v6 = 104
          · have hF := hF.trans (if_pos c_7)
            refine lv_lookup (off := 55) (tgt := 135) hx hb dX4_tellTo_80 (by decide) (by rw [c_7]; decide) (by decide) ?_
            refine lv_aload_n hx hb dX4_tellTo_135 rfl (lv_at hl 2 rfl) ?_
            refine lv_aload_n hx hb dX4_tellTo_136 rfl (lv_at hl 1 rfl) ?_
            refine lv_iload hx hb dX4_tellTo_137 (lv_at hl 4 rfl) ?_
            refine lv_iconst (v := 1) hx hb dX4_tellTo_139 (by decide) ?_
            refine lv_iadd hx hb dX4_tellTo_140 ?_
            refine lv_iconst (v := 2) hx hb dX4_tellTo_141 (by decide) ?_
            refine xs_calli (va_runV (As := [.int (x4 + 1), .int 2]) (rest := [.ref a2]) ⟨hx, hb, hml, hown, hts⟩ (c_X4_numberAt l D y a0 a1 H.size tn tf (x4 + 1) 2 ht) (cwV 2 hts gX4_tellTo_X4_numberAt rfl rfl rfl hd_X4_numberAt ⟨Nat.le_of_ble_eq_true rfl, Nat.le_of_ble_eq_true rfl⟩) (gV (q := (RX4, TX4, 2)) hE (hP.sub [0, 1] rfl) (hD.sub [0, 1] (by decide) rfl) 0 rfl rfl) rfl rfl hl.1 rfl (lv_room (Nat.le_of_ble_eq_true rfl)) dX4_tellTo_142 ⟨Nat.le_of_ble_eq_true rfl, Nat.le_of_ble_eq_true rfl⟩) (fun v9 h8 => ?_)
            have hF := hF.trans (gLet_e h8)
            refine lv_aload_n hx hb dX4_tellTo_145 rfl (lv_at hl 1 rfl) ?_
            refine lv_iload hx hb dX4_tellTo_146 (lv_at hl 4 rfl) ?_
            refine lv_iconst (v := 3) hx hb dX4_tellTo_148 (by decide) ?_
            refine lv_iadd hx hb dX4_tellTo_149 ?_
            refine lv_iconst (v := 2) hx hb dX4_tellTo_150 (by decide) ?_
            refine xs_calli (va_runV (As := [.int (x4 + 3), .int 2]) (rest := [.int v9, .ref a2]) ⟨hx, hb, hml, hown, hts⟩ (c_X4_numberAt l D y a0 a1 H.size tn tf (x4 + 3) 2 ht) (cwV 2 hts gX4_tellTo_X4_numberAt rfl rfl rfl hd_X4_numberAt ⟨Nat.le_of_ble_eq_true rfl, Nat.le_of_ble_eq_true rfl⟩) (gV (q := (RX4, TX4, 2)) hE (hP.sub [0, 1] rfl) (hD.sub [0, 1] (by decide) rfl) 0 rfl rfl) rfl rfl hl.1 rfl (lv_room (Nat.le_of_ble_eq_true rfl)) dX4_tellTo_151 ⟨Nat.le_of_ble_eq_true rfl, Nat.le_of_ble_eq_true rfl⟩) (fun v11 h10 => ?_)
            have hF := hF.trans (gLet_e h10)
            refine xw_calli (va_runV (As := [.int v9, .int v11]) (rest := []) ⟨hx, hb, hml, hown, hts⟩ (c_X3_doHammer l D y a2 a3 a4 H.size r_ v9 v11 ho_) (cwV 2 hts gX4_tellTo_X3_doHammer rfl rfl rfl hd_X3_doHammer ⟨Nat.le_of_ble_eq_true rfl, Nat.le_of_ble_eq_true rfl⟩) (gV (q := (RX3, TX3, 15)) hE (hP.sub [2, 3, 4] rfl) (hD.sub [2, 3, 4] (by decide) rfl) 0 rfl rfl) rfl rfl hl.1 rfl (lv_room (Nat.le_of_ble_eq_true rfl)) dX4_tellTo_154 ⟨Nat.le_of_ble_eq_true rfl, Nat.le_of_ble_eq_true rfl⟩) hP hD hS hA [2, 3, 4] rfl (by decide) (fun _ => rfl) (fun v14 u13 H locs h12 hP hD hS => ?_)
            obtain ⟨q15, eq15⟩ : ∃ z : Int32 × gR, f_X3_doHammer r_ v9 v11 = z := ⟨_, rfl⟩
            obtain ⟨rfl, rfl⟩ : q15.1 = v14 ∧ q15.2 = u13 := ⟨by rw [← eq15, h12], by rw [← eq15, h12]⟩
            have hF := hF.trans (gLet_e eq15)
            have hP : va_P D vwCl [(a0, .inr (3, [.ref a1, .int tn])), (a1, .inl (y 1, 120, .inl tf)), (a2, soF a3 a4 q15.2), (a3, soV y q15.2), (a4, soW y q15.2)] H := hP
            have hD : va_D A [(a0, .inr (3, [.ref a1, .int tn])), (a1, .inl (y 1, 120, .inl tf)), (a2, soF a3 a4 q15.2), (a3, soV y q15.2), (a4, soW y q15.2)] := hD
            refine lv_istore (lv' := [(5, .int q15.1), (3, .int (x4 + v4)), (0, .ref a0), (1, .ref a2), (2, .int x2), (4, .int x4)]) hx hb dX4_tellTo_157 hl (by decide) rfl (fun ls hl => ?_)
            refine lv_goto (tgt := 177) hx hb dX4_tellTo_159 (by decide) ?_
            refine lv_iload_n hx hb dX4_tellTo_177 rfl (lv_at hl 4 rfl) ?_
            refine lv_iload hx hb dX4_tellTo_178 (lv_at hl 0 rfl) ?_
            refine lv_if_eq (tgt := 187) hx hb dX4_tellTo_180 (by decide) (fun c_16 => ?_) (fun c_16 => ?_)
            · have hF := hF.trans (if_pos c_16)
              refine lv_iconst (v := 1) hx hb dX4_tellTo_187 (by decide) ?_
              refine lv_iadd hx hb dX4_tellTo_188 ?_
              refine lv_istore_n (lv' := [(2, .int (x2 + 1)), (5, .int q15.1), (3, .int (x4 + v4)), (0, .ref a0), (1, .ref a2), (4, .int x4)]) hx hb dX4_tellTo_189 rfl hl (by decide) rfl (fun ls hl => ?_)
              refine lv_iinc (v := (x4 + 1)) (lv' := [(4, .int (x4 + 1)), (2, .int (x2 + 1)), (5, .int q15.1), (3, .int (x4 + v4)), (0, .ref a0), (1, .ref a2)]) hx hb dX4_tellTo_190 hl (k := 5) rfl rfl (by decide) rfl (fun ls hl => ?_)
              refine lv_goto (tgt := 49) hx hb dX4_tellTo_193 (by decide) ?_
              exact ih (x2 + 1) (x4 + v4) (x4 + 1) q15.2 ((by rw [← eq15]; exact ok_X3_doHammer _ _ _ ho_)) (lp_up (by assumption) hμ) hF _ _ hP hD hS ls (lv_sub hl [4, 5, 1, 3, 0] rfl)
            · have hF := hF.trans (if_neg c_16)
              refine lv_iconst (v := 0) hx hb dX4_tellTo_183 (by decide) ?_
              refine lv_goto (tgt := 188) hx hb dX4_tellTo_184 (by decide) ?_
              refine lv_iadd hx hb dX4_tellTo_188 ?_
              refine lv_istore_n (lv' := [(2, .int (x2 + 0)), (5, .int q15.1), (3, .int (x4 + v4)), (0, .ref a0), (1, .ref a2), (4, .int x4)]) hx hb dX4_tellTo_189 rfl hl (by decide) rfl (fun ls hl => ?_)
              refine lv_iinc (v := (x4 + 1)) (lv' := [(4, .int (x4 + 1)), (2, .int (x2 + 0)), (5, .int q15.1), (3, .int (x4 + v4)), (0, .ref a0), (1, .ref a2)]) hx hb dX4_tellTo_190 hl (k := 5) rfl rfl (by decide) rfl (fun ls hl => ?_)
              refine lv_goto (tgt := 49) hx hb dX4_tellTo_193 (by decide) ?_
              exact ih (x2 + 0) (x4 + v4) (x4 + 1) q15.2 ((by rw [← eq15]; exact ok_X3_doHammer _ _ _ ho_)) (lp_up (by assumption) hμ) hF _ _ hP hD hS ls (lv_sub hl [4, 5, 1, 3, 0] rfl)
          · have hF := hF.trans (if_neg c_7)
            by_cases c_17 : v6 = 119
            · have hF := hF.trans (if_pos c_17)
              refine lv_lookup (off := 28) (tgt := 108) hx hb dX4_tellTo_80 (by decide) (by rw [c_17]; decide) (by decide) ?_
              refine lv_aload_n hx hb dX4_tellTo_108 rfl (lv_at hl 2 rfl) ?_
              refine lv_aload_n hx hb dX4_tellTo_109 rfl (lv_at hl 1 rfl) ?_
              refine lv_iload hx hb dX4_tellTo_110 (lv_at hl 4 rfl) ?_
              refine lv_iconst (v := 1) hx hb dX4_tellTo_112 (by decide) ?_
              refine lv_iadd hx hb dX4_tellTo_113 ?_
              refine lv_iconst (v := 2) hx hb dX4_tellTo_114 (by decide) ?_
              refine xs_calli (va_runV (As := [.int (x4 + 1), .int 2]) (rest := [.ref a2]) ⟨hx, hb, hml, hown, hts⟩ (c_X4_numberAt l D y a0 a1 H.size tn tf (x4 + 1) 2 ht) (cwV 2 hts gX4_tellTo_X4_numberAt rfl rfl rfl hd_X4_numberAt ⟨Nat.le_of_ble_eq_true rfl, Nat.le_of_ble_eq_true rfl⟩) (gV (q := (RX4, TX4, 2)) hE (hP.sub [0, 1] rfl) (hD.sub [0, 1] (by decide) rfl) 0 rfl rfl) rfl rfl hl.1 rfl (lv_room (Nat.le_of_ble_eq_true rfl)) dX4_tellTo_115 ⟨Nat.le_of_ble_eq_true rfl, Nat.le_of_ble_eq_true rfl⟩) (fun v19 h18 => ?_)
              have hF := hF.trans (gLet_e h18)
              refine lv_aload_n hx hb dX4_tellTo_118 rfl (lv_at hl 1 rfl) ?_
              refine lv_iload hx hb dX4_tellTo_119 (lv_at hl 4 rfl) ?_
              refine lv_iconst (v := 3) hx hb dX4_tellTo_121 (by decide) ?_
              refine lv_iadd hx hb dX4_tellTo_122 ?_
              refine lv_iconst (v := 3) hx hb dX4_tellTo_123 (by decide) ?_
              refine xs_calli (va_runV (As := [.int (x4 + 3), .int 3]) (rest := [.int v19, .ref a2]) ⟨hx, hb, hml, hown, hts⟩ (c_X4_numberAt l D y a0 a1 H.size tn tf (x4 + 3) 3 ht) (cwV 2 hts gX4_tellTo_X4_numberAt rfl rfl rfl hd_X4_numberAt ⟨Nat.le_of_ble_eq_true rfl, Nat.le_of_ble_eq_true rfl⟩) (gV (q := (RX4, TX4, 2)) hE (hP.sub [0, 1] rfl) (hD.sub [0, 1] (by decide) rfl) 0 rfl rfl) rfl rfl hl.1 rfl (lv_room (Nat.le_of_ble_eq_true rfl)) dX4_tellTo_124 ⟨Nat.le_of_ble_eq_true rfl, Nat.le_of_ble_eq_true rfl⟩) (fun v21 h20 => ?_)
              have hF := hF.trans (gLet_e h20)
              refine xw_calli (va_runV (As := [.int v19, .int v21]) (rest := []) ⟨hx, hb, hml, hown, hts⟩ (c_X3_doWrite l D y a2 a3 a4 H.size r_ v19 v21 ho_) (cwV 2 hts gX4_tellTo_X3_doWrite rfl rfl rfl hd_X3_doWrite ⟨Nat.le_of_ble_eq_true rfl, Nat.le_of_ble_eq_true rfl⟩) (gV (q := (RX3, TX3, 15)) hE (hP.sub [2, 3, 4] rfl) (hD.sub [2, 3, 4] (by decide) rfl) 0 rfl rfl) rfl rfl hl.1 rfl (lv_room (Nat.le_of_ble_eq_true rfl)) dX4_tellTo_127 ⟨Nat.le_of_ble_eq_true rfl, Nat.le_of_ble_eq_true rfl⟩) hP hD hS hA [2, 3, 4] rfl (by decide) (fun _ => rfl) (fun v24 u23 H locs h22 hP hD hS => ?_)
              obtain ⟨q25, eq25⟩ : ∃ z : Int32 × gR, f_X3_doWrite r_ v19 v21 = z := ⟨_, rfl⟩
              obtain ⟨rfl, rfl⟩ : q25.1 = v24 ∧ q25.2 = u23 := ⟨by rw [← eq25, h22], by rw [← eq25, h22]⟩
              have hF := hF.trans (gLet_e eq25)
              have hP : va_P D vwCl [(a0, .inr (3, [.ref a1, .int tn])), (a1, .inl (y 1, 120, .inl tf)), (a2, soF a3 a4 q25.2), (a3, soV y q25.2), (a4, soW y q25.2)] H := hP
              have hD : va_D A [(a0, .inr (3, [.ref a1, .int tn])), (a1, .inl (y 1, 120, .inl tf)), (a2, soF a3 a4 q25.2), (a3, soV y q25.2), (a4, soW y q25.2)] := hD
              refine lv_istore (lv' := [(5, .int q25.1), (3, .int (x4 + v4)), (0, .ref a0), (1, .ref a2), (2, .int x2), (4, .int x4)]) hx hb dX4_tellTo_130 hl (by decide) rfl (fun ls hl => ?_)
              refine lv_goto (tgt := 177) hx hb dX4_tellTo_132 (by decide) ?_
              refine lv_iload_n hx hb dX4_tellTo_177 rfl (lv_at hl 4 rfl) ?_
              refine lv_iload hx hb dX4_tellTo_178 (lv_at hl 0 rfl) ?_
              refine lv_if_eq (tgt := 187) hx hb dX4_tellTo_180 (by decide) (fun c_26 => ?_) (fun c_26 => ?_)
              · have hF := hF.trans (if_pos c_26)
                refine lv_iconst (v := 1) hx hb dX4_tellTo_187 (by decide) ?_
                refine lv_iadd hx hb dX4_tellTo_188 ?_
                refine lv_istore_n (lv' := [(2, .int (x2 + 1)), (5, .int q25.1), (3, .int (x4 + v4)), (0, .ref a0), (1, .ref a2), (4, .int x4)]) hx hb dX4_tellTo_189 rfl hl (by decide) rfl (fun ls hl => ?_)
                refine lv_iinc (v := (x4 + 1)) (lv' := [(4, .int (x4 + 1)), (2, .int (x2 + 1)), (5, .int q25.1), (3, .int (x4 + v4)), (0, .ref a0), (1, .ref a2)]) hx hb dX4_tellTo_190 hl (k := 5) rfl rfl (by decide) rfl (fun ls hl => ?_)
                refine lv_goto (tgt := 49) hx hb dX4_tellTo_193 (by decide) ?_
                exact ih (x2 + 1) (x4 + v4) (x4 + 1) q25.2 ((by rw [← eq25]; exact ok_X3_doWrite _ _ _ ho_)) (lp_up (by assumption) hμ) hF _ _ hP hD hS ls (lv_sub hl [4, 5, 1, 3, 0] rfl)
              · have hF := hF.trans (if_neg c_26)
                refine lv_iconst (v := 0) hx hb dX4_tellTo_183 (by decide) ?_
                refine lv_goto (tgt := 188) hx hb dX4_tellTo_184 (by decide) ?_
                refine lv_iadd hx hb dX4_tellTo_188 ?_
                refine lv_istore_n (lv' := [(2, .int (x2 + 0)), (5, .int q25.1), (3, .int (x4 + v4)), (0, .ref a0), (1, .ref a2), (4, .int x4)]) hx hb dX4_tellTo_189 rfl hl (by decide) rfl (fun ls hl => ?_)
                refine lv_iinc (v := (x4 + 1)) (lv' := [(4, .int (x4 + 1)), (2, .int (x2 + 0)), (5, .int q25.1), (3, .int (x4 + v4)), (0, .ref a0), (1, .ref a2)]) hx hb dX4_tellTo_190 hl (k := 5) rfl rfl (by decide) rfl (fun ls hl => ?_)
                refine lv_goto (tgt := 49) hx hb dX4_tellTo_193 (by decide) ?_
                exact ih (x2 + 0) (x4 + v4) (x4 + 1) q25.2 ((by rw [← eq25]; exact ok_X3_doWrite _ _ _ ho_)) (lp_up (by assumption) hμ) hF _ _ hP hD hS ls (lv_sub hl [4, 5, 1, 3, 0] rfl)
            · have hF := hF.trans (if_neg c_17)
              refine lv_lookup (off := 82) (tgt := 162) hx hb dX4_tellTo_80 (by decide) (by have q0 := sw_ne c_7 (n := 104) (by decide); have q1 := sw_ne c_17 (n := 119) (by decide); simp [Op.lookupswitch.offset, Ne.symm q0, Ne.symm q1]) (by decide) ?_
              refine lv_aload_n hx hb dX4_tellTo_162 rfl (lv_at hl 2 rfl) ?_
              refine lv_aload_n hx hb dX4_tellTo_163 rfl (lv_at hl 1 rfl) ?_
              refine lv_iload hx hb dX4_tellTo_164 (lv_at hl 4 rfl) ?_
              refine lv_iconst (v := 1) hx hb dX4_tellTo_166 (by decide) ?_
              refine lv_iadd hx hb dX4_tellTo_167 ?_
              refine lv_iconst (v := 1) hx hb dX4_tellTo_168 (by decide) ?_
              refine xs_calli (va_runV (As := [.int (x4 + 1), .int 1]) (rest := [.ref a2]) ⟨hx, hb, hml, hown, hts⟩ (c_X4_numberAt l D y a0 a1 H.size tn tf (x4 + 1) 1 ht) (cwV 2 hts gX4_tellTo_X4_numberAt rfl rfl rfl hd_X4_numberAt ⟨Nat.le_of_ble_eq_true rfl, Nat.le_of_ble_eq_true rfl⟩) (gV (q := (RX4, TX4, 2)) hE (hP.sub [0, 1] rfl) (hD.sub [0, 1] (by decide) rfl) 0 rfl rfl) rfl rfl hl.1 rfl (lv_room (Nat.le_of_ble_eq_true rfl)) dX4_tellTo_169 ⟨Nat.le_of_ble_eq_true rfl, Nat.le_of_ble_eq_true rfl⟩) (fun v28 h27 => ?_)
              have hF := hF.trans (gLet_e h27)
              refine xw_calli (va_runV (As := [.int v28]) (rest := []) ⟨hx, hb, hml, hown, hts⟩ (c_X3_doAll l D y a2 a3 a4 H.size r_ v28 ho_) (cwV 1 hts gX4_tellTo_X3_doAll rfl rfl rfl hd_X3_doAll ⟨Nat.le_of_ble_eq_true rfl, Nat.le_of_ble_eq_true rfl⟩) (gV (q := (RX3, TX3, 15)) hE (hP.sub [2, 3, 4] rfl) (hD.sub [2, 3, 4] (by decide) rfl) 0 rfl rfl) rfl rfl hl.1 rfl (lv_room (Nat.le_of_ble_eq_true rfl)) dX4_tellTo_172 ⟨Nat.le_of_ble_eq_true rfl, Nat.le_of_ble_eq_true rfl⟩) hP hD hS hA [2, 3, 4] rfl (by decide) (fun _ => rfl) (fun v31 u30 H locs h29 hP hD hS => ?_)
              obtain ⟨q32, eq32⟩ : ∃ z : Int32 × gR, f_X3_doAll r_ v28 = z := ⟨_, rfl⟩
              obtain ⟨rfl, rfl⟩ : q32.1 = v31 ∧ q32.2 = u30 := ⟨by rw [← eq32, h29], by rw [← eq32, h29]⟩
              have hF := hF.trans (gLet_e eq32)
              have hP : va_P D vwCl [(a0, .inr (3, [.ref a1, .int tn])), (a1, .inl (y 1, 120, .inl tf)), (a2, soF a3 a4 q32.2), (a3, soV y q32.2), (a4, soW y q32.2)] H := hP
              have hD : va_D A [(a0, .inr (3, [.ref a1, .int tn])), (a1, .inl (y 1, 120, .inl tf)), (a2, soF a3 a4 q32.2), (a3, soV y q32.2), (a4, soW y q32.2)] := hD
              refine lv_istore (lv' := [(5, .int q32.1), (3, .int (x4 + v4)), (0, .ref a0), (1, .ref a2), (2, .int x2), (4, .int x4)]) hx hb dX4_tellTo_175 hl (by decide) rfl (fun ls hl => ?_)
              refine lv_iload_n hx hb dX4_tellTo_177 rfl (lv_at hl 4 rfl) ?_
              refine lv_iload hx hb dX4_tellTo_178 (lv_at hl 0 rfl) ?_
              refine lv_if_eq (tgt := 187) hx hb dX4_tellTo_180 (by decide) (fun c_33 => ?_) (fun c_33 => ?_)
              · have hF := hF.trans (if_pos c_33)
                refine lv_iconst (v := 1) hx hb dX4_tellTo_187 (by decide) ?_
                refine lv_iadd hx hb dX4_tellTo_188 ?_
                refine lv_istore_n (lv' := [(2, .int (x2 + 1)), (5, .int q32.1), (3, .int (x4 + v4)), (0, .ref a0), (1, .ref a2), (4, .int x4)]) hx hb dX4_tellTo_189 rfl hl (by decide) rfl (fun ls hl => ?_)
                refine lv_iinc (v := (x4 + 1)) (lv' := [(4, .int (x4 + 1)), (2, .int (x2 + 1)), (5, .int q32.1), (3, .int (x4 + v4)), (0, .ref a0), (1, .ref a2)]) hx hb dX4_tellTo_190 hl (k := 5) rfl rfl (by decide) rfl (fun ls hl => ?_)
                refine lv_goto (tgt := 49) hx hb dX4_tellTo_193 (by decide) ?_
                exact ih (x2 + 1) (x4 + v4) (x4 + 1) q32.2 ((by rw [← eq32]; exact ok_X3_doAll _ _ ho_)) (lp_up (by assumption) hμ) hF _ _ hP hD hS ls (lv_sub hl [4, 5, 1, 3, 0] rfl)
              · have hF := hF.trans (if_neg c_33)
                refine lv_iconst (v := 0) hx hb dX4_tellTo_183 (by decide) ?_
                refine lv_goto (tgt := 188) hx hb dX4_tellTo_184 (by decide) ?_
                refine lv_iadd hx hb dX4_tellTo_188 ?_
                refine lv_istore_n (lv' := [(2, .int (x2 + 0)), (5, .int q32.1), (3, .int (x4 + v4)), (0, .ref a0), (1, .ref a2), (4, .int x4)]) hx hb dX4_tellTo_189 rfl hl (by decide) rfl (fun ls hl => ?_)
                refine lv_iinc (v := (x4 + 1)) (lv' := [(4, .int (x4 + 1)), (2, .int (x2 + 0)), (5, .int q32.1), (3, .int (x4 + v4)), (0, .ref a0), (1, .ref a2)]) hx hb dX4_tellTo_190 hl (k := 5) rfl rfl (by decide) rfl (fun ls hl => ?_)
                refine lv_goto (tgt := 49) hx hb dX4_tellTo_193 (by decide) ?_
                exact ih (x2 + 0) (x4 + v4) (x4 + 1) q32.2 ((by rw [← eq32]; exact ok_X3_doAll _ _ ho_)) (lp_up (by assumption) hμ) hF _ _ hP hD hS ls (lv_sub hl [4, 5, 1, 3, 0] rfl)
  have hF := f_X4_tellTo_s tn tf r
  refine lv_aload_n hx hb dX4_tellTo_0 rfl (lv_at hl 0 rfl) ?_
  refine lv_iconst (v := 1) hx hb dX4_tellTo_1 (by decide) ?_
  refine lv_iconst (v := 2) hx hb dX4_tellTo_2 (by decide) ?_
  refine xs_calli (va_runV (As := [.int 1, .int 2]) (rest := []) ⟨hx, hb, hml, hown, hts⟩ (c_X4_numberAt l D y a0 a1 s.heap.size tn tf 1 2 ht) (cwV 2 hts gX4_tellTo_X4_numberAt rfl rfl rfl hd_X4_numberAt ⟨Nat.le_of_ble_eq_true rfl, Nat.le_of_ble_eq_true rfl⟩) (gV (q := (RX4, TX4, 2)) hE (hP.sub [0, 1] rfl) (hD.sub [0, 1] (by decide) rfl) 0 rfl rfl) rfl rfl hl.1 rfl (lv_room (Nat.le_of_ble_eq_true rfl)) dX4_tellTo_3 ⟨Nat.le_of_ble_eq_true rfl, Nat.le_of_ble_eq_true rfl⟩) (fun v35 h34 => ?_)
  have hF := hF.trans (gLet_e h34)
  refine lv_aload_n hx hb dX4_tellTo_6 rfl (lv_at hl 0 rfl) ?_
  refine lv_iconst (v := 3) hx hb dX4_tellTo_7 (by decide) ?_
  refine lv_iconst (v := 2) hx hb dX4_tellTo_8 (by decide) ?_
  refine xs_calli (va_runV (As := [.int 3, .int 2]) (rest := [.int v35]) ⟨hx, hb, hml, hown, hts⟩ (c_X4_numberAt l D y a0 a1 s.heap.size tn tf 3 2 ht) (cwV 2 hts gX4_tellTo_X4_numberAt rfl rfl rfl hd_X4_numberAt ⟨Nat.le_of_ble_eq_true rfl, Nat.le_of_ble_eq_true rfl⟩) (gV (q := (RX4, TX4, 2)) hE (hP.sub [0, 1] rfl) (hD.sub [0, 1] (by decide) rfl) 0 rfl rfl) rfl rfl hl.1 rfl (lv_room (Nat.le_of_ble_eq_true rfl)) dX4_tellTo_9 ⟨Nat.le_of_ble_eq_true rfl, Nat.le_of_ble_eq_true rfl⟩) (fun v37 h36 => ?_)
  have hF := hF.trans (gLet_e h36)
  refine xs_calli (va_runSN (As := [.int v35, .int v37]) (rest := []) ⟨hx, hb, hml, hown, hts⟩ (c_X5_isShape l D y s.heap.size v35 v37) ⟨va_cnB 2 hts gX4_tellTo_X5_isShape_n46 rfl rfl rfl (hE.2.1 _ (List.mem_of_getElem? (i := 10) rfl)) w_2 hd_X5_isShape ⟨Nat.le_of_ble_eq_true rfl, Nat.le_of_ble_eq_true rfl⟩, w_3, trivial⟩ (gS hE (hP.sub [] rfl) (hD.sub [] (by decide) rfl)) rfl rfl hl.1 rfl (lv_room (Nat.le_of_ble_eq_true rfl)) dX4_tellTo_12 ⟨Nat.le_of_ble_eq_true rfl, Nat.le_of_ble_eq_true rfl⟩) (fun v39 h38 => ?_)
  have hF := hF.trans (gLet_e h38)
  refine lv_if_eq (tgt := 40) hx hb dX4_tellTo_15 (by decide) (fun c_40 => ?_) (fun c_40 => ?_)
  · have hF := hF.trans (if_pos c_40)
    refine lv_iconst (v := 0) hx hb dX4_tellTo_40 (by decide) ?_
    refine lv_istore_n (lv' := [(2, .int 0), (0, .ref a0), (1, .ref a2)]) hx hb dX4_tellTo_41 rfl hl (by decide) rfl (fun ls hl => ?_)
    refine lv_bipush (v := 6) hx hb dX4_tellTo_42 (by decide) ?_
    refine lv_istore_n (lv' := [(3, .int 6), (2, .int 0), (0, .ref a0), (1, .ref a2)]) hx hb dX4_tellTo_44 rfl hl (by decide) rfl (fun ls hl => ?_)
    refine lv_bipush (v := 6) hx hb dX4_tellTo_45 (by decide) ?_
    refine lv_istore (lv' := [(4, .int 6), (3, .int 6), (2, .int 0), (0, .ref a0), (1, .ref a2)]) hx hb dX4_tellTo_47 hl (by decide) rfl (fun ls hl => ?_)
    exact loop_49 _ 0 6 6 r (ho) (Nat.lt_succ_self _) hF _ _ hP hD hS ls (lv_sub hl [3, 4, 2, 1, 0] rfl)
  · have hF := hF.trans (if_neg c_40)
    refine lv_aload_n hx hb dX4_tellTo_18 rfl (lv_at hl 1 rfl) ?_
    refine lv_aload_n hx hb dX4_tellTo_19 rfl (lv_at hl 0 rfl) ?_
    refine lv_iconst (v := 1) hx hb dX4_tellTo_20 (by decide) ?_
    refine lv_iconst (v := 2) hx hb dX4_tellTo_21 (by decide) ?_
    refine xs_calli (va_runV (As := [.int 1, .int 2]) (rest := [.ref a2]) ⟨hx, hb, hml, hown, hts⟩ (c_X4_numberAt l D y a0 a1 s.heap.size tn tf 1 2 ht) (cwV 2 hts gX4_tellTo_X4_numberAt rfl rfl rfl hd_X4_numberAt ⟨Nat.le_of_ble_eq_true rfl, Nat.le_of_ble_eq_true rfl⟩) (gV (q := (RX4, TX4, 2)) hE (hP.sub [0, 1] rfl) (hD.sub [0, 1] (by decide) rfl) 0 rfl rfl) rfl rfl hl.1 rfl (lv_room (Nat.le_of_ble_eq_true rfl)) dX4_tellTo_22 ⟨Nat.le_of_ble_eq_true rfl, Nat.le_of_ble_eq_true rfl⟩) (fun v42 h41 => ?_)
    have hF := hF.trans (gLet_e h41)
    refine lv_aload_n hx hb dX4_tellTo_25 rfl (lv_at hl 0 rfl) ?_
    refine lv_iconst (v := 3) hx hb dX4_tellTo_26 (by decide) ?_
    refine lv_iconst (v := 2) hx hb dX4_tellTo_27 (by decide) ?_
    refine xs_calli (va_runV (As := [.int 3, .int 2]) (rest := [.int v42, .ref a2]) ⟨hx, hb, hml, hown, hts⟩ (c_X4_numberAt l D y a0 a1 s.heap.size tn tf 3 2 ht) (cwV 2 hts gX4_tellTo_X4_numberAt rfl rfl rfl hd_X4_numberAt ⟨Nat.le_of_ble_eq_true rfl, Nat.le_of_ble_eq_true rfl⟩) (gV (q := (RX4, TX4, 2)) hE (hP.sub [0, 1] rfl) (hD.sub [0, 1] (by decide) rfl) 0 rfl rfl) rfl rfl hl.1 rfl (lv_room (Nat.le_of_ble_eq_true rfl)) dX4_tellTo_28 ⟨Nat.le_of_ble_eq_true rfl, Nat.le_of_ble_eq_true rfl⟩) (fun v44 h43 => ?_)
    have hF := hF.trans (gLet_e h43)
    refine lv_aload_n hx hb dX4_tellTo_31 rfl (lv_at hl 0 rfl) ?_
    refine lv_iconst (v := 5) hx hb dX4_tellTo_32 (by decide) ?_
    refine lv_iconst (v := 1) hx hb dX4_tellTo_33 (by decide) ?_
    refine xs_calli (va_runV (As := [.int 5, .int 1]) (rest := [.int v44, .int v42, .ref a2]) ⟨hx, hb, hml, hown, hts⟩ (c_X4_numberAt l D y a0 a1 s.heap.size tn tf 5 1 ht) (cwV 2 hts gX4_tellTo_X4_numberAt rfl rfl rfl hd_X4_numberAt ⟨Nat.le_of_ble_eq_true rfl, Nat.le_of_ble_eq_true rfl⟩) (gV (q := (RX4, TX4, 2)) hE (hP.sub [0, 1] rfl) (hD.sub [0, 1] (by decide) rfl) 0 rfl rfl) rfl rfl hl.1 rfl (lv_room (Nat.le_of_ble_eq_true rfl)) dX4_tellTo_34 ⟨Nat.le_of_ble_eq_true rfl, Nat.le_of_ble_eq_true rfl⟩) (fun v46 h45 => ?_)
    have hF := hF.trans (gLet_e h45)
    refine xw_callv (va_runV (As := [.int v42, .int v44, .int v46]) (rest := []) ⟨hx, hb, hml, hown, hts⟩ (c_X3_begin l D y a2 a3 a4 s.heap.size r v42 v44 v46) (cwV 3 hts gX4_tellTo_X3_begin rfl rfl rfl hd_X3_begin ⟨Nat.le_of_ble_eq_true rfl, Nat.le_of_ble_eq_true rfl⟩) (gV (q := (RX3, TX3, 15)) hE (hP.sub [2, 3, 4] rfl) (hD.sub [2, 3, 4] (by decide) rfl) 0 rfl rfl) rfl rfl hl.1 rfl (lv_room (Nat.le_of_ble_eq_true rfl)) dX4_tellTo_37 ⟨Nat.le_of_ble_eq_true rfl, Nat.le_of_ble_eq_true rfl⟩) hP hD hS hA [2, 3, 4] rfl (by decide) (fun _ => rfl) (fun u48 H locs h47 hP hD hS => ?_)
    have hF := hF.trans (gLet_e h47)
    have hP : va_P D vwCl [(a0, .inr (3, [.ref a1, .int tn])), (a1, .inl (y 1, 120, .inl tf)), (a2, soF a3 a4 u48), (a3, soV y u48), (a4, soW y u48)] H := hP
    have hD : va_D A [(a0, .inr (3, [.ref a1, .int tn])), (a1, .inl (y 1, 120, .inl tf)), (a2, soF a3 a4 u48), (a3, soV y u48), (a4, soW y u48)] := hD
    refine lv_iconst (v := 0) hx hb dX4_tellTo_40 (by decide) ?_
    refine lv_istore_n (lv' := [(2, .int 0), (0, .ref a0), (1, .ref a2)]) hx hb dX4_tellTo_41 rfl hl (by decide) rfl (fun ls hl => ?_)
    refine lv_bipush (v := 6) hx hb dX4_tellTo_42 (by decide) ?_
    refine lv_istore_n (lv' := [(3, .int 6), (2, .int 0), (0, .ref a0), (1, .ref a2)]) hx hb dX4_tellTo_44 rfl hl (by decide) rfl (fun ls hl => ?_)
    refine lv_bipush (v := 6) hx hb dX4_tellTo_45 (by decide) ?_
    refine lv_istore (lv' := [(4, .int 6), (3, .int 6), (2, .int 0), (0, .ref a0), (1, .ref a2)]) hx hb dX4_tellTo_47 hl (by decide) rfl (fun ls hl => ?_)
    exact loop_49 _ 0 6 6 u48 ((by rw [← h47]; exact ok_X3_begin _ _ _ _ (sh_le (h41.symm.trans h34) h38 (by assumption)))) (Nat.lt_succ_self _) hF _ _ hP hD hS ls (lv_sub hl [3, 4, 2, 1, 0] rfl)
