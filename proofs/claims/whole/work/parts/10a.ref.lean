/-! THE REFERENCE: rows of 78 numbers -/
def okM (r : gR) : Prop := 1 ≤ (r 0).toInt ∧ (r 0).toInt ≤ 32 ∧ 0 ≤ (r 3).toInt ∧ (r 3).toInt ≤ 32
def okL (r : gR) (l : Int32) : Prop := 0 ≤ l.toInt ∧ l.toInt < (r 0).toInt
def okP (p : Int32) : Prop := -31 ≤ p.toInt ∧ p.toInt ≤ 32
theorem okM_upd {r : gR} {k : Nat} {x : Int32} (hk : k ≠ 0 ∧ k ≠ 3) (h : okM r) : okM (upd r k x) := by
  unfold okM at h ⊢
  rw [upd_ne (fun e => hk.1 e.symm), upd_ne (fun e => hk.2 e.symm)]
  exact h
theorem okL_upd {r : gR} {k : Nat} {x l : Int32} (hk : k ≠ 0) (h : okL r l) : okL (upd r k x) l := by
  unfold okL at h ⊢
  rw [upd_ne (fun e => hk e.symm)]
  exact h
theorem okM_ne {r : gR} (h : okM r) : ¬ r 0 = 0 := by
  intro e
  have h1 := h.1
  rw [e] at h1
  exact absurd h1 (by decide)
theorem ix13 {x : Int32} (h0 : 0 ≤ x.toInt) (h1 : x.toInt < 32) : (13 + x).toNatClampNeg = 13 + x.toNatClampNeg := by
  have e : (13 : Int32).toInt = 13 := by decide
  have h2 : (13 + x).toInt = 13 + x.toInt := by rw [i_add (by omega) (by omega), e]
  show (13 + x).toInt.toNat = 13 + x.toInt.toNat
  omega
theorem in13 {x : Int32} (h0 : 0 ≤ x.toInt) (h1 : x.toInt < 32) : vp_in (13 + x) 78 := by
  have e : (13 : Int32).toInt = 13 := by decide
  have h2 : (13 + x).toInt = 13 + x.toInt := by rw [i_add (by omega) (by omega), e]
  exact xin2 (by omega) (by omega)
theorem in45 {p : Int32} (h : okP p) : vp_in (45 + p) 78 := by
  have e : (45 : Int32).toInt = 45 := by decide
  have h1 := h.1
  have h3 := h.2
  have h2 : (45 + p).toInt = 45 + p.toInt := by rw [i_add (by omega) (by omega), e]
  exact xin2 (by omega) (by omega)
theorem ne45 {p : Int32} (h : okP p) : 14 ≤ (45 + p).toNatClampNeg ∧ (45 + p).toNatClampNeg < 78 := by
  have e : (45 : Int32).toInt = 45 := by decide
  have h1 := h.1
  have h3 := h.2
  have h2 : (45 + p).toInt = 45 + p.toInt := by rw [i_add (by omega) (by omega), e]
  show 14 ≤ (45 + p).toInt.toNat ∧ (45 + p).toInt.toNat < 78
  omega
theorem okP_gap {r : gR} (om : okM r) : okP (r 3) := ⟨by have := om.2.2.1; omega, om.2.2.2⟩
theorem okP_le {x m : Int32} (h0 : 0 ≤ x.toInt) (h : ¬ m < x) (hm : m.toInt ≤ 32) : okP x := by
  have h1 := i_le.mp (Int32.not_lt.mp h)
  exact ⟨by omega, by omega⟩
theorem ne_pos {x : Int32} (h : ¬ x ≤ 0) : ¬ x = 0 := by
  intro e; subst e; exact h (Int32.le_refl 0)
/-- a rest of a division by a small number -/
theorem irem_toInt (a b : Int32) (hb : 0 < b.toInt) : (a - a / b * b).toInt = a.toInt.tmod b.toInt := by
  have h1 : (a / b).toInt = a.toInt.tdiv b.toInt := by
    rw [Int32.toInt_div]
    have ha := i_hi a
    have ha2 := i_lo a
    have q : (a.toInt.tdiv b.toInt).natAbs ≤ a.toInt.natAbs := Int.natAbs_tdiv_le_natAbs _ _
    have q2 : a.toInt.tdiv b.toInt ≠ 2147483648 := by
      intro e
      have q3 : a.toInt.natAbs = 2147483648 := by omega
      have q4 : a.toInt = -2147483648 := by omega
      have q5 : 0 ≤ (-a.toInt).tdiv b.toInt := Int.tdiv_nonneg (by omega) (by omega)
      rw [Int.neg_tdiv] at q5
      omega
    exact Int.bmod_eq_of_le (by simp; omega) (by simp; omega)
  rw [Int32.toInt_sub, Int32.toInt_mul, h1]
  have h2 := Int.tmod_def a.toInt b.toInt
  obtain ⟨h4, h3⟩ := tmod_bounds (a := a.toInt) hb
  have h5 := i_hi b
  have h6 : (a.toInt - (a.toInt.tdiv b.toInt * b.toInt).bmod (2 ^ 32)).bmod (2 ^ 32) = (a.toInt - a.toInt.tdiv b.toInt * b.toInt).bmod (2 ^ 32) := by
    rw [Int.sub_bmod_bmod]
  rw [h6, show a.toInt - a.toInt.tdiv b.toInt * b.toInt = a.toInt.tmod b.toInt by rw [h2, Int.mul_comm]]
  exact Int.bmod_eq_of_le (by simp; omega) (by simp; omega)
theorem gcd_dec {a b v : Int32} {n : Nat} (e : a - a / b * b = v) (h : ¬ b ≤ 0) (hμ : b.toInt.toNat < n + 1) : v.toInt.toNat < n := by
  have h0 := i_lt.mp (Int32.not_le.mp h)
  have e0 : (0 : Int32).toInt = 0 := by decide
  rw [← e, irem_toInt a b (by omega)]
  obtain ⟨h4, h3⟩ := tmod_bounds (a := a.toInt) (M := b.toInt) (by omega)
  omega

def f_X6_in (p0 : Int64) (p1 : Int64) (p2 : Int64) : Int32 :=
    if (lg_cmp p0 p1) < 0 then
    0
  else
    if 0 < (lg_cmp p0 p2) then
      0
    else
      1
theorem f_X6_in_s (p0 : Int64) (p1 : Int64) (p2 : Int64) : f_X6_in p0 p1 p2 =
    (if (lg_cmp p0 p1) < 0 then
    0
  else
    if 0 < (lg_cmp p0 p2) then
      0
    else
      1) := rfl
theorem bo_X6_in (p0 : Int64) (p1 : Int64) (p2 : Int64) : (f_X6_in p0 p1 p2) = 0 ∨ (f_X6_in p0 p1 p2) = 1 := by
  unfold f_X6_in
  refine gIf_i (P := fun z : Int32 => z = 0 ∨ z = 1) (fun _ => ?_) (fun _ => ?_)
  · exact Or.inl rfl
  · refine gIf_i (P := fun z : Int32 => z = 0 ∨ z = 1) (fun _ => ?_) (fun _ => ?_)
    · exact Or.inl rfl
    · exact Or.inr rfl
theorem hd_X6_in : yX6_in.cls ≠ "java/lang/invoke/MethodHandle" ∧ yX6_in.cls ≠ "java/lang/invoke/VarHandle" ∧ (parseMethodDescriptor yX6_in.desc).map (fun d => d.parameters.length) = some 3 := by decide +kernel
set_option maxHeartbeats 4000000 in
set_option maxRecDepth 100000 in
theorem c_X6_in (l : Launch) (D : va_G) (y : Nat → ClassId) (zh : Nat) (p0 : Int64) (p1 : Int64) (p2 : Int64) : Met l yX6_in wsX6_in ({ frames := 0, cells := 0, slots := 0, locals := 0 }) (gP D y [.long p0, .long p1, .long p2] zh []) (vp_Si (fun v : Int32 => f_X6_in p0 p1 p2 = v)) 0 0 (fun _ => False) := by
  refine Met.ofW (cc := cX6_in) (maxL := 6) (ret := (some .boolean)) (by decide) rfl ?_
  intro p e s m args below meth c s₁ B hml hv
  obtain ⟨rfl, hsz, hP, hE, hD⟩ := hv
  have hx := B.exec
  have hb := B.bytes
  have hr := B.returns
  have hts := atoms_spec (ws := wsX6_in) B.pre
  have hown : s.vm.findClass RX6 = some m.cls := findClass_of_methodNamed B.named
  have hlocks := B.notSynchronized
  have hl := lv_entry ([.long p0, .long p1, .long p2]) (n := 6) (Nat.le_of_ble_eq_true rfl)
  rw [lg_entry_eq]
  generalize (lg_sl ([.long p0, .long p1, .long p2]) ++ List.replicate (6 - (lg_sl ([.long p0, .long p1, .long p2])).length) Slot.unset).toArray = ls at hl ⊢
  have hl : lv_has ls 6 [(0, .long p0), (2, .long p1), (4, .long p2)] := hl
  have hF := f_X6_in_s p0 p1 p2
  refine lv_lload_n hx hb dX6_in_0 rfl (lv_at hl 0 rfl) ?_
  refine lv_lload_n hx hb dX6_in_1 rfl (lv_at hl 1 rfl) ?_
  refine W.lcmp hx hb dX6_in_2 ?_
  refine lv_if_lt (tgt := 17) hx hb dX6_in_3 (by decide) (fun c_1 => ?_) (fun c_1 => ?_)
  · have hF := hF.trans (if_pos c_1)
    refine lv_iconst (v := 0) hx hb dX6_in_17 (by decide) ?_
    exact W.zret (v := 0) hx hb hr rfl (fun t ht hW => ⟨0, rfl, hF, ht⟩) (fun _ h => nomatch h) dX6_in_18
  · have hF := hF.trans (if_neg c_1)
    refine lv_lload_n hx hb dX6_in_6 rfl (lv_at hl 0 rfl) ?_
    refine lv_lload hx hb dX6_in_7 (lv_at hl 2 rfl) ?_
    refine W.lcmp hx hb dX6_in_9 ?_
    refine lv_if_gt (tgt := 17) hx hb dX6_in_10 (by decide) (fun c_2 => ?_) (fun c_2 => ?_)
    · have hF := hF.trans (if_pos c_2)
      refine lv_iconst (v := 0) hx hb dX6_in_17 (by decide) ?_
      exact W.zret (v := 0) hx hb hr rfl (fun t ht hW => ⟨0, rfl, hF, ht⟩) (fun _ h => nomatch h) dX6_in_18
    · have hF := hF.trans (if_neg c_2)
      refine lv_iconst (v := 1) hx hb dX6_in_13 (by decide) ?_
      refine lv_goto (tgt := 18) hx hb dX6_in_14 (by decide) ?_
      exact W.zret (v := 1) hx hb hr rfl (fun t ht hW => ⟨1, rfl, hF, ht⟩) (fun _ h => nomatch h) dX6_in_18

def f_X6_isValue (p0 : Int32) : Int32 :=
    gLet (f_X6_in p0.toInt64 0 999) (fun (v2 : Int32) =>
    v2)
theorem f_X6_isValue_s (p0 : Int32) : f_X6_isValue p0 =
    (gLet (f_X6_in p0.toInt64 0 999) (fun (v2 : Int32) =>
    v2)) := rfl
theorem bo_X6_isValue (p0 : Int32) : f_X6_isValue p0 = 0 ∨ f_X6_isValue p0 = 1 := bo_X6_in _ _ _
theorem hd_X6_isValue : yX6_isValue.cls ≠ "java/lang/invoke/MethodHandle" ∧ yX6_isValue.cls ≠ "java/lang/invoke/VarHandle" ∧ (parseMethodDescriptor yX6_isValue.desc).map (fun d => d.parameters.length) = some 1 := by decide +kernel
set_option maxHeartbeats 4000000 in
set_option maxRecDepth 100000 in
theorem c_X6_isValue (l : Launch) (D : va_G) (y : Nat → ClassId) (zh : Nat) (p0 : Int32) : Met l yX6_isValue wsX6_isValue ({ frames := 1, cells := 0, slots := 0, locals := 25 }) (gP D y [.int p0] zh []) (vp_Si (fun v : Int32 => f_X6_isValue p0 = v)) 0 0 (fun _ => False) := by
  refine Met.ofW (cc := cX6_isValue) (maxL := 1) (ret := (some .boolean)) (by decide) rfl ?_
  intro p e s m args below meth c s₁ B hml hv
  obtain ⟨rfl, hsz, hP, hE, hD⟩ := hv
  have hx := B.exec
  have hb := B.bytes
  have hr := B.returns
  have hts := atoms_spec (ws := wsX6_isValue) B.pre
  have hown : s.vm.findClass RX6 = some m.cls := findClass_of_methodNamed B.named
  have hlocks := B.notSynchronized
  have w_0 := hts (.constantLong RX6 41 (999)) (List.mem_cons_of_mem _ (List.mem_of_getElem? (i := 0) rfl))
  have hl := lv_entry ([.int p0]) (n := 1) (Nat.le_of_ble_eq_true rfl)
  rw [lg_entry_eq]
  generalize (lg_sl ([.int p0]) ++ List.replicate (1 - (lg_sl ([.int p0])).length) Slot.unset).toArray = ls at hl ⊢
  have hl : lv_has ls 1 [(0, .int p0)] := hl
  have hF := f_X6_isValue_s p0
  refine lv_iload_n hx hb dX6_isValue_0 rfl (lv_at hl 0 rfl) ?_
  refine lv_i2l (v := p0.toInt64) hx hb dX6_isValue_1 rfl ?_
  refine lv_lconst (v := 0) hx hb dX6_isValue_2 (by decide) ?_
  refine lv_ldc2 (v := 999) hx hb hown w_0 dX6_isValue_3 ?_
  refine xs_calli (va_runS (As := [.long p0.toInt64, .long 0, .long 999]) (rest := []) ⟨hx, hb, hml, hown, hts⟩ (c_X6_in l D y s.heap.size p0.toInt64 0 999) (va_cwS 3 hts gX6_isValue_X6_in rfl rfl rfl hd_X6_in ⟨Nat.le_of_ble_eq_true rfl, Nat.le_of_ble_eq_true rfl⟩) (gS hE hP hD) rfl rfl hl.1 rfl (lv_room (Nat.le_of_ble_eq_true rfl)) dX6_isValue_6 ⟨Nat.le_of_ble_eq_true rfl, Nat.le_of_ble_eq_true rfl⟩) (fun v2 h1 => ?_)
  have hF := hF.trans (gLet_e h1)
  exact W.zret (v := v2) hx hb hr (bo_nar (bo_X6_in _ _ _) h1) (fun t ht hW => ⟨v2, rfl, hF, ht⟩) (fun _ h => nomatch h) dX6_isValue_9

def f_X6_isLine (r : gR) (p1 : Int32) : Int32 :=
    gLet (f_X6_in p1.toInt64 0 (((r 0) - 1).toInt64)) (fun (v2 : Int32) =>
    v2)
theorem f_X6_isLine_s (r : gR) (p1 : Int32) : f_X6_isLine r p1 =
    (gLet (f_X6_in p1.toInt64 0 (((r 0) - 1).toInt64)) (fun (v2 : Int32) =>
    v2)) := rfl
theorem bo_X6_isLine (r : gR) (p1 : Int32) : f_X6_isLine r p1 = 0 ∨ f_X6_isLine r p1 = 1 := bo_X6_in _ _ _
theorem hd_X6_isLine : yX6_isLine.cls ≠ "java/lang/invoke/MethodHandle" ∧ yX6_isLine.cls ≠ "java/lang/invoke/VarHandle" ∧ (parseMethodDescriptor yX6_isLine.desc).map (fun d => d.parameters.length) = some 2 := by decide +kernel
set_option maxHeartbeats 4000000 in
set_option maxRecDepth 100000 in
theorem c_X6_isLine (l : Launch) (D : va_G) (y : Nat → ClassId) (a0 : Nat) (zh : Nat) (r : gR) (p1 : Int32) : Met l yX6_isLine wsX6_isLine ({ frames := 1, cells := 0, slots := 0, locals := 25 }) (gP D y [.ref a0, .int p1] zh [(a0, .inl (y 0, 78, .inl r))]) (vp_Si (fun v : Int32 => f_X6_isLine r p1 = v)) 0 0 (fun _ => False) := by
  refine Met.ofW (cc := cX6_isLine) (maxL := 2) (ret := (some .boolean)) (by decide) rfl ?_
  intro p e s m args below meth c s₁ B hml hv
  obtain ⟨rfl, hsz, hP, hE, hD⟩ := hv
  have hx := B.exec
  have hb := B.bytes
  have hr := B.returns
  have hts := atoms_spec (ws := wsX6_isLine) B.pre
  have hown : s.vm.findClass RX6 = some m.cls := findClass_of_methodNamed B.named
  have hlocks := B.notSynchronized
  have hl := lv_entry ([.ref a0, .int p1]) (n := 2) (Nat.le_of_ble_eq_true rfl)
  rw [lg_entry_eq]
  generalize (lg_sl ([.ref a0, .int p1]) ++ List.replicate (2 - (lg_sl ([.ref a0, .int p1])).length) Slot.unset).toArray = ls at hl ⊢
  have hl : lv_has ls 2 [(0, .ref a0), (1, .int p1)] := hl
  have hF := f_X6_isLine_s r p1
  refine lv_iload_n hx hb dX6_isLine_0 rfl (lv_at hl 1 rfl) ?_
  refine lv_i2l (v := p1.toInt64) hx hb dX6_isLine_1 rfl ?_
  refine lv_lconst (v := 0) hx hb dX6_isLine_2 (by decide) ?_
  refine lv_aload_n hx hb dX6_isLine_3 rfl (lv_at hl 0 rfl) ?_
  refine lv_iconst (v := 0) hx hb dX6_isLine_4 (by decide) ?_
  refine xa_iald (k := 0) (v := r 0) hx hb hE.1 hP 0 0 rfl rfl (xin (by decide)) rfl rfl dX6_isLine_5 ?_
  refine lv_iconst (v := 1) hx hb dX6_isLine_6 (by decide) ?_
  refine lv_isub hx hb dX6_isLine_7 ?_
  refine lv_i2l (v := ((r 0) - 1).toInt64) hx hb dX6_isLine_8 rfl ?_
  refine xs_calli (va_runS (As := [.long p1.toInt64, .long 0, .long (((r 0) - 1).toInt64)]) (rest := []) ⟨hx, hb, hml, hown, hts⟩ (c_X6_in l D y s.heap.size p1.toInt64 0 (((r 0) - 1).toInt64)) (va_cwS 3 hts gX6_isLine_X6_in rfl rfl rfl hd_X6_in ⟨Nat.le_of_ble_eq_true rfl, Nat.le_of_ble_eq_true rfl⟩) (gS hE (hP.sub [] rfl) (hD.sub [] (by decide) rfl)) rfl rfl hl.1 rfl (lv_room (Nat.le_of_ble_eq_true rfl)) dX6_isLine_9 ⟨Nat.le_of_ble_eq_true rfl, Nat.le_of_ble_eq_true rfl⟩) (fun v2 h1 => ?_)
  have hF := hF.trans (gLet_e h1)
  exact W.zret (v := v2) hx hb hr (bo_nar (bo_X6_in _ _ _) h1) (fun t ht hW => ⟨v2, rfl, hF, ht⟩) (fun _ h => nomatch h) dX6_isLine_12

def f_X6_isPlace (r : gR) (p1 : Int32) : Int32 :=
    if (r 0) ≤ 0 then
    0
  else
    gLet (f_X6_in p1.toInt64 0 ((r 0).toInt64)) (fun (v3 : Int32) =>
      if v3 = 0 then
        0
      else
        1)
theorem f_X6_isPlace_s (r : gR) (p1 : Int32) : f_X6_isPlace r p1 =
    (if (r 0) ≤ 0 then
    0
  else
    gLet (f_X6_in p1.toInt64 0 ((r 0).toInt64)) (fun (v3 : Int32) =>
      if v3 = 0 then
        0
      else
        1)) := rfl
theorem bo_X6_isPlace (r : gR) (p1 : Int32) : (f_X6_isPlace r p1) = 0 ∨ (f_X6_isPlace r p1) = 1 := by
  unfold f_X6_isPlace
  refine gIf_i (P := fun z : Int32 => z = 0 ∨ z = 1) (fun _ => ?_) (fun _ => ?_)
  · exact Or.inl rfl
  · refine gLet_i (P := fun z : Int32 => z = 0 ∨ z = 1) (fun v3 ev3 => ?_)
    refine gIf_i (P := fun z : Int32 => z = 0 ∨ z = 1) (fun _ => ?_) (fun _ => ?_)
    · exact Or.inl rfl
    · exact Or.inr rfl
theorem hd_X6_isPlace : yX6_isPlace.cls ≠ "java/lang/invoke/MethodHandle" ∧ yX6_isPlace.cls ≠ "java/lang/invoke/VarHandle" ∧ (parseMethodDescriptor yX6_isPlace.desc).map (fun d => d.parameters.length) = some 2 := by decide +kernel
set_option maxHeartbeats 4000000 in
set_option maxRecDepth 100000 in
theorem c_X6_isPlace (l : Launch) (D : va_G) (y : Nat → ClassId) (a0 : Nat) (zh : Nat) (r : gR) (p1 : Int32) : Met l yX6_isPlace wsX6_isPlace ({ frames := 1, cells := 0, slots := 0, locals := 25 }) (gP D y [.ref a0, .int p1] zh [(a0, .inl (y 0, 78, .inl r))]) (vp_Si (fun v : Int32 => f_X6_isPlace r p1 = v)) 0 0 (fun _ => False) := by
  refine Met.ofW (cc := cX6_isPlace) (maxL := 2) (ret := (some .boolean)) (by decide) rfl ?_
  intro p e s m args below meth c s₁ B hml hv
  obtain ⟨rfl, hsz, hP, hE, hD⟩ := hv
  have hx := B.exec
  have hb := B.bytes
  have hr := B.returns
  have hts := atoms_spec (ws := wsX6_isPlace) B.pre
  have hown : s.vm.findClass RX6 = some m.cls := findClass_of_methodNamed B.named
  have hlocks := B.notSynchronized
  have hl := lv_entry ([.ref a0, .int p1]) (n := 2) (Nat.le_of_ble_eq_true rfl)
  rw [lg_entry_eq]
  generalize (lg_sl ([.ref a0, .int p1]) ++ List.replicate (2 - (lg_sl ([.ref a0, .int p1])).length) Slot.unset).toArray = ls at hl ⊢
  have hl : lv_has ls 2 [(0, .ref a0), (1, .int p1)] := hl
  have hF := f_X6_isPlace_s r p1
  refine lv_aload_n hx hb dX6_isPlace_0 rfl (lv_at hl 0 rfl) ?_
  refine lv_iconst (v := 0) hx hb dX6_isPlace_1 (by decide) ?_
  refine xa_iald (k := 0) (v := r 0) hx hb hE.1 hP 0 0 rfl rfl (xin (by decide)) rfl rfl dX6_isPlace_2 ?_
  refine lv_if_le (tgt := 23) hx hb dX6_isPlace_3 (by decide) (fun c_1 => ?_) (fun c_1 => ?_)
  · have hF := hF.trans (if_pos c_1)
    refine lv_iconst (v := 0) hx hb dX6_isPlace_23 (by decide) ?_
    exact W.zret (v := 0) hx hb hr rfl (fun t ht hW => ⟨0, rfl, hF, ht⟩) (fun _ h => nomatch h) dX6_isPlace_24
  · have hF := hF.trans (if_neg c_1)
    refine lv_iload_n hx hb dX6_isPlace_6 rfl (lv_at hl 1 rfl) ?_
    refine lv_i2l (v := p1.toInt64) hx hb dX6_isPlace_7 rfl ?_
    refine lv_lconst (v := 0) hx hb dX6_isPlace_8 (by decide) ?_
    refine lv_aload_n hx hb dX6_isPlace_9 rfl (lv_at hl 0 rfl) ?_
    refine lv_iconst (v := 0) hx hb dX6_isPlace_10 (by decide) ?_
    refine xa_iald (k := 0) (v := r 0) hx hb hE.1 hP 0 0 rfl rfl (xin (by decide)) rfl rfl dX6_isPlace_11 ?_
    refine lv_i2l (v := (r 0).toInt64) hx hb dX6_isPlace_12 rfl ?_
    refine xs_calli (va_runS (As := [.long p1.toInt64, .long 0, .long ((r 0).toInt64)]) (rest := []) ⟨hx, hb, hml, hown, hts⟩ (c_X6_in l D y s.heap.size p1.toInt64 0 ((r 0).toInt64)) (va_cwS 3 hts gX6_isPlace_X6_in rfl rfl rfl hd_X6_in ⟨Nat.le_of_ble_eq_true rfl, Nat.le_of_ble_eq_true rfl⟩) (gS hE (hP.sub [] rfl) (hD.sub [] (by decide) rfl)) rfl rfl hl.1 rfl (lv_room (Nat.le_of_ble_eq_true rfl)) dX6_isPlace_13 ⟨Nat.le_of_ble_eq_true rfl, Nat.le_of_ble_eq_true rfl⟩) (fun v3 h2 => ?_)
    have hF := hF.trans (gLet_e h2)
    refine lv_if_eq (tgt := 23) hx hb dX6_isPlace_16 (by decide) (fun c_4 => ?_) (fun c_4 => ?_)
    · have hF := hF.trans (if_pos c_4)
      refine lv_iconst (v := 0) hx hb dX6_isPlace_23 (by decide) ?_
      exact W.zret (v := 0) hx hb hr rfl (fun t ht hW => ⟨0, rfl, hF, ht⟩) (fun _ h => nomatch h) dX6_isPlace_24
    · have hF := hF.trans (if_neg c_4)
      refine lv_iconst (v := 1) hx hb dX6_isPlace_19 (by decide) ?_
      refine lv_goto (tgt := 24) hx hb dX6_isPlace_20 (by decide) ?_
      exact W.zret (v := 1) hx hb hr rfl (fun t ht hW => ⟨1, rfl, hF, ht⟩) (fun _ h => nomatch h) dX6_isPlace_24

def f_X6_isKey_L4 (p0 : Int32) (p1 : Int32) : Nat → Int32 → Int32 → Int32
  | 0, _, _ => 0
  | n + 1, x2, x3 =>
    if x3 ≤ 0 then
    gLet (f_X6_in p1.toInt64 1 ((p0 - 1).toInt64)) (fun (v3 : Int32) =>
      if v3 = 0 then
        0
      else
        if x2 = 1 then
          1
        else
          0)
  else
    gLet (x2 - x2 / x3 * x3) (fun (v6 : Int32) =>
      f_X6_isKey_L4 p0 p1 n x3 v6)
theorem f_X6_isKey_L4_s (p0 : Int32) (p1 : Int32) (n : Nat) (x2 : Int32) (x3 : Int32) : f_X6_isKey_L4 p0 p1 (n + 1) x2 x3 =
    (if x3 ≤ 0 then
    gLet (f_X6_in p1.toInt64 1 ((p0 - 1).toInt64)) (fun (v3 : Int32) =>
      if v3 = 0 then
        0
      else
        if x2 = 1 then
          1
        else
          0)
  else
    gLet (x2 - x2 / x3 * x3) (fun (v6 : Int32) =>
      f_X6_isKey_L4 p0 p1 n x3 v6)) := rfl
def f_X6_isKey (p0 : Int32) (p1 : Int32) : Int32 :=
    f_X6_isKey_L4 p0 p1 (p1.toInt.toNat + 1) p0 p1
theorem f_X6_isKey_s (p0 : Int32) (p1 : Int32) : f_X6_isKey p0 p1 =
    (f_X6_isKey_L4 p0 p1 (p1.toInt.toNat + 1) p0 p1) := rfl
theorem hd_X6_isKey : yX6_isKey.cls ≠ "java/lang/invoke/MethodHandle" ∧ yX6_isKey.cls ≠ "java/lang/invoke/VarHandle" ∧ (parseMethodDescriptor yX6_isKey.desc).map (fun d => d.parameters.length) = some 2 := by decide +kernel
set_option maxHeartbeats 4000000 in
set_option maxRecDepth 100000 in
theorem c_X6_isKey (l : Launch) (D : va_G) (y : Nat → ClassId) (zh : Nat) (p0 : Int32) (p1 : Int32) : Met l yX6_isKey wsX6_isKey ({ frames := 1, cells := 0, slots := 0, locals := 25 }) (gP D y [.int p0, .int p1] zh []) (vp_Si (fun v : Int32 => f_X6_isKey p0 p1 = v)) 0 0 (fun _ => False) := by
  refine Met.ofW (cc := cX6_isKey) (maxL := 5) (ret := (some .boolean)) (by decide) rfl ?_
  intro p e s m args below meth c s₁ B hml hv
  obtain ⟨rfl, hsz, hP, hE, hD⟩ := hv
  have hx := B.exec
  have hb := B.bytes
  have hr := B.returns
  have hts := atoms_spec (ws := wsX6_isKey) B.pre
  have hown : s.vm.findClass RX6 = some m.cls := findClass_of_methodNamed B.named
  have hlocks := B.notSynchronized
  have hl := lv_entry ([.int p0, .int p1]) (n := 5) (Nat.le_of_ble_eq_true rfl)
  rw [lg_entry_eq]
  generalize (lg_sl ([.int p0, .int p1]) ++ List.replicate (5 - (lg_sl ([.int p0, .int p1])).length) Slot.unset).toArray = ls at hl ⊢
  have hl : lv_has ls 5 [(0, .int p0), (1, .int p1)] := hl
  have loop_4 : ∀ (n : Nat) (x2 : Int32) (x3 : Int32), x3.toInt.toNat < n → f_X6_isKey p0 p1 = f_X6_isKey_L4 p0 p1 n x2 x3 → ∀ (ls : Array Slot), lv_has ls 5 [(0, .int p0), (1, .int p1), (2, .int x2), (3, .int x3)] → W p l e (headSpec wsX6_isKey ({ frames := 1, cells := 0, slots := 0, locals := 25 })).room s m ([.int p0, .int p1] : List Value).toArray below meth c s.heap [] 0 0 (MQ below (vp_Si (fun v : Int32 => f_X6_isKey p0 p1 = v)) ([.int p0, .int p1] : List Value).toArray s 0 0 (fun _ => False)) (F0 m 4 ls []) := by
    intro n
    induction n with
    | zero =>
      intro x2 x3 hμ
      exact absurd hμ (Nat.not_lt_zero _)
    | succ n ih =>
      intro x2 x3 hμ hF ls hl
      have hF := hF.trans (f_X6_isKey_L4_s p0 p1 n x2 x3)
      refine lv_iload_n hx hb dX6_isKey_4 rfl (lv_at hl 3 rfl) ?_
      refine lv_if_le (tgt := 21) hx hb dX6_isKey_5 (by decide) (fun c_1 => ?_) (fun c_1 => ?_)
      · have hF := hF.trans (if_pos c_1)
        refine lv_iload_n hx hb dX6_isKey_21 rfl (lv_at hl 1 rfl) ?_
        refine lv_i2l (v := p1.toInt64) hx hb dX6_isKey_22 rfl ?_
        refine lv_lconst (v := 1) hx hb dX6_isKey_23 (by decide) ?_
        refine lv_iload_n hx hb dX6_isKey_24 rfl (lv_at hl 0 rfl) ?_
        refine lv_iconst (v := 1) hx hb dX6_isKey_25 (by decide) ?_
        refine lv_isub hx hb dX6_isKey_26 ?_
        refine lv_i2l (v := (p0 - 1).toInt64) hx hb dX6_isKey_27 rfl ?_
        refine xs_calli (va_runS (As := [.long p1.toInt64, .long 1, .long ((p0 - 1).toInt64)]) (rest := []) ⟨hx, hb, hml, hown, hts⟩ (c_X6_in l D y s.heap.size p1.toInt64 1 ((p0 - 1).toInt64)) (va_cwS 3 hts gX6_isKey_X6_in rfl rfl rfl hd_X6_in ⟨Nat.le_of_ble_eq_true rfl, Nat.le_of_ble_eq_true rfl⟩) (gS hE hP hD) rfl rfl hl.1 rfl (lv_room (Nat.le_of_ble_eq_true rfl)) dX6_isKey_28 ⟨Nat.le_of_ble_eq_true rfl, Nat.le_of_ble_eq_true rfl⟩) (fun v3 h2 => ?_)
        have hF := hF.trans (gLet_e h2)
        refine lv_if_eq (tgt := 43) hx hb dX6_isKey_31 (by decide) (fun c_4 => ?_) (fun c_4 => ?_)
        · have hF := hF.trans (if_pos c_4)
          refine lv_iconst (v := 0) hx hb dX6_isKey_43 (by decide) ?_
          exact W.zret (v := 0) hx hb hr rfl (fun t ht hW => ⟨0, rfl, hF, ht⟩) (fun _ h => nomatch h) dX6_isKey_44
        · have hF := hF.trans (if_neg c_4)
          refine lv_iload_n hx hb dX6_isKey_34 rfl (lv_at hl 2 rfl) ?_
          refine lv_iconst (v := 1) hx hb dX6_isKey_35 (by decide) ?_
          refine lv_icmp_ne (tgt := 43) hx hb dX6_isKey_36 (by decide) (fun c_5 => ?_) (fun c_5 => ?_)
          · have hF := hF.trans (if_neg c_5)
            refine lv_iconst (v := 0) hx hb dX6_isKey_43 (by decide) ?_
            exact W.zret (v := 0) hx hb hr rfl (fun t ht hW => ⟨0, rfl, hF, ht⟩) (fun _ h => nomatch h) dX6_isKey_44
          · have hF := hF.trans (if_pos c_5)
            refine lv_iconst (v := 1) hx hb dX6_isKey_39 (by decide) ?_
            refine lv_goto (tgt := 44) hx hb dX6_isKey_40 (by decide) ?_
            exact W.zret (v := 1) hx hb hr rfl (fun t ht hW => ⟨1, rfl, hF, ht⟩) (fun _ h => nomatch h) dX6_isKey_44
      · have hF := hF.trans (if_neg c_1)
        refine lv_iload_n hx hb dX6_isKey_8 rfl (lv_at hl 2 rfl) ?_
        refine lv_iload_n hx hb dX6_isKey_9 rfl (lv_at hl 3 rfl) ?_
        refine lv_irem hx hb dX6_isKey_10 (ne_pos (by assumption)) ?_
        obtain ⟨v6, ev6⟩ : ∃ z : Int32, x2 - x2 / x3 * x3 = z := ⟨_, rfl⟩
        rw [ev6]
        have hF := hF.trans (gLet_e ev6)
        refine lv_istore (lv' := [(4, .int v6), (0, .int p0), (1, .int p1), (2, .int x2), (3, .int x3)]) hx hb dX6_isKey_11 hl (by decide) rfl (fun ls hl => ?_)
        refine lv_iload_n hx hb dX6_isKey_13 rfl (lv_at hl 4 rfl) ?_
        refine lv_istore_n (lv' := [(2, .int x3), (4, .int v6), (0, .int p0), (1, .int p1), (3, .int x3)]) hx hb dX6_isKey_14 rfl hl (by decide) rfl (fun ls hl => ?_)
        refine lv_iload hx hb dX6_isKey_15 (lv_at hl 1 rfl) ?_
        refine lv_istore_n (lv' := [(3, .int v6), (2, .int x3), (4, .int v6), (0, .int p0), (1, .int p1)]) hx hb dX6_isKey_17 rfl hl (by decide) rfl (fun ls hl => ?_)
        refine lv_goto (tgt := 4) hx hb dX6_isKey_18 (by decide) ?_
        exact ih x3 v6 ((gcd_dec (by assumption) (by assumption) hμ)) hF ls (lv_sub hl [3, 4, 1, 0] rfl)
  have hF := f_X6_isKey_s p0 p1
  refine lv_iload_n hx hb dX6_isKey_0 rfl (lv_at hl 0 rfl) ?_
  refine lv_istore_n (lv' := [(2, .int p0), (0, .int p0), (1, .int p1)]) hx hb dX6_isKey_1 rfl hl (by decide) rfl (fun ls hl => ?_)
  refine lv_iload_n hx hb dX6_isKey_2 rfl (lv_at hl 2 rfl) ?_
  refine lv_istore_n (lv' := [(3, .int p1), (2, .int p0), (0, .int p0), (1, .int p1)]) hx hb dX6_isKey_3 rfl hl (by decide) rfl (fun ls hl => ?_)
  exact loop_4 _ p0 p1 (Nat.lt_succ_self _) hF ls (lv_sub hl [2, 3, 1, 0] rfl)

def f_X6_canMake (p0 : Int32) (p1 : Int32) (p2 : Int32) : Int32 :=
    gLet (f_X6_in p0.toInt64 4 32) (fun (v2 : Int32) =>
    if v2 = 0 then
      0
    else
      gLet (f_X6_in p1.toInt64 1 ((p0 - 1).toInt64)) (fun (v5 : Int32) =>
        if v5 = 0 then
          0
        else
          gLet (f_X6_isKey p0 p1) (fun (v8 : Int32) =>
            if v8 = 0 then
              0
            else
              gLet (f_X6_in p2.toInt64 0 4) (fun (v11 : Int32) =>
                if v11 = 0 then
                  0
                else
                  1))))
theorem f_X6_canMake_s (p0 : Int32) (p1 : Int32) (p2 : Int32) : f_X6_canMake p0 p1 p2 =
    (gLet (f_X6_in p0.toInt64 4 32) (fun (v2 : Int32) =>
    if v2 = 0 then
      0
    else
      gLet (f_X6_in p1.toInt64 1 ((p0 - 1).toInt64)) (fun (v5 : Int32) =>
        if v5 = 0 then
          0
        else
          gLet (f_X6_isKey p0 p1) (fun (v8 : Int32) =>
            if v8 = 0 then
              0
            else
              gLet (f_X6_in p2.toInt64 0 4) (fun (v11 : Int32) =>
                if v11 = 0 then
                  0
                else
                  1))))) := rfl
theorem bo_X6_canMake (p0 : Int32) (p1 : Int32) (p2 : Int32) : (f_X6_canMake p0 p1 p2) = 0 ∨ (f_X6_canMake p0 p1 p2) = 1 := by
  unfold f_X6_canMake
  refine gLet_i (P := fun z : Int32 => z = 0 ∨ z = 1) (fun v2 ev2 => ?_)
  refine gIf_i (P := fun z : Int32 => z = 0 ∨ z = 1) (fun _ => ?_) (fun _ => ?_)
  · exact Or.inl rfl
  · refine gLet_i (P := fun z : Int32 => z = 0 ∨ z = 1) (fun v5 ev5 => ?_)
    refine gIf_i (P := fun z : Int32 => z = 0 ∨ z = 1) (fun _ => ?_) (fun _ => ?_)
    · exact Or.inl rfl
    · refine gLet_i (P := fun z : Int32 => z = 0 ∨ z = 1) (fun v8 ev8 => ?_)
      refine gIf_i (P := fun z : Int32 => z = 0 ∨ z = 1) (fun _ => ?_) (fun _ => ?_)
      · exact Or.inl rfl
      · refine gLet_i (P := fun z : Int32 => z = 0 ∨ z = 1) (fun v11 ev11 => ?_)
        refine gIf_i (P := fun z : Int32 => z = 0 ∨ z = 1) (fun _ => ?_) (fun _ => ?_)
        · exact Or.inl rfl
        · exact Or.inr rfl
theorem hd_X6_canMake : yX6_canMake.cls ≠ "java/lang/invoke/MethodHandle" ∧ yX6_canMake.cls ≠ "java/lang/invoke/VarHandle" ∧ (parseMethodDescriptor yX6_canMake.desc).map (fun d => d.parameters.length) = some 3 := by decide +kernel
set_option maxHeartbeats 4000000 in
set_option maxRecDepth 100000 in
theorem c_X6_canMake (l : Launch) (D : va_G) (y : Nat → ClassId) (zh : Nat) (p0 : Int32) (p1 : Int32) (p2 : Int32) : Met l yX6_canMake wsX6_canMake ({ frames := 2, cells := 0, slots := 0, locals := 49 }) (gP D y [.int p0, .int p1, .int p2] zh []) (vp_Si (fun v : Int32 => f_X6_canMake p0 p1 p2 = v)) 0 0 (fun _ => False) := by
  refine Met.ofW (cc := cX6_canMake) (maxL := 3) (ret := (some .boolean)) (by decide) rfl ?_
  intro p e s m args below meth c s₁ B hml hv
  obtain ⟨rfl, hsz, hP, hE, hD⟩ := hv
  have hx := B.exec
  have hb := B.bytes
  have hr := B.returns
  have hts := atoms_spec (ws := wsX6_canMake) B.pre
  have hown : s.vm.findClass RX6 = some m.cls := findClass_of_methodNamed B.named
  have hlocks := B.notSynchronized
  have w_0 := hts (.constantLong RX6 43 (4)) (List.mem_cons_of_mem _ (List.mem_of_getElem? (i := 0) rfl))
  have w_1 := hts (.constantLong RX6 45 (32)) (List.mem_cons_of_mem _ (List.mem_of_getElem? (i := 1) rfl))
  have hl := lv_entry ([.int p0, .int p1, .int p2]) (n := 3) (Nat.le_of_ble_eq_true rfl)
  rw [lg_entry_eq]
  generalize (lg_sl ([.int p0, .int p1, .int p2]) ++ List.replicate (3 - (lg_sl ([.int p0, .int p1, .int p2])).length) Slot.unset).toArray = ls at hl ⊢
  have hl : lv_has ls 3 [(0, .int p0), (1, .int p1), (2, .int p2)] := hl
  have hF := f_X6_canMake_s p0 p1 p2
  refine lv_iload_n hx hb dX6_canMake_0 rfl (lv_at hl 0 rfl) ?_
  refine lv_i2l (v := p0.toInt64) hx hb dX6_canMake_1 rfl ?_
  refine lv_ldc2 (v := 4) hx hb hown w_0 dX6_canMake_2 ?_
  refine lv_ldc2 (v := 32) hx hb hown w_1 dX6_canMake_5 ?_
  refine xs_calli (va_runS (As := [.long p0.toInt64, .long 4, .long 32]) (rest := []) ⟨hx, hb, hml, hown, hts⟩ (c_X6_in l D y s.heap.size p0.toInt64 4 32) (va_cwS 3 hts gX6_canMake_X6_in rfl rfl rfl hd_X6_in ⟨Nat.le_of_ble_eq_true rfl, Nat.le_of_ble_eq_true rfl⟩) (gS hE hP hD) rfl rfl hl.1 rfl (lv_room (Nat.le_of_ble_eq_true rfl)) dX6_canMake_8 ⟨Nat.le_of_ble_eq_true rfl, Nat.le_of_ble_eq_true rfl⟩) (fun v2 h1 => ?_)
  have hF := hF.trans (gLet_e h1)
  refine lv_if_eq (tgt := 51) hx hb dX6_canMake_11 (by decide) (fun c_3 => ?_) (fun c_3 => ?_)
  · have hF := hF.trans (if_pos c_3)
    refine lv_iconst (v := 0) hx hb dX6_canMake_51 (by decide) ?_
    exact W.zret (v := 0) hx hb hr rfl (fun t ht hW => ⟨0, rfl, hF, ht⟩) (fun _ h => nomatch h) dX6_canMake_52
  · have hF := hF.trans (if_neg c_3)
    refine lv_iload_n hx hb dX6_canMake_14 rfl (lv_at hl 1 rfl) ?_
    refine lv_i2l (v := p1.toInt64) hx hb dX6_canMake_15 rfl ?_
    refine lv_lconst (v := 1) hx hb dX6_canMake_16 (by decide) ?_
    refine lv_iload_n hx hb dX6_canMake_17 rfl (lv_at hl 0 rfl) ?_
    refine lv_iconst (v := 1) hx hb dX6_canMake_18 (by decide) ?_
    refine lv_isub hx hb dX6_canMake_19 ?_
    refine lv_i2l (v := (p0 - 1).toInt64) hx hb dX6_canMake_20 rfl ?_
    refine xs_calli (va_runS (As := [.long p1.toInt64, .long 1, .long ((p0 - 1).toInt64)]) (rest := []) ⟨hx, hb, hml, hown, hts⟩ (c_X6_in l D y s.heap.size p1.toInt64 1 ((p0 - 1).toInt64)) (va_cwS 3 hts gX6_canMake_X6_in rfl rfl rfl hd_X6_in ⟨Nat.le_of_ble_eq_true rfl, Nat.le_of_ble_eq_true rfl⟩) (gS hE hP hD) rfl rfl hl.1 rfl (lv_room (Nat.le_of_ble_eq_true rfl)) dX6_canMake_21 ⟨Nat.le_of_ble_eq_true rfl, Nat.le_of_ble_eq_true rfl⟩) (fun v5 h4 => ?_)
    have hF := hF.trans (gLet_e h4)
    refine lv_if_eq (tgt := 51) hx hb dX6_canMake_24 (by decide) (fun c_6 => ?_) (fun c_6 => ?_)
    · have hF := hF.trans (if_pos c_6)
      refine lv_iconst (v := 0) hx hb dX6_canMake_51 (by decide) ?_
      exact W.zret (v := 0) hx hb hr rfl (fun t ht hW => ⟨0, rfl, hF, ht⟩) (fun _ h => nomatch h) dX6_canMake_52
    · have hF := hF.trans (if_neg c_6)
      refine lv_iload_n hx hb dX6_canMake_27 rfl (lv_at hl 0 rfl) ?_
      refine lv_iload_n hx hb dX6_canMake_28 rfl (lv_at hl 1 rfl) ?_
      refine xs_calli (va_runS (As := [.int p0, .int p1]) (rest := []) ⟨hx, hb, hml, hown, hts⟩ (c_X6_isKey l D y s.heap.size p0 p1) (va_cwS 2 hts gX6_canMake_X6_isKey rfl rfl rfl hd_X6_isKey ⟨Nat.le_of_ble_eq_true rfl, Nat.le_of_ble_eq_true rfl⟩) (gS hE hP hD) rfl rfl hl.1 rfl (lv_room (Nat.le_of_ble_eq_true rfl)) dX6_canMake_29 ⟨Nat.le_of_ble_eq_true rfl, Nat.le_of_ble_eq_true rfl⟩) (fun v8 h7 => ?_)
      have hF := hF.trans (gLet_e h7)
      refine lv_if_eq (tgt := 51) hx hb dX6_canMake_32 (by decide) (fun c_9 => ?_) (fun c_9 => ?_)
      · have hF := hF.trans (if_pos c_9)
        refine lv_iconst (v := 0) hx hb dX6_canMake_51 (by decide) ?_
        exact W.zret (v := 0) hx hb hr rfl (fun t ht hW => ⟨0, rfl, hF, ht⟩) (fun _ h => nomatch h) dX6_canMake_52
      · have hF := hF.trans (if_neg c_9)
        refine lv_iload_n hx hb dX6_canMake_35 rfl (lv_at hl 2 rfl) ?_
        refine lv_i2l (v := p2.toInt64) hx hb dX6_canMake_36 rfl ?_
        refine lv_lconst (v := 0) hx hb dX6_canMake_37 (by decide) ?_
        refine lv_ldc2 (v := 4) hx hb hown w_0 dX6_canMake_38 ?_
        refine xs_calli (va_runS (As := [.long p2.toInt64, .long 0, .long 4]) (rest := []) ⟨hx, hb, hml, hown, hts⟩ (c_X6_in l D y s.heap.size p2.toInt64 0 4) (va_cwS 3 hts gX6_canMake_X6_in rfl rfl rfl hd_X6_in ⟨Nat.le_of_ble_eq_true rfl, Nat.le_of_ble_eq_true rfl⟩) (gS hE hP hD) rfl rfl hl.1 rfl (lv_room (Nat.le_of_ble_eq_true rfl)) dX6_canMake_41 ⟨Nat.le_of_ble_eq_true rfl, Nat.le_of_ble_eq_true rfl⟩) (fun v11 h10 => ?_)
        have hF := hF.trans (gLet_e h10)
        refine lv_if_eq (tgt := 51) hx hb dX6_canMake_44 (by decide) (fun c_12 => ?_) (fun c_12 => ?_)
        · have hF := hF.trans (if_pos c_12)
          refine lv_iconst (v := 0) hx hb dX6_canMake_51 (by decide) ?_
          exact W.zret (v := 0) hx hb hr rfl (fun t ht hW => ⟨0, rfl, hF, ht⟩) (fun _ h => nomatch h) dX6_canMake_52
        · have hF := hF.trans (if_neg c_12)
          refine lv_iconst (v := 1) hx hb dX6_canMake_47 (by decide) ?_
          refine lv_goto (tgt := 52) hx hb dX6_canMake_48 (by decide) ?_
          exact W.zret (v := 1) hx hb hr rfl (fun t ht hW => ⟨1, rfl, hF, ht⟩) (fun _ h => nomatch h) dX6_canMake_52

def f_X6_isSetting (p0 : Int32) (p1 : Int32) : Int32 :=
    if p0 = 0 then
    gLet (f_X6_in p1.toInt64 5 999) (fun (v7 : Int32) =>
      if v7 = 0 then
        if p0 = 1 then
          gLet (f_X6_in p1.toInt64 1 50) (fun (v11 : Int32) =>
            if v11 = 0 then
              0
            else
              1)
        else
          0
      else
        1)
  else
    if p0 = 1 then
      gLet (f_X6_in p1.toInt64 1 50) (fun (v4 : Int32) =>
        if v4 = 0 then
          0
        else
          1)
    else
      0
theorem f_X6_isSetting_s (p0 : Int32) (p1 : Int32) : f_X6_isSetting p0 p1 =
    (if p0 = 0 then
    gLet (f_X6_in p1.toInt64 5 999) (fun (v7 : Int32) =>
      if v7 = 0 then
        if p0 = 1 then
          gLet (f_X6_in p1.toInt64 1 50) (fun (v11 : Int32) =>
            if v11 = 0 then
              0
            else
              1)
        else
          0
      else
        1)
  else
    if p0 = 1 then
      gLet (f_X6_in p1.toInt64 1 50) (fun (v4 : Int32) =>
        if v4 = 0 then
          0
        else
          1)
    else
      0) := rfl
theorem bo_X6_isSetting (p0 : Int32) (p1 : Int32) : (f_X6_isSetting p0 p1) = 0 ∨ (f_X6_isSetting p0 p1) = 1 := by
  unfold f_X6_isSetting
  refine gIf_i (P := fun z : Int32 => z = 0 ∨ z = 1) (fun _ => ?_) (fun _ => ?_)
  · refine gLet_i (P := fun z : Int32 => z = 0 ∨ z = 1) (fun v7 ev7 => ?_)
    refine gIf_i (P := fun z : Int32 => z = 0 ∨ z = 1) (fun _ => ?_) (fun _ => ?_)
    · refine gIf_i (P := fun z : Int32 => z = 0 ∨ z = 1) (fun _ => ?_) (fun _ => ?_)
      · refine gLet_i (P := fun z : Int32 => z = 0 ∨ z = 1) (fun v11 ev11 => ?_)
        refine gIf_i (P := fun z : Int32 => z = 0 ∨ z = 1) (fun _ => ?_) (fun _ => ?_)
        · exact Or.inl rfl
        · exact Or.inr rfl
      · exact Or.inl rfl
    · exact Or.inr rfl
  · refine gIf_i (P := fun z : Int32 => z = 0 ∨ z = 1) (fun _ => ?_) (fun _ => ?_)
    · refine gLet_i (P := fun z : Int32 => z = 0 ∨ z = 1) (fun v4 ev4 => ?_)
      refine gIf_i (P := fun z : Int32 => z = 0 ∨ z = 1) (fun _ => ?_) (fun _ => ?_)
      · exact Or.inl rfl
      · exact Or.inr rfl
    · exact Or.inl rfl
theorem hd_X6_isSetting : yX6_isSetting.cls ≠ "java/lang/invoke/MethodHandle" ∧ yX6_isSetting.cls ≠ "java/lang/invoke/VarHandle" ∧ (parseMethodDescriptor yX6_isSetting.desc).map (fun d => d.parameters.length) = some 2 := by decide +kernel
set_option maxHeartbeats 4000000 in
set_option maxRecDepth 100000 in
theorem c_X6_isSetting (l : Launch) (D : va_G) (y : Nat → ClassId) (zh : Nat) (p0 : Int32) (p1 : Int32) : Met l yX6_isSetting wsX6_isSetting ({ frames := 1, cells := 0, slots := 0, locals := 25 }) (gP D y [.int p0, .int p1] zh []) (vp_Si (fun v : Int32 => f_X6_isSetting p0 p1 = v)) 0 0 (fun _ => False) := by
  refine Met.ofW (cc := cX6_isSetting) (maxL := 2) (ret := (some .boolean)) (by decide) rfl ?_
  intro p e s m args below meth c s₁ B hml hv
  obtain ⟨rfl, hsz, hP, hE, hD⟩ := hv
  have hx := B.exec
  have hb := B.bytes
  have hr := B.returns
  have hts := atoms_spec (ws := wsX6_isSetting) B.pre
  have hown : s.vm.findClass RX6 = some m.cls := findClass_of_methodNamed B.named
  have hlocks := B.notSynchronized
  have w_0 := hts (.constantLong RX6 76 (50)) (List.mem_cons_of_mem _ (List.mem_of_getElem? (i := 2) rfl))
  have w_1 := hts (.constantLong RX6 74 (5)) (List.mem_cons_of_mem _ (List.mem_of_getElem? (i := 0) rfl))
  have w_2 := hts (.constantLong RX6 41 (999)) (List.mem_cons_of_mem _ (List.mem_of_getElem? (i := 1) rfl))
  have hl := lv_entry ([.int p0, .int p1]) (n := 2) (Nat.le_of_ble_eq_true rfl)
  rw [lg_entry_eq]
  generalize (lg_sl ([.int p0, .int p1]) ++ List.replicate (2 - (lg_sl ([.int p0, .int p1])).length) Slot.unset).toArray = ls at hl ⊢
  have hl : lv_has ls 2 [(0, .int p0), (1, .int p1)] := hl
  have hF := f_X6_isSetting_s p0 p1
  refine lv_iload_n hx hb dX6_isSetting_0 rfl (lv_at hl 0 rfl) ?_
  refine lv_if_ne (tgt := 18) hx hb dX6_isSetting_1 (by decide) (fun c_1 => ?_) (fun c_1 => ?_)
  · have hF := hF.trans (if_neg c_1)
    refine lv_iload_n hx hb dX6_isSetting_18 rfl (lv_at hl 0 rfl) ?_
    refine lv_iconst (v := 1) hx hb dX6_isSetting_19 (by decide) ?_
    refine lv_icmp_ne (tgt := 39) hx hb dX6_isSetting_20 (by decide) (fun c_2 => ?_) (fun c_2 => ?_)
    · have hF := hF.trans (if_neg c_2)
      refine lv_iconst (v := 0) hx hb dX6_isSetting_39 (by decide) ?_
      exact W.zret (v := 0) hx hb hr rfl (fun t ht hW => ⟨0, rfl, hF, ht⟩) (fun _ h => nomatch h) dX6_isSetting_40
    · have hF := hF.trans (if_pos c_2)
      refine lv_iload_n hx hb dX6_isSetting_23 rfl (lv_at hl 1 rfl) ?_
      refine lv_i2l (v := p1.toInt64) hx hb dX6_isSetting_24 rfl ?_
      refine lv_lconst (v := 1) hx hb dX6_isSetting_25 (by decide) ?_
      refine lv_ldc2 (v := 50) hx hb hown w_0 dX6_isSetting_26 ?_
      refine xs_calli (va_runS (As := [.long p1.toInt64, .long 1, .long 50]) (rest := []) ⟨hx, hb, hml, hown, hts⟩ (c_X6_in l D y s.heap.size p1.toInt64 1 50) (va_cwS 3 hts gX6_isSetting_X6_in rfl rfl rfl hd_X6_in ⟨Nat.le_of_ble_eq_true rfl, Nat.le_of_ble_eq_true rfl⟩) (gS hE hP hD) rfl rfl hl.1 rfl (lv_room (Nat.le_of_ble_eq_true rfl)) dX6_isSetting_29 ⟨Nat.le_of_ble_eq_true rfl, Nat.le_of_ble_eq_true rfl⟩) (fun v4 h3 => ?_)
      have hF := hF.trans (gLet_e h3)
      refine lv_if_eq (tgt := 39) hx hb dX6_isSetting_32 (by decide) (fun c_5 => ?_) (fun c_5 => ?_)
      · have hF := hF.trans (if_pos c_5)
        refine lv_iconst (v := 0) hx hb dX6_isSetting_39 (by decide) ?_
        exact W.zret (v := 0) hx hb hr rfl (fun t ht hW => ⟨0, rfl, hF, ht⟩) (fun _ h => nomatch h) dX6_isSetting_40
      · have hF := hF.trans (if_neg c_5)
        refine lv_iconst (v := 1) hx hb dX6_isSetting_35 (by decide) ?_
        refine lv_goto (tgt := 40) hx hb dX6_isSetting_36 (by decide) ?_
        exact W.zret (v := 1) hx hb hr rfl (fun t ht hW => ⟨1, rfl, hF, ht⟩) (fun _ h => nomatch h) dX6_isSetting_40
  · have hF := hF.trans (if_pos c_1)
    refine lv_iload_n hx hb dX6_isSetting_4 rfl (lv_at hl 1 rfl) ?_
    refine lv_i2l (v := p1.toInt64) hx hb dX6_isSetting_5 rfl ?_
    refine lv_ldc2 (v := 5) hx hb hown w_1 dX6_isSetting_6 ?_
    refine lv_ldc2 (v := 999) hx hb hown w_2 dX6_isSetting_9 ?_
    refine xs_calli (va_runS (As := [.long p1.toInt64, .long 5, .long 999]) (rest := []) ⟨hx, hb, hml, hown, hts⟩ (c_X6_in l D y s.heap.size p1.toInt64 5 999) (va_cwS 3 hts gX6_isSetting_X6_in rfl rfl rfl hd_X6_in ⟨Nat.le_of_ble_eq_true rfl, Nat.le_of_ble_eq_true rfl⟩) (gS hE hP hD) rfl rfl hl.1 rfl (lv_room (Nat.le_of_ble_eq_true rfl)) dX6_isSetting_12 ⟨Nat.le_of_ble_eq_true rfl, Nat.le_of_ble_eq_true rfl⟩) (fun v7 h6 => ?_)
    have hF := hF.trans (gLet_e h6)
    refine lv_if_ne (tgt := 35) hx hb dX6_isSetting_15 (by decide) (fun c_8 => ?_) (fun c_8 => ?_)
    · have hF := hF.trans (if_neg c_8)
      refine lv_iconst (v := 1) hx hb dX6_isSetting_35 (by decide) ?_
      refine lv_goto (tgt := 40) hx hb dX6_isSetting_36 (by decide) ?_
      exact W.zret (v := 1) hx hb hr rfl (fun t ht hW => ⟨1, rfl, hF, ht⟩) (fun _ h => nomatch h) dX6_isSetting_40
    · have hF := hF.trans (if_pos c_8)
      refine lv_iload_n hx hb dX6_isSetting_18 rfl (lv_at hl 0 rfl) ?_
      refine lv_iconst (v := 1) hx hb dX6_isSetting_19 (by decide) ?_
      refine lv_icmp_ne (tgt := 39) hx hb dX6_isSetting_20 (by decide) (fun c_9 => ?_) (fun c_9 => ?_)
      · have hF := hF.trans (if_neg c_9)
        refine lv_iconst (v := 0) hx hb dX6_isSetting_39 (by decide) ?_
        exact W.zret (v := 0) hx hb hr rfl (fun t ht hW => ⟨0, rfl, hF, ht⟩) (fun _ h => nomatch h) dX6_isSetting_40
      · have hF := hF.trans (if_pos c_9)
        refine lv_iload_n hx hb dX6_isSetting_23 rfl (lv_at hl 1 rfl) ?_
        refine lv_i2l (v := p1.toInt64) hx hb dX6_isSetting_24 rfl ?_
        refine lv_lconst (v := 1) hx hb dX6_isSetting_25 (by decide) ?_
        refine lv_ldc2 (v := 50) hx hb hown w_0 dX6_isSetting_26 ?_
        refine xs_calli (va_runS (As := [.long p1.toInt64, .long 1, .long 50]) (rest := []) ⟨hx, hb, hml, hown, hts⟩ (c_X6_in l D y s.heap.size p1.toInt64 1 50) (va_cwS 3 hts gX6_isSetting_X6_in rfl rfl rfl hd_X6_in ⟨Nat.le_of_ble_eq_true rfl, Nat.le_of_ble_eq_true rfl⟩) (gS hE hP hD) rfl rfl hl.1 rfl (lv_room (Nat.le_of_ble_eq_true rfl)) dX6_isSetting_29 ⟨Nat.le_of_ble_eq_true rfl, Nat.le_of_ble_eq_true rfl⟩) (fun v11 h10 => ?_)
        have hF := hF.trans (gLet_e h10)
        refine lv_if_eq (tgt := 39) hx hb dX6_isSetting_32 (by decide) (fun c_12 => ?_) (fun c_12 => ?_)
        · have hF := hF.trans (if_pos c_12)
          refine lv_iconst (v := 0) hx hb dX6_isSetting_39 (by decide) ?_
          exact W.zret (v := 0) hx hb hr rfl (fun t ht hW => ⟨0, rfl, hF, ht⟩) (fun _ h => nomatch h) dX6_isSetting_40
        · have hF := hF.trans (if_neg c_12)
          refine lv_iconst (v := 1) hx hb dX6_isSetting_35 (by decide) ?_
          refine lv_goto (tgt := 40) hx hb dX6_isSetting_36 (by decide) ?_
          exact W.zret (v := 1) hx hb hr rfl (fun t ht hW => ⟨1, rfl, hF, ht⟩) (fun _ h => nomatch h) dX6_isSetting_40

def f_X6_placeWith (r : gR) (p1 : Int32) (p2 : Int32) (p3 : Int32) : Int32 :=
    gLet ((((r 1) * p1) + p2) - (((r 1) * p1) + p2) / (r 0) * (r 0)) (fun (v1 : Int32) =>
    if p3 ≤ v1 then
      (v1 + 1)
    else
      v1)
theorem f_X6_placeWith_s (r : gR) (p1 : Int32) (p2 : Int32) (p3 : Int32) : f_X6_placeWith r p1 p2 p3 =
    (gLet ((((r 1) * p1) + p2) - (((r 1) * p1) + p2) / (r 0) * (r 0)) (fun (v1 : Int32) =>
    if p3 ≤ v1 then
      (v1 + 1)
    else
      v1)) := rfl
theorem okP_placeWith (r : gR) (l a b : Int32) (h0 : 1 ≤ (r 0).toInt) (h1 : (r 0).toInt ≤ 32) : okP (f_X6_placeWith r l a b) := by
  unfold f_X6_placeWith
  simp only [gLet]
  have h := irem_toInt (r 1 * l + a) (r 0) (by omega)
  generalize (r 1 * l + a) - (r 1 * l + a) / r 0 * r 0 = v at h
  obtain ⟨h4, h3⟩ := tmod_bounds (a := (r 1 * l + a).toInt) (M := (r 0).toInt) (by omega)
  have e1 : (1 : Int32).toInt = 1 := by decide
  split
  · refine ⟨?_, ?_⟩
    · rw [i_add (by omega) (by omega)]; omega
    · rw [i_add (by omega) (by omega)]; omega
  · exact ⟨by omega, by omega⟩
theorem hd_X6_placeWith : yX6_placeWith.cls ≠ "java/lang/invoke/MethodHandle" ∧ yX6_placeWith.cls ≠ "java/lang/invoke/VarHandle" ∧ (parseMethodDescriptor yX6_placeWith.desc).map (fun d => d.parameters.length) = some 4 := by decide +kernel
set_option maxHeartbeats 4000000 in
set_option maxRecDepth 100000 in
theorem c_X6_placeWith (l : Launch) (D : va_G) (y : Nat → ClassId) (a0 : Nat) (zh : Nat) (r : gR) (p1 : Int32) (p2 : Int32) (p3 : Int32) (hm : ¬ r 0 = 0) : Met l yX6_placeWith wsX6_placeWith ({ frames := 0, cells := 0, slots := 0, locals := 0 }) (gP D y [.ref a0, .int p1, .int p2, .int p3] zh [(a0, .inl (y 0, 78, .inl r))]) (vp_Si (fun v : Int32 => f_X6_placeWith r p1 p2 p3 = v)) 0 0 (fun _ => False) := by
  refine Met.ofW (cc := cX6_placeWith) (maxL := 5) (ret := (some .int)) (by decide) rfl ?_
  intro p e s m args below meth c s₁ B hml hv
  obtain ⟨rfl, hsz, hP, hE, hD⟩ := hv
  have hx := B.exec
  have hb := B.bytes
  have hr := B.returns
  have hts := atoms_spec (ws := wsX6_placeWith) B.pre
  have hown : s.vm.findClass RX6 = some m.cls := findClass_of_methodNamed B.named
  have hlocks := B.notSynchronized
  have hl := lv_entry ([.ref a0, .int p1, .int p2, .int p3]) (n := 5) (Nat.le_of_ble_eq_true rfl)
  rw [lg_entry_eq]
  generalize (lg_sl ([.ref a0, .int p1, .int p2, .int p3]) ++ List.replicate (5 - (lg_sl ([.ref a0, .int p1, .int p2, .int p3])).length) Slot.unset).toArray = ls at hl ⊢
  have hl : lv_has ls 5 [(0, .ref a0), (1, .int p1), (2, .int p2), (3, .int p3)] := hl
  have hF := f_X6_placeWith_s r p1 p2 p3
  refine lv_aload_n hx hb dX6_placeWith_0 rfl (lv_at hl 0 rfl) ?_
  refine lv_iconst (v := 1) hx hb dX6_placeWith_1 (by decide) ?_
  refine xa_iald (k := 1) (v := r 1) hx hb hE.1 hP 0 0 rfl rfl (xin (by decide)) rfl rfl dX6_placeWith_2 ?_
  refine lv_iload_n hx hb dX6_placeWith_3 rfl (lv_at hl 1 rfl) ?_
  refine lv_imul hx hb dX6_placeWith_4 ?_
  refine lv_iload_n hx hb dX6_placeWith_5 rfl (lv_at hl 2 rfl) ?_
  refine lv_iadd hx hb dX6_placeWith_6 ?_
  refine lv_aload_n hx hb dX6_placeWith_7 rfl (lv_at hl 0 rfl) ?_
  refine lv_iconst (v := 0) hx hb dX6_placeWith_8 (by decide) ?_
  refine xa_iald (k := 0) (v := r 0) hx hb hE.1 hP 0 0 rfl rfl (xin (by decide)) rfl rfl dX6_placeWith_9 ?_
  refine lv_irem hx hb dX6_placeWith_10 hm ?_
  obtain ⟨v1, ev1⟩ : ∃ z : Int32, (((r 1) * p1) + p2) - (((r 1) * p1) + p2) / (r 0) * (r 0) = z := ⟨_, rfl⟩
  rw [ev1]
  have hF := hF.trans (gLet_e ev1)
  refine lv_istore (lv' := [(4, .int v1), (0, .ref a0), (1, .int p1), (2, .int p2), (3, .int p3)]) hx hb dX6_placeWith_11 hl (by decide) rfl (fun ls hl => ?_)
  refine lv_iload hx hb dX6_placeWith_13 (lv_at hl 0 rfl) ?_
  refine lv_iload_n hx hb dX6_placeWith_15 rfl (lv_at hl 4 rfl) ?_
  refine lv_icmp_ge (tgt := 24) hx hb dX6_placeWith_16 (by decide) (fun c_2 => ?_) (fun c_2 => ?_)
  · have hF := hF.trans (if_pos c_2)
    refine lv_iload hx hb dX6_placeWith_24 (lv_at hl 0 rfl) ?_
    refine lv_iconst (v := 1) hx hb dX6_placeWith_26 (by decide) ?_
    refine lv_iadd hx hb dX6_placeWith_27 ?_
    exact W.iret (v := (v1 + 1)) hx hb hr (fun t ht hW => ⟨(v1 + 1), rfl, hF, ht⟩) (fun _ h => nomatch h) dX6_placeWith_28
  · have hF := hF.trans (if_neg c_2)
    refine lv_iload hx hb dX6_placeWith_19 (lv_at hl 0 rfl) ?_
    refine lv_goto (tgt := 28) hx hb dX6_placeWith_21 (by decide) ?_
    exact W.iret (v := v1) hx hb hr (fun t ht hW => ⟨v1, rfl, hF, ht⟩) (fun _ h => nomatch h) dX6_placeWith_28

def f_X6_placeOf (r : gR) (p1 : Int32) : Int32 :=
    gLet (f_X6_placeWith r p1 (r 2) (r 3)) (fun (v2 : Int32) =>
    v2)
theorem f_X6_placeOf_s (r : gR) (p1 : Int32) : f_X6_placeOf r p1 =
    (gLet (f_X6_placeWith r p1 (r 2) (r 3)) (fun (v2 : Int32) =>
    v2)) := rfl
theorem hd_X6_placeOf : yX6_placeOf.cls ≠ "java/lang/invoke/MethodHandle" ∧ yX6_placeOf.cls ≠ "java/lang/invoke/VarHandle" ∧ (parseMethodDescriptor yX6_placeOf.desc).map (fun d => d.parameters.length) = some 2 := by decide +kernel
set_option maxHeartbeats 4000000 in
set_option maxRecDepth 100000 in
theorem c_X6_placeOf (l : Launch) (D : va_G) (y : Nat → ClassId) (a0 : Nat) (zh : Nat) (r : gR) (p1 : Int32) (hm : ¬ r 0 = 0) : Met l yX6_placeOf wsX6_placeOf ({ frames := 1, cells := 0, slots := 0, locals := 24 }) (gP D y [.ref a0, .int p1] zh [(a0, .inl (y 0, 78, .inl r))]) (vp_Si (fun v : Int32 => f_X6_placeOf r p1 = v)) 0 0 (fun _ => False) := by
  refine Met.ofW (cc := cX6_placeOf) (maxL := 2) (ret := (some .int)) (by decide) rfl ?_
  intro p e s m args below meth c s₁ B hml hv
  obtain ⟨rfl, hsz, hP, hE, hD⟩ := hv
  have hx := B.exec
  have hb := B.bytes
  have hr := B.returns
  have hts := atoms_spec (ws := wsX6_placeOf) B.pre
  have hown : s.vm.findClass RX6 = some m.cls := findClass_of_methodNamed B.named
  have hlocks := B.notSynchronized
  have hl := lv_entry ([.ref a0, .int p1]) (n := 2) (Nat.le_of_ble_eq_true rfl)
  rw [lg_entry_eq]
  generalize (lg_sl ([.ref a0, .int p1]) ++ List.replicate (2 - (lg_sl ([.ref a0, .int p1])).length) Slot.unset).toArray = ls at hl ⊢
  have hl : lv_has ls 2 [(0, .ref a0), (1, .int p1)] := hl
  have hF := f_X6_placeOf_s r p1
  refine lv_aload_n hx hb dX6_placeOf_0 rfl (lv_at hl 0 rfl) ?_
  refine lv_iload_n hx hb dX6_placeOf_1 rfl (lv_at hl 1 rfl) ?_
  refine lv_aload_n hx hb dX6_placeOf_2 rfl (lv_at hl 0 rfl) ?_
  refine lv_iconst (v := 2) hx hb dX6_placeOf_3 (by decide) ?_
  refine xa_iald (k := 2) (v := r 2) hx hb hE.1 hP 0 0 rfl rfl (xin (by decide)) rfl rfl dX6_placeOf_4 ?_
  refine lv_aload_n hx hb dX6_placeOf_5 rfl (lv_at hl 0 rfl) ?_
  refine lv_iconst (v := 3) hx hb dX6_placeOf_6 (by decide) ?_
  refine xa_iald (k := 3) (v := r 3) hx hb hE.1 hP 0 0 rfl rfl (xin (by decide)) rfl rfl dX6_placeOf_7 ?_
  refine xs_calli (va_runS (As := [.ref a0, .int p1, .int (r 2), .int (r 3)]) (rest := []) ⟨hx, hb, hml, hown, hts⟩ (c_X6_placeWith l D y a0 s.heap.size r p1 (r 2) (r 3) hm) (va_cwS 4 hts gX6_placeOf_X6_placeWith rfl rfl rfl hd_X6_placeWith ⟨Nat.le_of_ble_eq_true rfl, Nat.le_of_ble_eq_true rfl⟩) (gS hE hP hD) rfl rfl hl.1 rfl (lv_room (Nat.le_of_ble_eq_true rfl)) dX6_placeOf_8 ⟨Nat.le_of_ble_eq_true rfl, Nat.le_of_ble_eq_true rfl⟩) (fun v2 h1 => ?_)
  have hF := hF.trans (gLet_e h1)
  exact W.iret (v := v2) hx hb hr (fun t ht hW => ⟨v2, rfl, hF, ht⟩) (fun _ h => nomatch h) dX6_placeOf_11

def f_X6_greatest_L4 (r : gR) : Nat → Int32 → Int32 → Int32
  | 0, _, _ => 0
  | n + 1, x1, x2 =>
    if (r 0) < x2 then
    x1
  else
    if (r ((45 + x2).toNatClampNeg)) ≤ x1 then
      f_X6_greatest_L4 r n x1 (x2 + 1)
    else
      f_X6_greatest_L4 r n (r ((45 + x2).toNatClampNeg)) (x2 + 1)
theorem f_X6_greatest_L4_s (r : gR) (n : Nat) (x1 : Int32) (x2 : Int32) : f_X6_greatest_L4 r (n + 1) x1 x2 =
    (if (r 0) < x2 then
    x1
  else
    if (r ((45 + x2).toNatClampNeg)) ≤ x1 then
      f_X6_greatest_L4 r n x1 (x2 + 1)
    else
      f_X6_greatest_L4 r n (r ((45 + x2).toNatClampNeg)) (x2 + 1)) := rfl
def f_X6_greatest (r : gR) : Int32 :=
    f_X6_greatest_L4 r (((r 0).toInt + 1 - (0 : Int32).toInt).toNat + 1) 0 0
theorem f_X6_greatest_s (r : gR) : f_X6_greatest r =
    (f_X6_greatest_L4 r (((r 0).toInt + 1 - (0 : Int32).toInt).toNat + 1) 0 0) := rfl
theorem hd_X6_greatest : yX6_greatest.cls ≠ "java/lang/invoke/MethodHandle" ∧ yX6_greatest.cls ≠ "java/lang/invoke/VarHandle" ∧ (parseMethodDescriptor yX6_greatest.desc).map (fun d => d.parameters.length) = some 1 := by decide +kernel
set_option maxHeartbeats 4000000 in
set_option maxRecDepth 100000 in
theorem c_X6_greatest (l : Launch) (D : va_G) (y : Nat → ClassId) (a0 : Nat) (zh : Nat) (r : gR) (hm : (r 0).toInt ≤ 32) : Met l yX6_greatest wsX6_greatest ({ frames := 0, cells := 0, slots := 0, locals := 0 }) (gP D y [.ref a0] zh [(a0, .inl (y 0, 78, .inl r))]) (vp_Si (fun v : Int32 => f_X6_greatest r = v)) 0 0 (fun _ => False) := by
  refine Met.ofW (cc := cX6_greatest) (maxL := 3) (ret := (some .int)) (by decide) rfl ?_
  intro p e s m args below meth c s₁ B hml hv
  obtain ⟨rfl, hsz, hP, hE, hD⟩ := hv
  have hx := B.exec
  have hb := B.bytes
  have hr := B.returns
  have hts := atoms_spec (ws := wsX6_greatest) B.pre
  have hown : s.vm.findClass RX6 = some m.cls := findClass_of_methodNamed B.named
  have hlocks := B.notSynchronized
  have hl := lv_entry ([.ref a0]) (n := 3) (Nat.le_of_ble_eq_true rfl)
  rw [lg_entry_eq]
  generalize (lg_sl ([.ref a0]) ++ List.replicate (3 - (lg_sl ([.ref a0])).length) Slot.unset).toArray = ls at hl ⊢
  have hl : lv_has ls 3 [(0, .ref a0)] := hl
  have loop_4 : ∀ (n : Nat) (x1 : Int32) (x2 : Int32) (hx2 : 0 ≤ x2.toInt), ((r 0).toInt + 1 - x2.toInt).toNat < n → f_X6_greatest r = f_X6_greatest_L4 r n x1 x2 → ∀ (ls : Array Slot), lv_has ls 3 [(0, .ref a0), (1, .int x1), (2, .int x2)] → W p l e (headSpec wsX6_greatest ({ frames := 0, cells := 0, slots := 0, locals := 0 })).room s m ([.ref a0] : List Value).toArray below meth c s.heap [] 0 0 (MQ below (vp_Si (fun v : Int32 => f_X6_greatest r = v)) ([.ref a0] : List Value).toArray s 0 0 (fun _ => False)) (F0 m 4 ls []) := by
    intro n
    induction n with
    | zero =>
      intro x1 x2 hx2 hμ
      exact absurd hμ (Nat.not_lt_zero _)
    | succ n ih =>
      intro x1 x2 hx2 hμ hF ls hl
      have hF := hF.trans (f_X6_greatest_L4_s r n x1 x2)
      refine lv_iload_n hx hb dX6_greatest_4 rfl (lv_at hl 2 rfl) ?_
      refine lv_aload_n hx hb dX6_greatest_5 rfl (lv_at hl 0 rfl) ?_
      refine lv_iconst (v := 0) hx hb dX6_greatest_6 (by decide) ?_
      refine xa_iald (k := 0) (v := r 0) hx hb hE.1 hP 0 0 rfl rfl (xin (by decide)) rfl rfl dX6_greatest_7 ?_
      refine lv_icmp_gt (tgt := 38) hx hb dX6_greatest_8 (by decide) (fun c_1 => ?_) (fun c_1 => ?_)
      · have hF := hF.trans (if_pos c_1)
        refine lv_iload_n hx hb dX6_greatest_38 rfl (lv_at hl 1 rfl) ?_
        exact W.iret (v := x1) hx hb hr (fun t ht hW => ⟨x1, rfl, hF, ht⟩) (fun _ h => nomatch h) dX6_greatest_39
      · have hF := hF.trans (if_neg c_1)
        refine lv_aload_n hx hb dX6_greatest_11 rfl (lv_at hl 0 rfl) ?_
        refine lv_bipush (v := 45) hx hb dX6_greatest_12 (by decide) ?_
        refine lv_iload_n hx hb dX6_greatest_14 rfl (lv_at hl 2 rfl) ?_
        refine lv_iadd hx hb dX6_greatest_15 ?_
        refine xa_iald (k := (45 + x2).toNatClampNeg) (v := r ((45 + x2).toNatClampNeg)) hx hb hE.1 hP 0 0 rfl rfl (in45 (okP_le hx2 (by assumption) hm)) rfl rfl dX6_greatest_16 ?_
        refine lv_iload_n hx hb dX6_greatest_17 rfl (lv_at hl 1 rfl) ?_
        refine lv_icmp_le (tgt := 30) hx hb dX6_greatest_18 (by decide) (fun c_2 => ?_) (fun c_2 => ?_)
        · have hF := hF.trans (if_pos c_2)
          refine lv_iload_n hx hb dX6_greatest_30 rfl (lv_at hl 1 rfl) ?_
          refine lv_istore_n (lv' := [(1, .int x1), (0, .ref a0), (2, .int x2)]) hx hb dX6_greatest_31 rfl hl (by decide) rfl (fun ls hl => ?_)
          refine lv_iinc (v := (x2 + 1)) (lv' := [(2, .int (x2 + 1)), (1, .int x1), (0, .ref a0)]) hx hb dX6_greatest_32 hl (k := 2) rfl rfl (by decide) rfl (fun ls hl => ?_)
          refine lv_goto (tgt := 4) hx hb dX6_greatest_35 (by decide) ?_
          exact ih x1 (x2 + 1) (up_nn (by assumption) hm hx2) (lp_le (by assumption) hm hμ) hF ls (lv_sub hl [2, 1, 0] rfl)
        · have hF := hF.trans (if_neg c_2)
          refine lv_aload_n hx hb dX6_greatest_21 rfl (lv_at hl 0 rfl) ?_
          refine lv_bipush (v := 45) hx hb dX6_greatest_22 (by decide) ?_
          refine lv_iload_n hx hb dX6_greatest_24 rfl (lv_at hl 2 rfl) ?_
          refine lv_iadd hx hb dX6_greatest_25 ?_
          refine xa_iald (k := (45 + x2).toNatClampNeg) (v := r ((45 + x2).toNatClampNeg)) hx hb hE.1 hP 0 0 rfl rfl (in45 (okP_le hx2 (by assumption) hm)) rfl rfl dX6_greatest_26 ?_
          refine lv_goto (tgt := 31) hx hb dX6_greatest_27 (by decide) ?_
          refine lv_istore_n (lv' := [(1, .int (r ((45 + x2).toNatClampNeg))), (0, .ref a0), (2, .int x2)]) hx hb dX6_greatest_31 rfl hl (by decide) rfl (fun ls hl => ?_)
          refine lv_iinc (v := (x2 + 1)) (lv' := [(2, .int (x2 + 1)), (1, .int (r ((45 + x2).toNatClampNeg))), (0, .ref a0)]) hx hb dX6_greatest_32 hl (k := 2) rfl rfl (by decide) rfl (fun ls hl => ?_)
          refine lv_goto (tgt := 4) hx hb dX6_greatest_35 (by decide) ?_
          exact ih (r ((45 + x2).toNatClampNeg)) (x2 + 1) (up_nn (by assumption) hm hx2) (lp_le (by assumption) hm hμ) hF ls (lv_sub hl [2, 1, 0] rfl)
  have hF := f_X6_greatest_s r
  refine lv_iconst (v := 0) hx hb dX6_greatest_0 (by decide) ?_
  refine lv_istore_n (lv' := [(1, .int 0), (0, .ref a0)]) hx hb dX6_greatest_1 rfl hl (by decide) rfl (fun ls hl => ?_)
  refine lv_iconst (v := 0) hx hb dX6_greatest_2 (by decide) ?_
  refine lv_istore_n (lv' := [(2, .int 0), (1, .int 0), (0, .ref a0)]) hx hb dX6_greatest_3 rfl hl (by decide) rfl (fun ls hl => ?_)
  exact loop_4 _ 0 0 (by decide) (Nat.lt_succ_self _) hF ls (lv_sub hl [2, 1, 0] rfl)

def f_X6_least_L7 (r : gR) : Nat → Int32 → Int32 → Int32
  | 0, _, _ => 0
  | n + 1, x1, x2 =>
    if (r 0) < x2 then
    x1
  else
    if x1 ≤ (r ((45 + x2).toNatClampNeg)) then
      f_X6_least_L7 r n x1 (x2 + 1)
    else
      f_X6_least_L7 r n (r ((45 + x2).toNatClampNeg)) (x2 + 1)
theorem f_X6_least_L7_s (r : gR) (n : Nat) (x1 : Int32) (x2 : Int32) : f_X6_least_L7 r (n + 1) x1 x2 =
    (if (r 0) < x2 then
    x1
  else
    if x1 ≤ (r ((45 + x2).toNatClampNeg)) then
      f_X6_least_L7 r n x1 (x2 + 1)
    else
      f_X6_least_L7 r n (r ((45 + x2).toNatClampNeg)) (x2 + 1)) := rfl
def f_X6_least (r : gR) : Int32 :=
    f_X6_least_L7 r (((r 0).toInt + 1 - (0 : Int32).toInt).toNat + 1) (r 45) 0
theorem f_X6_least_s (r : gR) : f_X6_least r =
    (f_X6_least_L7 r (((r 0).toInt + 1 - (0 : Int32).toInt).toNat + 1) (r 45) 0) := rfl
theorem hd_X6_least : yX6_least.cls ≠ "java/lang/invoke/MethodHandle" ∧ yX6_least.cls ≠ "java/lang/invoke/VarHandle" ∧ (parseMethodDescriptor yX6_least.desc).map (fun d => d.parameters.length) = some 1 := by decide +kernel
set_option maxHeartbeats 4000000 in
set_option maxRecDepth 100000 in
theorem c_X6_least (l : Launch) (D : va_G) (y : Nat → ClassId) (a0 : Nat) (zh : Nat) (r : gR) (hm : (r 0).toInt ≤ 32) : Met l yX6_least wsX6_least ({ frames := 0, cells := 0, slots := 0, locals := 0 }) (gP D y [.ref a0] zh [(a0, .inl (y 0, 78, .inl r))]) (vp_Si (fun v : Int32 => f_X6_least r = v)) 0 0 (fun _ => False) := by
  refine Met.ofW (cc := cX6_least) (maxL := 3) (ret := (some .int)) (by decide) rfl ?_
  intro p e s m args below meth c s₁ B hml hv
  obtain ⟨rfl, hsz, hP, hE, hD⟩ := hv
  have hx := B.exec
  have hb := B.bytes
  have hr := B.returns
  have hts := atoms_spec (ws := wsX6_least) B.pre
  have hown : s.vm.findClass RX6 = some m.cls := findClass_of_methodNamed B.named
  have hlocks := B.notSynchronized
  have hl := lv_entry ([.ref a0]) (n := 3) (Nat.le_of_ble_eq_true rfl)
  rw [lg_entry_eq]
  generalize (lg_sl ([.ref a0]) ++ List.replicate (3 - (lg_sl ([.ref a0])).length) Slot.unset).toArray = ls at hl ⊢
  have hl : lv_has ls 3 [(0, .ref a0)] := hl
  have loop_7 : ∀ (n : Nat) (x1 : Int32) (x2 : Int32) (hx2 : 0 ≤ x2.toInt), ((r 0).toInt + 1 - x2.toInt).toNat < n → f_X6_least r = f_X6_least_L7 r n x1 x2 → ∀ (ls : Array Slot), lv_has ls 3 [(0, .ref a0), (1, .int x1), (2, .int x2)] → W p l e (headSpec wsX6_least ({ frames := 0, cells := 0, slots := 0, locals := 0 })).room s m ([.ref a0] : List Value).toArray below meth c s.heap [] 0 0 (MQ below (vp_Si (fun v : Int32 => f_X6_least r = v)) ([.ref a0] : List Value).toArray s 0 0 (fun _ => False)) (F0 m 7 ls []) := by
    intro n
    induction n with
    | zero =>
      intro x1 x2 hx2 hμ
      exact absurd hμ (Nat.not_lt_zero _)
    | succ n ih =>
      intro x1 x2 hx2 hμ hF ls hl
      have hF := hF.trans (f_X6_least_L7_s r n x1 x2)
      refine lv_iload_n hx hb dX6_least_7 rfl (lv_at hl 2 rfl) ?_
      refine lv_aload_n hx hb dX6_least_8 rfl (lv_at hl 0 rfl) ?_
      refine lv_iconst (v := 0) hx hb dX6_least_9 (by decide) ?_
      refine xa_iald (k := 0) (v := r 0) hx hb hE.1 hP 0 0 rfl rfl (xin (by decide)) rfl rfl dX6_least_10 ?_
      refine lv_icmp_gt (tgt := 41) hx hb dX6_least_11 (by decide) (fun c_1 => ?_) (fun c_1 => ?_)
      · have hF := hF.trans (if_pos c_1)
        refine lv_iload_n hx hb dX6_least_41 rfl (lv_at hl 1 rfl) ?_
        exact W.iret (v := x1) hx hb hr (fun t ht hW => ⟨x1, rfl, hF, ht⟩) (fun _ h => nomatch h) dX6_least_42
      · have hF := hF.trans (if_neg c_1)
        refine lv_aload_n hx hb dX6_least_14 rfl (lv_at hl 0 rfl) ?_
        refine lv_bipush (v := 45) hx hb dX6_least_15 (by decide) ?_
        refine lv_iload_n hx hb dX6_least_17 rfl (lv_at hl 2 rfl) ?_
        refine lv_iadd hx hb dX6_least_18 ?_
        refine xa_iald (k := (45 + x2).toNatClampNeg) (v := r ((45 + x2).toNatClampNeg)) hx hb hE.1 hP 0 0 rfl rfl (in45 (okP_le hx2 (by assumption) hm)) rfl rfl dX6_least_19 ?_
        refine lv_iload_n hx hb dX6_least_20 rfl (lv_at hl 1 rfl) ?_
        refine lv_icmp_ge (tgt := 33) hx hb dX6_least_21 (by decide) (fun c_2 => ?_) (fun c_2 => ?_)
        · have hF := hF.trans (if_pos c_2)
          refine lv_iload_n hx hb dX6_least_33 rfl (lv_at hl 1 rfl) ?_
          refine lv_istore_n (lv' := [(1, .int x1), (0, .ref a0), (2, .int x2)]) hx hb dX6_least_34 rfl hl (by decide) rfl (fun ls hl => ?_)
          refine lv_iinc (v := (x2 + 1)) (lv' := [(2, .int (x2 + 1)), (1, .int x1), (0, .ref a0)]) hx hb dX6_least_35 hl (k := 2) rfl rfl (by decide) rfl (fun ls hl => ?_)
          refine lv_goto (tgt := 7) hx hb dX6_least_38 (by decide) ?_
          exact ih x1 (x2 + 1) (up_nn (by assumption) hm hx2) (lp_le (by assumption) hm hμ) hF ls (lv_sub hl [2, 1, 0] rfl)
        · have hF := hF.trans (if_neg c_2)
          refine lv_aload_n hx hb dX6_least_24 rfl (lv_at hl 0 rfl) ?_
          refine lv_bipush (v := 45) hx hb dX6_least_25 (by decide) ?_
          refine lv_iload_n hx hb dX6_least_27 rfl (lv_at hl 2 rfl) ?_
          refine lv_iadd hx hb dX6_least_28 ?_
          refine xa_iald (k := (45 + x2).toNatClampNeg) (v := r ((45 + x2).toNatClampNeg)) hx hb hE.1 hP 0 0 rfl rfl (in45 (okP_le hx2 (by assumption) hm)) rfl rfl dX6_least_29 ?_
          refine lv_goto (tgt := 34) hx hb dX6_least_30 (by decide) ?_
          refine lv_istore_n (lv' := [(1, .int (r ((45 + x2).toNatClampNeg))), (0, .ref a0), (2, .int x2)]) hx hb dX6_least_34 rfl hl (by decide) rfl (fun ls hl => ?_)
          refine lv_iinc (v := (x2 + 1)) (lv' := [(2, .int (x2 + 1)), (1, .int (r ((45 + x2).toNatClampNeg))), (0, .ref a0)]) hx hb dX6_least_35 hl (k := 2) rfl rfl (by decide) rfl (fun ls hl => ?_)
          refine lv_goto (tgt := 7) hx hb dX6_least_38 (by decide) ?_
          exact ih (r ((45 + x2).toNatClampNeg)) (x2 + 1) (up_nn (by assumption) hm hx2) (lp_le (by assumption) hm hμ) hF ls (lv_sub hl [2, 1, 0] rfl)
  have hF := f_X6_least_s r
  refine lv_aload_n hx hb dX6_least_0 rfl (lv_at hl 0 rfl) ?_
  refine lv_bipush (v := 45) hx hb dX6_least_1 (by decide) ?_
  refine xa_iald (k := 45) (v := r 45) hx hb hE.1 hP 0 0 rfl rfl (xin (by decide)) rfl rfl dX6_least_3 ?_
  refine lv_istore_n (lv' := [(1, .int (r 45)), (0, .ref a0)]) hx hb dX6_least_4 rfl hl (by decide) rfl (fun ls hl => ?_)
  refine lv_iconst (v := 0) hx hb dX6_least_5 (by decide) ?_
  refine lv_istore_n (lv' := [(2, .int 0), (1, .int (r 45)), (0, .ref a0)]) hx hb dX6_least_6 rfl hl (by decide) rfl (fun ls hl => ?_)
  exact loop_7 _ (r 45) 0 (by decide) (Nat.lt_succ_self _) hF ls (lv_sub hl [2, 1, 0] rfl)

def f_X6_canWrite (r : gR) (p1 : Int32) : Int32 :=
    gLet (f_X6_isLine r p1) (fun (v2 : Int32) =>
    if v2 = 0 then
      0
    else
      if (r 8) = 0 then
        1
      else
        0)
theorem f_X6_canWrite_s (r : gR) (p1 : Int32) : f_X6_canWrite r p1 =
    (gLet (f_X6_isLine r p1) (fun (v2 : Int32) =>
    if v2 = 0 then
      0
    else
      if (r 8) = 0 then
        1
      else
        0)) := rfl
theorem bo_X6_canWrite (r : gR) (p1 : Int32) : (f_X6_canWrite r p1) = 0 ∨ (f_X6_canWrite r p1) = 1 := by
  unfold f_X6_canWrite
  refine gLet_i (P := fun z : Int32 => z = 0 ∨ z = 1) (fun v2 ev2 => ?_)
  refine gIf_i (P := fun z : Int32 => z = 0 ∨ z = 1) (fun _ => ?_) (fun _ => ?_)
  · exact Or.inl rfl
  · refine gIf_i (P := fun z : Int32 => z = 0 ∨ z = 1) (fun _ => ?_) (fun _ => ?_)
    · exact Or.inr rfl
    · exact Or.inl rfl
theorem hd_X6_canWrite : yX6_canWrite.cls ≠ "java/lang/invoke/MethodHandle" ∧ yX6_canWrite.cls ≠ "java/lang/invoke/VarHandle" ∧ (parseMethodDescriptor yX6_canWrite.desc).map (fun d => d.parameters.length) = some 2 := by decide +kernel
set_option maxHeartbeats 4000000 in
set_option maxRecDepth 100000 in
theorem c_X6_canWrite (l : Launch) (D : va_G) (y : Nat → ClassId) (a0 : Nat) (zh : Nat) (r : gR) (p1 : Int32) : Met l yX6_canWrite wsX6_canWrite ({ frames := 2, cells := 0, slots := 0, locals := 46 }) (gP D y [.ref a0, .int p1] zh [(a0, .inl (y 0, 78, .inl r))]) (vp_Si (fun v : Int32 => f_X6_canWrite r p1 = v)) 0 0 (fun _ => False) := by
  refine Met.ofW (cc := cX6_canWrite) (maxL := 2) (ret := (some .boolean)) (by decide) rfl ?_
  intro p e s m args below meth c s₁ B hml hv
  obtain ⟨rfl, hsz, hP, hE, hD⟩ := hv
  have hx := B.exec
  have hb := B.bytes
  have hr := B.returns
  have hts := atoms_spec (ws := wsX6_canWrite) B.pre
  have hown : s.vm.findClass RX6 = some m.cls := findClass_of_methodNamed B.named
  have hlocks := B.notSynchronized
  have hl := lv_entry ([.ref a0, .int p1]) (n := 2) (Nat.le_of_ble_eq_true rfl)
  rw [lg_entry_eq]
  generalize (lg_sl ([.ref a0, .int p1]) ++ List.replicate (2 - (lg_sl ([.ref a0, .int p1])).length) Slot.unset).toArray = ls at hl ⊢
  have hl : lv_has ls 2 [(0, .ref a0), (1, .int p1)] := hl
  have hF := f_X6_canWrite_s r p1
  refine lv_aload_n hx hb dX6_canWrite_0 rfl (lv_at hl 0 rfl) ?_
  refine lv_iload_n hx hb dX6_canWrite_1 rfl (lv_at hl 1 rfl) ?_
  refine xs_calli (va_runS (As := [.ref a0, .int p1]) (rest := []) ⟨hx, hb, hml, hown, hts⟩ (c_X6_isLine l D y a0 s.heap.size r p1) (va_cwS 2 hts gX6_canWrite_X6_isLine rfl rfl rfl hd_X6_isLine ⟨Nat.le_of_ble_eq_true rfl, Nat.le_of_ble_eq_true rfl⟩) (gS hE hP hD) rfl rfl hl.1 rfl (lv_room (Nat.le_of_ble_eq_true rfl)) dX6_canWrite_2 ⟨Nat.le_of_ble_eq_true rfl, Nat.le_of_ble_eq_true rfl⟩) (fun v2 h1 => ?_)
  have hF := hF.trans (gLet_e h1)
  refine lv_if_eq (tgt := 19) hx hb dX6_canWrite_5 (by decide) (fun c_3 => ?_) (fun c_3 => ?_)
  · have hF := hF.trans (if_pos c_3)
    refine lv_iconst (v := 0) hx hb dX6_canWrite_19 (by decide) ?_
    exact W.zret (v := 0) hx hb hr rfl (fun t ht hW => ⟨0, rfl, hF, ht⟩) (fun _ h => nomatch h) dX6_canWrite_20
  · have hF := hF.trans (if_neg c_3)
    refine lv_aload_n hx hb dX6_canWrite_8 rfl (lv_at hl 0 rfl) ?_
    refine lv_bipush (v := 8) hx hb dX6_canWrite_9 (by decide) ?_
    refine xa_iald (k := 8) (v := r 8) hx hb hE.1 hP 0 0 rfl rfl (xin (by decide)) rfl rfl dX6_canWrite_11 ?_
    refine lv_if_ne (tgt := 19) hx hb dX6_canWrite_12 (by decide) (fun c_4 => ?_) (fun c_4 => ?_)
    · have hF := hF.trans (if_neg c_4)
      refine lv_iconst (v := 0) hx hb dX6_canWrite_19 (by decide) ?_
      exact W.zret (v := 0) hx hb hr rfl (fun t ht hW => ⟨0, rfl, hF, ht⟩) (fun _ h => nomatch h) dX6_canWrite_20
    · have hF := hF.trans (if_pos c_4)
      refine lv_iconst (v := 1) hx hb dX6_canWrite_15 (by decide) ?_
      refine lv_goto (tgt := 20) hx hb dX6_canWrite_16 (by decide) ?_
      exact W.zret (v := 1) hx hb hr rfl (fun t ht hW => ⟨1, rfl, hF, ht⟩) (fun _ h => nomatch h) dX6_canWrite_20

def f_X6_layAt (r : gR) (p1 : Int32) : gR :=
    gLet (upd r ((45 + p1).toNatClampNeg) ((r ((45 + p1).toNatClampNeg)) + 1)) (fun (r1 : Nat → Int32) =>
    gLet (upd r1 10 ((r1 10) + 1)) (fun (r2 : Nat → Int32) =>
      if (r2 ((45 + p1).toNatClampNeg)) < (r2 11) then
        r2
      else
        if (r2 4) ≤ 0 then
          gLet (upd r2 8 1) (fun (r5 : Nat → Int32) =>
            r5)
        else
          gLet (upd r2 4 ((r2 4) - 1)) (fun (r6 : Nat → Int32) =>
            gLet (upd r6 9 ((r6 9) + 1)) (fun (r7 : Nat → Int32) =>
              gLet (upd r7 ((45 + p1).toNatClampNeg) 1) (fun (r8 : Nat → Int32) =>
                gLet (upd r8 10 ((r8 10) + 1)) (fun (r9 : Nat → Int32) =>
                  r9))))))
theorem f_X6_layAt_s (r : gR) (p1 : Int32) : f_X6_layAt r p1 =
    (gLet (upd r ((45 + p1).toNatClampNeg) ((r ((45 + p1).toNatClampNeg)) + 1)) (fun (r1 : Nat → Int32) =>
    gLet (upd r1 10 ((r1 10) + 1)) (fun (r2 : Nat → Int32) =>
      if (r2 ((45 + p1).toNatClampNeg)) < (r2 11) then
        r2
      else
        if (r2 4) ≤ 0 then
          gLet (upd r2 8 1) (fun (r5 : Nat → Int32) =>
            r5)
        else
          gLet (upd r2 4 ((r2 4) - 1)) (fun (r6 : Nat → Int32) =>
            gLet (upd r6 9 ((r6 9) + 1)) (fun (r7 : Nat → Int32) =>
              gLet (upd r7 ((45 + p1).toNatClampNeg) 1) (fun (r8 : Nat → Int32) =>
                gLet (upd r8 10 ((r8 10) + 1)) (fun (r9 : Nat → Int32) =>
                  r9))))))) := rfl
theorem okM_X6_layAt (r : gR) (p1 : Int32) (hp : okP p1) (h : okM r) : okM (f_X6_layAt r p1) := by
  have q := ne45 hp
  unfold f_X6_layAt
  simp only [gLet]
  repeat' split
  all_goals (repeat first | assumption | refine okM_upd (by omega) ?_)
theorem z_X6_layAt (r : gR) (p1 : Int32) (hp : okP p1) : f_X6_layAt r p1 0 = r 0 := by
  have q := ne45 hp
  unfold f_X6_layAt
  simp only [gLet]
  repeat' split
  all_goals (repeat first | rfl | rw [upd_ne (by omega)])
theorem hd_X6_layAt : yX6_layAt.cls ≠ "java/lang/invoke/MethodHandle" ∧ yX6_layAt.cls ≠ "java/lang/invoke/VarHandle" ∧ (parseMethodDescriptor yX6_layAt.desc).map (fun d => d.parameters.length) = some 2 := by decide +kernel
set_option maxHeartbeats 4000000 in
set_option maxRecDepth 100000 in
theorem c_X6_layAt (l : Launch) (D : va_G) (y : Nat → ClassId) (a0 : Nat) (zh : Nat) (r : gR) (p1 : Int32) (hp : okP p1) : Met l yX6_layAt wsX6_layAt ({ frames := 0, cells := 0, slots := 0, locals := 0 }) (gP D y [.ref a0, .int p1] zh [(a0, .inl (y 0, 78, .inl r))]) (va_Qv (fun u : gR => f_X6_layAt r p1 = u) (fun (u : gR) t => va_P D vwCl [(a0, .inl (y 0, 78, .inl u))] t.heap ∧ va_D (va_A [(a0, .inl (y 0, 78, .inl r))] zh) [(a0, .inl (y 0, 78, .inl u))]) (va_A [(a0, .inl (y 0, 78, .inl r))] zh)) 0 0 (va_A [(a0, .inl (y 0, 78, .inl r))] zh) := by
  refine Met.ofW (cc := cX6_layAt) (maxL := 2) (ret := none) (by decide) rfl ?_
  intro p e s m args below meth c s₁ B hml hv
  obtain ⟨rfl, hsz, hP, hE, hD⟩ := hv
  have hx := B.exec
  have hb := B.bytes
  have hr := B.returns
  have hts := atoms_spec (ws := wsX6_layAt) B.pre
  have hown : s.vm.findClass RX6 = some m.cls := findClass_of_methodNamed B.named
  have hlocks := B.notSynchronized
  subst hsz
  have hD := hD.self (sz := s.heap.size)
  generalize hAe : va_A [(a0, .inl (y 0, 78, .inl r))] s.heap.size = A at hD ⊢
  have hA : ∀ q : Nat, s.heap.size ≤ q → A q := fun q h => by rw [← hAe]; exact Or.inr h
  have hS : va_S A s.heap s.heap [] := va_S.rf
  have hl := lv_entry ([.ref a0, .int p1]) (n := 2) (Nat.le_of_ble_eq_true rfl)
  rw [lg_entry_eq]
  generalize (lg_sl ([.ref a0, .int p1]) ++ List.replicate (2 - (lg_sl ([.ref a0, .int p1])).length) Slot.unset).toArray = ls at hl ⊢
  have hl : lv_has ls 2 [(0, .ref a0), (1, .int p1)] := hl
  have hF := f_X6_layAt_s r p1
  refine lv_aload_n hx hb dX6_layAt_0 rfl (lv_at hl 0 rfl) ?_
  refine lv_bipush (v := 45) hx hb dX6_layAt_1 (by decide) ?_
  refine lv_iload_n hx hb dX6_layAt_3 rfl (lv_at hl 1 rfl) ?_
  refine lv_iadd hx hb dX6_layAt_4 ?_
  refine lv_dup2_11 hx hb dX6_layAt_5 rfl rfl ?_
  refine xa_iald (k := (45 + p1).toNatClampNeg) (v := r ((45 + p1).toNatClampNeg)) hx hb hE.1 hP 0 0 rfl rfl (in45 hp) rfl rfl dX6_layAt_6 ?_
  refine lv_iconst (v := 1) hx hb dX6_layAt_7 (by decide) ?_
  refine lv_iadd hx hb dX6_layAt_8 ?_
  refine xa_iast (k := (45 + p1).toNatClampNeg) hx hb hE.1 hP hD hS 0 0 rfl rfl (in45 hp) rfl dX6_layAt_9 (fun H locs hP hD hS => ?_)
  obtain ⟨r1, er1⟩ : ∃ z : Nat → Int32, upd r ((45 + p1).toNatClampNeg) ((r ((45 + p1).toNatClampNeg)) + 1) = z := ⟨_, rfl⟩
  have hF := hF.trans (gLet_e er1)
  rw [er1] at hP hD
  have hP : va_P D vwCl [(a0, .inl (y 0, 78, .inl r1))] H := hP
  have hD : va_D A [(a0, .inl (y 0, 78, .inl r1))] := hD
  refine lv_aload_n hx hb dX6_layAt_10 rfl (lv_at hl 0 rfl) ?_
  refine lv_bipush (v := 10) hx hb dX6_layAt_11 (by decide) ?_
  refine lv_dup2_11 hx hb dX6_layAt_13 rfl rfl ?_
  refine xa_iald (k := 10) (v := r1 10) hx hb hE.1 hP 0 0 rfl rfl (xin (by decide)) rfl rfl dX6_layAt_14 ?_
  refine lv_iconst (v := 1) hx hb dX6_layAt_15 (by decide) ?_
  refine lv_iadd hx hb dX6_layAt_16 ?_
  refine xa_iast (k := 10) hx hb hE.1 hP hD hS 0 0 rfl rfl (xin (by decide)) rfl dX6_layAt_17 (fun H locs hP hD hS => ?_)
  obtain ⟨r2, er2⟩ : ∃ z : Nat → Int32, upd r1 10 ((r1 10) + 1) = z := ⟨_, rfl⟩
  have hF := hF.trans (gLet_e er2)
  rw [er2] at hP hD
  have hP : va_P D vwCl [(a0, .inl (y 0, 78, .inl r2))] H := hP
  have hD : va_D A [(a0, .inl (y 0, 78, .inl r2))] := hD
  refine lv_aload_n hx hb dX6_layAt_18 rfl (lv_at hl 0 rfl) ?_
  refine lv_bipush (v := 45) hx hb dX6_layAt_19 (by decide) ?_
  refine lv_iload_n hx hb dX6_layAt_21 rfl (lv_at hl 1 rfl) ?_
  refine lv_iadd hx hb dX6_layAt_22 ?_
  refine xa_iald (k := (45 + p1).toNatClampNeg) (v := r2 ((45 + p1).toNatClampNeg)) hx hb hE.1 hP 0 0 rfl rfl (in45 hp) rfl rfl dX6_layAt_23 ?_
  refine lv_aload_n hx hb dX6_layAt_24 rfl (lv_at hl 0 rfl) ?_
  refine lv_bipush (v := 11) hx hb dX6_layAt_25 (by decide) ?_
  refine xa_iald (k := 11) (v := r2 11) hx hb hE.1 hP 0 0 rfl rfl (xin (by decide)) rfl rfl dX6_layAt_27 ?_
  refine lv_icmp_lt (tgt := 75) hx hb dX6_layAt_28 (by decide) (fun c_3 => ?_) (fun c_3 => ?_)
  · have hF := hF.trans (if_pos c_3)
    exact W.vret hx hb hr (fun t ht hW => ⟨⟨r2, rfl, hF, ⟨by rw [ht]; exact hP, hD⟩⟩, hS.F ht⟩) hS.2.2 dX6_layAt_75
  · have hF := hF.trans (if_neg c_3)
    refine lv_aload_n hx hb dX6_layAt_31 rfl (lv_at hl 0 rfl) ?_
    refine lv_iconst (v := 4) hx hb dX6_layAt_32 (by decide) ?_
    refine xa_iald (k := 4) (v := r2 4) hx hb hE.1 hP 0 0 rfl rfl (xin (by decide)) rfl rfl dX6_layAt_33 ?_
    refine lv_if_le (tgt := 70) hx hb dX6_layAt_34 (by decide) (fun c_4 => ?_) (fun c_4 => ?_)
    · have hF := hF.trans (if_pos c_4)
      refine lv_aload_n hx hb dX6_layAt_70 rfl (lv_at hl 0 rfl) ?_
      refine lv_bipush (v := 8) hx hb dX6_layAt_71 (by decide) ?_
      refine lv_iconst (v := 1) hx hb dX6_layAt_73 (by decide) ?_
      refine xa_iast (k := 8) hx hb hE.1 hP hD hS 0 0 rfl rfl (xin (by decide)) rfl dX6_layAt_74 (fun H locs hP hD hS => ?_)
      obtain ⟨r5, er5⟩ : ∃ z : Nat → Int32, upd r2 8 1 = z := ⟨_, rfl⟩
      have hF := hF.trans (gLet_e er5)
      rw [er5] at hP hD
      have hP : va_P D vwCl [(a0, .inl (y 0, 78, .inl r5))] H := hP
      have hD : va_D A [(a0, .inl (y 0, 78, .inl r5))] := hD
      exact W.vret hx hb hr (fun t ht hW => ⟨⟨r5, rfl, hF, ⟨by rw [ht]; exact hP, hD⟩⟩, hS.F ht⟩) hS.2.2 dX6_layAt_75
    · have hF := hF.trans (if_neg c_4)
      refine lv_aload_n hx hb dX6_layAt_37 rfl (lv_at hl 0 rfl) ?_
      refine lv_iconst (v := 4) hx hb dX6_layAt_38 (by decide) ?_
      refine lv_dup2_11 hx hb dX6_layAt_39 rfl rfl ?_
      refine xa_iald (k := 4) (v := r2 4) hx hb hE.1 hP 0 0 rfl rfl (xin (by decide)) rfl rfl dX6_layAt_40 ?_
      refine lv_iconst (v := 1) hx hb dX6_layAt_41 (by decide) ?_
      refine lv_isub hx hb dX6_layAt_42 ?_
      refine xa_iast (k := 4) hx hb hE.1 hP hD hS 0 0 rfl rfl (xin (by decide)) rfl dX6_layAt_43 (fun H locs hP hD hS => ?_)
      obtain ⟨r6, er6⟩ : ∃ z : Nat → Int32, upd r2 4 ((r2 4) - 1) = z := ⟨_, rfl⟩
      have hF := hF.trans (gLet_e er6)
      rw [er6] at hP hD
      have hP : va_P D vwCl [(a0, .inl (y 0, 78, .inl r6))] H := hP
      have hD : va_D A [(a0, .inl (y 0, 78, .inl r6))] := hD
      refine lv_aload_n hx hb dX6_layAt_44 rfl (lv_at hl 0 rfl) ?_
      refine lv_bipush (v := 9) hx hb dX6_layAt_45 (by decide) ?_
      refine lv_dup2_11 hx hb dX6_layAt_47 rfl rfl ?_
      refine xa_iald (k := 9) (v := r6 9) hx hb hE.1 hP 0 0 rfl rfl (xin (by decide)) rfl rfl dX6_layAt_48 ?_
      refine lv_iconst (v := 1) hx hb dX6_layAt_49 (by decide) ?_
      refine lv_iadd hx hb dX6_layAt_50 ?_
      refine xa_iast (k := 9) hx hb hE.1 hP hD hS 0 0 rfl rfl (xin (by decide)) rfl dX6_layAt_51 (fun H locs hP hD hS => ?_)
      obtain ⟨r7, er7⟩ : ∃ z : Nat → Int32, upd r6 9 ((r6 9) + 1) = z := ⟨_, rfl⟩
      have hF := hF.trans (gLet_e er7)
      rw [er7] at hP hD
      have hP : va_P D vwCl [(a0, .inl (y 0, 78, .inl r7))] H := hP
      have hD : va_D A [(a0, .inl (y 0, 78, .inl r7))] := hD
      refine lv_aload_n hx hb dX6_layAt_52 rfl (lv_at hl 0 rfl) ?_
      refine lv_bipush (v := 45) hx hb dX6_layAt_53 (by decide) ?_
      refine lv_iload_n hx hb dX6_layAt_55 rfl (lv_at hl 1 rfl) ?_
      refine lv_iadd hx hb dX6_layAt_56 ?_
      refine lv_iconst (v := 1) hx hb dX6_layAt_57 (by decide) ?_
      refine xa_iast (k := (45 + p1).toNatClampNeg) hx hb hE.1 hP hD hS 0 0 rfl rfl (in45 hp) rfl dX6_layAt_58 (fun H locs hP hD hS => ?_)
      obtain ⟨r8, er8⟩ : ∃ z : Nat → Int32, upd r7 ((45 + p1).toNatClampNeg) 1 = z := ⟨_, rfl⟩
      have hF := hF.trans (gLet_e er8)
      rw [er8] at hP hD
      have hP : va_P D vwCl [(a0, .inl (y 0, 78, .inl r8))] H := hP
      have hD : va_D A [(a0, .inl (y 0, 78, .inl r8))] := hD
      refine lv_aload_n hx hb dX6_layAt_59 rfl (lv_at hl 0 rfl) ?_
      refine lv_bipush (v := 10) hx hb dX6_layAt_60 (by decide) ?_
      refine lv_dup2_11 hx hb dX6_layAt_62 rfl rfl ?_
      refine xa_iald (k := 10) (v := r8 10) hx hb hE.1 hP 0 0 rfl rfl (xin (by decide)) rfl rfl dX6_layAt_63 ?_
      refine lv_iconst (v := 1) hx hb dX6_layAt_64 (by decide) ?_
      refine lv_iadd hx hb dX6_layAt_65 ?_
      refine xa_iast (k := 10) hx hb hE.1 hP hD hS 0 0 rfl rfl (xin (by decide)) rfl dX6_layAt_66 (fun H locs hP hD hS => ?_)
      obtain ⟨r9, er9⟩ : ∃ z : Nat → Int32, upd r8 10 ((r8 10) + 1) = z := ⟨_, rfl⟩
      have hF := hF.trans (gLet_e er9)
      rw [er9] at hP hD
      have hP : va_P D vwCl [(a0, .inl (y 0, 78, .inl r9))] H := hP
      have hD : va_D A [(a0, .inl (y 0, 78, .inl r9))] := hD
      refine lv_goto (tgt := 75) hx hb dX6_layAt_67 (by decide) ?_
      exact W.vret hx hb hr (fun t ht hW => ⟨⟨r9, rfl, hF, ⟨by rw [ht]; exact hP, hD⟩⟩, hS.F ht⟩) hS.2.2 dX6_layAt_75

def f_X6_move (r : gR) : gR :=
    gLet (f_X6_layAt r (r 3)) (fun (u2 : gR) =>
    if (u2 3) ≤ 0 then
      gLet (upd u2 3 (u2 0)) (fun (r4 : Nat → Int32) =>
        gLet (((r4 2) + 1) - ((r4 2) + 1) / (r4 0) * (r4 0)) (fun (v5 : Int32) =>
          gLet (upd r4 2 v5) (fun (r6 : Nat → Int32) =>
            gLet (upd r6 6 ((r6 6) + 1)) (fun (r7 : Nat → Int32) =>
              gLet (upd r7 7 0) (fun (r8 : Nat → Int32) =>
                r8)))))
    else
      gLet (upd u2 3 ((u2 3) - 1)) (fun (r9 : Nat → Int32) =>
        gLet (upd r9 6 ((r9 6) + 1)) (fun (r10 : Nat → Int32) =>
          gLet (upd r10 7 0) (fun (r11 : Nat → Int32) =>
            r11))))
theorem f_X6_move_s (r : gR) : f_X6_move r =
    (gLet (f_X6_layAt r (r 3)) (fun (u2 : gR) =>
    if (u2 3) ≤ 0 then
      gLet (upd u2 3 (u2 0)) (fun (r4 : Nat → Int32) =>
        gLet (((r4 2) + 1) - ((r4 2) + 1) / (r4 0) * (r4 0)) (fun (v5 : Int32) =>
          gLet (upd r4 2 v5) (fun (r6 : Nat → Int32) =>
            gLet (upd r6 6 ((r6 6) + 1)) (fun (r7 : Nat → Int32) =>
              gLet (upd r7 7 0) (fun (r8 : Nat → Int32) =>
                r8)))))
    else
      gLet (upd u2 3 ((u2 3) - 1)) (fun (r9 : Nat → Int32) =>
        gLet (upd r9 6 ((r9 6) + 1)) (fun (r10 : Nat → Int32) =>
          gLet (upd r10 7 0) (fun (r11 : Nat → Int32) =>
            r11))))) := rfl
theorem okM_X6_move (r : gR) (om : okM r) : okM (f_X6_move r) := by
  have h := okM_X6_layAt r (r 3) (okP_gap om) om
  unfold f_X6_move
  simp only [gLet]
  generalize f_X6_layAt r (r 3) = u at h
  have e1 : (1 : Int32).toInt = 1 := by decide
  have e0 : (0 : Int32).toInt = 0 := by decide
  split
  · rename_i c
    refine okM_upd (by omega) (okM_upd (by omega) (okM_upd (by omega) ?_))
    refine ⟨?_, ?_, ?_, ?_⟩
    · rw [upd_ne (by omega)]; exact h.1
    · rw [upd_ne (by omega)]; exact h.2.1
    · rw [upd_eq]; have := h.1; omega
    · rw [upd_eq]; exact h.2.1
  · rename_i c
    have c2 := i_lt.mp (Int32.not_le.mp c)
    have h3 := h.2.2.2
    refine okM_upd (by omega) (okM_upd (by omega) ?_)
    refine ⟨?_, ?_, ?_, ?_⟩
    · rw [upd_ne (by omega)]; exact h.1
    · rw [upd_ne (by omega)]; exact h.2.1
    · rw [upd_eq, i_sub (by omega) (by omega)]; omega
    · rw [upd_eq, i_sub (by omega) (by omega)]; omega
theorem z_X6_move (r : gR) (om : okM r) : f_X6_move r 0 = r 0 := by
  have h := z_X6_layAt r (r 3) (okP_gap om)
  unfold f_X6_move
  simp only [gLet]
  generalize f_X6_layAt r (r 3) = u at h
  repeat' split
  all_goals (repeat first | assumption | rw [upd_ne (by omega)])
theorem hd_X6_move : yX6_move.cls ≠ "java/lang/invoke/MethodHandle" ∧ yX6_move.cls ≠ "java/lang/invoke/VarHandle" ∧ (parseMethodDescriptor yX6_move.desc).map (fun d => d.parameters.length) = some 1 := by decide +kernel
set_option maxHeartbeats 4000000 in
set_option maxRecDepth 100000 in
theorem c_X6_move (l : Launch) (D : va_G) (y : Nat → ClassId) (a0 : Nat) (zh : Nat) (r : gR) (om : okM r) : Met l yX6_move wsX6_move ({ frames := 1, cells := 0, slots := 0, locals := 21 }) (gP D y [.ref a0] zh [(a0, .inl (y 0, 78, .inl r))]) (va_Qv (fun u : gR => f_X6_move r = u) (fun (u : gR) t => va_P D vwCl [(a0, .inl (y 0, 78, .inl u))] t.heap ∧ va_D (va_A [(a0, .inl (y 0, 78, .inl r))] zh) [(a0, .inl (y 0, 78, .inl u))]) (va_A [(a0, .inl (y 0, 78, .inl r))] zh)) 0 0 (va_A [(a0, .inl (y 0, 78, .inl r))] zh) := by
  refine Met.ofW (cc := cX6_move) (maxL := 1) (ret := none) (by decide) rfl ?_
  intro p e s m args below meth c s₁ B hml hv
  obtain ⟨rfl, hsz, hP, hE, hD⟩ := hv
  have hx := B.exec
  have hb := B.bytes
  have hr := B.returns
  have hts := atoms_spec (ws := wsX6_move) B.pre
  have hown : s.vm.findClass RX6 = some m.cls := findClass_of_methodNamed B.named
  have hlocks := B.notSynchronized
  subst hsz
  have hD := hD.self (sz := s.heap.size)
  generalize hAe : va_A [(a0, .inl (y 0, 78, .inl r))] s.heap.size = A at hD ⊢
  have hA : ∀ q : Nat, s.heap.size ≤ q → A q := fun q h => by rw [← hAe]; exact Or.inr h
  have hS : va_S A s.heap s.heap [] := va_S.rf
  have hl := lv_entry ([.ref a0]) (n := 1) (Nat.le_of_ble_eq_true rfl)
  rw [lg_entry_eq]
  generalize (lg_sl ([.ref a0]) ++ List.replicate (1 - (lg_sl ([.ref a0])).length) Slot.unset).toArray = ls at hl ⊢
  have hl : lv_has ls 1 [(0, .ref a0)] := hl
  have hF := f_X6_move_s r
  refine lv_aload_n hx hb dX6_move_0 rfl (lv_at hl 0 rfl) ?_
  refine lv_aload_n hx hb dX6_move_1 rfl (lv_at hl 0 rfl) ?_
  refine lv_iconst (v := 3) hx hb dX6_move_2 (by decide) ?_
  refine xa_iald (k := 3) (v := r 3) hx hb hE.1 hP 0 0 rfl rfl (xin (by decide)) rfl rfl dX6_move_3 ?_
  refine xw_callv (va_runS (As := [.ref a0, .int (r 3)]) (rest := []) ⟨hx, hb, hml, hown, hts⟩ (c_X6_layAt l D y a0 s.heap.size r (r 3) (okP_gap om)) (va_cwS 2 hts gX6_move_X6_layAt rfl rfl rfl hd_X6_layAt ⟨Nat.le_of_ble_eq_true rfl, Nat.le_of_ble_eq_true rfl⟩) (gS hE hP hD) rfl rfl hl.1 rfl (lv_room (Nat.le_of_ble_eq_true rfl)) dX6_move_4 ⟨Nat.le_of_ble_eq_true rfl, Nat.le_of_ble_eq_true rfl⟩) hP hD hS hA [0] rfl (by decide) (fun _ => rfl) (fun u2 H locs h1 hP hD hS => ?_)
  have hF := hF.trans (gLet_e h1)
  have hP : va_P D vwCl [(a0, .inl (y 0, 78, .inl u2))] H := hP
  have hD : va_D A [(a0, .inl (y 0, 78, .inl u2))] := hD
  refine lv_aload_n hx hb dX6_move_7 rfl (lv_at hl 0 rfl) ?_
  refine lv_iconst (v := 3) hx hb dX6_move_8 (by decide) ?_
  refine xa_iald (k := 3) (v := u2 3) hx hb hE.1 hP 0 0 rfl rfl (xin (by decide)) rfl rfl dX6_move_9 ?_
  refine lv_if_le (tgt := 23) hx hb dX6_move_10 (by decide) (fun c_3 => ?_) (fun c_3 => ?_)
  · have hF := hF.trans (if_pos c_3)
    refine lv_aload_n hx hb dX6_move_23 rfl (lv_at hl 0 rfl) ?_
    refine lv_iconst (v := 3) hx hb dX6_move_24 (by decide) ?_
    refine lv_aload_n hx hb dX6_move_25 rfl (lv_at hl 0 rfl) ?_
    refine lv_iconst (v := 0) hx hb dX6_move_26 (by decide) ?_
    refine xa_iald (k := 0) (v := u2 0) hx hb hE.1 hP 0 0 rfl rfl (xin (by decide)) rfl rfl dX6_move_27 ?_
    refine xa_iast (k := 3) hx hb hE.1 hP hD hS 0 0 rfl rfl (xin (by decide)) rfl dX6_move_28 (fun H locs hP hD hS => ?_)
    obtain ⟨r4, er4⟩ : ∃ z : Nat → Int32, upd u2 3 (u2 0) = z := ⟨_, rfl⟩
    have hF := hF.trans (gLet_e er4)
    rw [er4] at hP hD
    have hP : va_P D vwCl [(a0, .inl (y 0, 78, .inl r4))] H := hP
    have hD : va_D A [(a0, .inl (y 0, 78, .inl r4))] := hD
    refine lv_aload_n hx hb dX6_move_29 rfl (lv_at hl 0 rfl) ?_
    refine lv_iconst (v := 2) hx hb dX6_move_30 (by decide) ?_
    refine lv_aload_n hx hb dX6_move_31 rfl (lv_at hl 0 rfl) ?_
    refine lv_iconst (v := 2) hx hb dX6_move_32 (by decide) ?_
    refine xa_iald (k := 2) (v := r4 2) hx hb hE.1 hP 0 0 rfl rfl (xin (by decide)) rfl rfl dX6_move_33 ?_
    refine lv_iconst (v := 1) hx hb dX6_move_34 (by decide) ?_
    refine lv_iadd hx hb dX6_move_35 ?_
    refine lv_aload_n hx hb dX6_move_36 rfl (lv_at hl 0 rfl) ?_
    refine lv_iconst (v := 0) hx hb dX6_move_37 (by decide) ?_
    refine xa_iald (k := 0) (v := r4 0) hx hb hE.1 hP 0 0 rfl rfl (xin (by decide)) rfl rfl dX6_move_38 ?_
    refine lv_irem hx hb dX6_move_39 (by rw [← er4, upd_ne (by omega), ← h1, z_X6_layAt _ _ (okP_gap om)]; exact okM_ne om) ?_
    obtain ⟨v5, ev5⟩ : ∃ z : Int32, ((r4 2) + 1) - ((r4 2) + 1) / (r4 0) * (r4 0) = z := ⟨_, rfl⟩
    rw [ev5]
    have hF := hF.trans (gLet_e ev5)
    refine xa_iast (k := 2) hx hb hE.1 hP hD hS 0 0 rfl rfl (xin (by decide)) rfl dX6_move_40 (fun H locs hP hD hS => ?_)
    obtain ⟨r6, er6⟩ : ∃ z : Nat → Int32, upd r4 2 v5 = z := ⟨_, rfl⟩
    have hF := hF.trans (gLet_e er6)
    rw [er6] at hP hD
    have hP : va_P D vwCl [(a0, .inl (y 0, 78, .inl r6))] H := hP
    have hD : va_D A [(a0, .inl (y 0, 78, .inl r6))] := hD
    refine lv_aload_n hx hb dX6_move_41 rfl (lv_at hl 0 rfl) ?_
    refine lv_bipush (v := 6) hx hb dX6_move_42 (by decide) ?_
    refine lv_dup2_11 hx hb dX6_move_44 rfl rfl ?_
    refine xa_iald (k := 6) (v := r6 6) hx hb hE.1 hP 0 0 rfl rfl (xin (by decide)) rfl rfl dX6_move_45 ?_
    refine lv_iconst (v := 1) hx hb dX6_move_46 (by decide) ?_
    refine lv_iadd hx hb dX6_move_47 ?_
    refine xa_iast (k := 6) hx hb hE.1 hP hD hS 0 0 rfl rfl (xin (by decide)) rfl dX6_move_48 (fun H locs hP hD hS => ?_)
    obtain ⟨r7, er7⟩ : ∃ z : Nat → Int32, upd r6 6 ((r6 6) + 1) = z := ⟨_, rfl⟩
    have hF := hF.trans (gLet_e er7)
    rw [er7] at hP hD
    have hP : va_P D vwCl [(a0, .inl (y 0, 78, .inl r7))] H := hP
    have hD : va_D A [(a0, .inl (y 0, 78, .inl r7))] := hD
    refine lv_aload_n hx hb dX6_move_49 rfl (lv_at hl 0 rfl) ?_
    refine lv_bipush (v := 7) hx hb dX6_move_50 (by decide) ?_
    refine lv_iconst (v := 0) hx hb dX6_move_52 (by decide) ?_
    refine xa_iast (k := 7) hx hb hE.1 hP hD hS 0 0 rfl rfl (xin (by decide)) rfl dX6_move_53 (fun H locs hP hD hS => ?_)
    obtain ⟨r8, er8⟩ : ∃ z : Nat → Int32, upd r7 7 0 = z := ⟨_, rfl⟩
    have hF := hF.trans (gLet_e er8)
    rw [er8] at hP hD
    have hP : va_P D vwCl [(a0, .inl (y 0, 78, .inl r8))] H := hP
    have hD : va_D A [(a0, .inl (y 0, 78, .inl r8))] := hD
    exact W.vret hx hb hr (fun t ht hW => ⟨⟨r8, rfl, hF, ⟨by rw [ht]; exact hP, hD⟩⟩, hS.F ht⟩) hS.2.2 dX6_move_54
  · have hF := hF.trans (if_neg c_3)
    refine lv_aload_n hx hb dX6_move_13 rfl (lv_at hl 0 rfl) ?_
    refine lv_iconst (v := 3) hx hb dX6_move_14 (by decide) ?_
    refine lv_dup2_11 hx hb dX6_move_15 rfl rfl ?_
    refine xa_iald (k := 3) (v := u2 3) hx hb hE.1 hP 0 0 rfl rfl (xin (by decide)) rfl rfl dX6_move_16 ?_
    refine lv_iconst (v := 1) hx hb dX6_move_17 (by decide) ?_
    refine lv_isub hx hb dX6_move_18 ?_
    refine xa_iast (k := 3) hx hb hE.1 hP hD hS 0 0 rfl rfl (xin (by decide)) rfl dX6_move_19 (fun H locs hP hD hS => ?_)
    obtain ⟨r9, er9⟩ : ∃ z : Nat → Int32, upd u2 3 ((u2 3) - 1) = z := ⟨_, rfl⟩
    have hF := hF.trans (gLet_e er9)
    rw [er9] at hP hD
    have hP : va_P D vwCl [(a0, .inl (y 0, 78, .inl r9))] H := hP
    have hD : va_D A [(a0, .inl (y 0, 78, .inl r9))] := hD
    refine lv_goto (tgt := 41) hx hb dX6_move_20 (by decide) ?_
    refine lv_aload_n hx hb dX6_move_41 rfl (lv_at hl 0 rfl) ?_
    refine lv_bipush (v := 6) hx hb dX6_move_42 (by decide) ?_
    refine lv_dup2_11 hx hb dX6_move_44 rfl rfl ?_
    refine xa_iald (k := 6) (v := r9 6) hx hb hE.1 hP 0 0 rfl rfl (xin (by decide)) rfl rfl dX6_move_45 ?_
    refine lv_iconst (v := 1) hx hb dX6_move_46 (by decide) ?_
    refine lv_iadd hx hb dX6_move_47 ?_
    refine xa_iast (k := 6) hx hb hE.1 hP hD hS 0 0 rfl rfl (xin (by decide)) rfl dX6_move_48 (fun H locs hP hD hS => ?_)
    obtain ⟨r10, er10⟩ : ∃ z : Nat → Int32, upd r9 6 ((r9 6) + 1) = z := ⟨_, rfl⟩
    have hF := hF.trans (gLet_e er10)
    rw [er10] at hP hD
    have hP : va_P D vwCl [(a0, .inl (y 0, 78, .inl r10))] H := hP
    have hD : va_D A [(a0, .inl (y 0, 78, .inl r10))] := hD
    refine lv_aload_n hx hb dX6_move_49 rfl (lv_at hl 0 rfl) ?_
    refine lv_bipush (v := 7) hx hb dX6_move_50 (by decide) ?_
    refine lv_iconst (v := 0) hx hb dX6_move_52 (by decide) ?_
    refine xa_iast (k := 7) hx hb hE.1 hP hD hS 0 0 rfl rfl (xin (by decide)) rfl dX6_move_53 (fun H locs hP hD hS => ?_)
    obtain ⟨r11, er11⟩ : ∃ z : Nat → Int32, upd r10 7 0 = z := ⟨_, rfl⟩
    have hF := hF.trans (gLet_e er11)
    rw [er11] at hP hD
    have hP : va_P D vwCl [(a0, .inl (y 0, 78, .inl r11))] H := hP
    have hD : va_D A [(a0, .inl (y 0, 78, .inl r11))] := hD
    exact W.vret hx hb hr (fun t ht hW => ⟨⟨r11, rfl, hF, ⟨by rw [ht]; exact hP, hD⟩⟩, hS.F ht⟩) hS.2.2 dX6_move_54
