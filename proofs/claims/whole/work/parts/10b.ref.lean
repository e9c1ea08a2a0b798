/-! THE REFERENCE: rows, texts, its object -/
def okN (r : gR) : Prop := 0 ≤ (r 0).toInt ∧ (r 0).toInt ≤ 32 ∧ 0 ≤ (r 3).toInt ∧ (r 3).toInt ≤ 32
def okA (p : Int32) (N : Nat) : Prop := 0 ≤ p.toInt ∧ p.toInt + 78 ≤ N ∧ N ≤ 2000
theorem okM_of {r : gR} {l : Int32} (h : okN r) (hl : okL r l) : okM r := ⟨by have := hl.1; have := hl.2; omega, h.2⟩
theorem okM_of2 {r : gR} (h : okN r) (c : ¬ r 0 ≤ 0) : okM r := by
  have h1 := i_lt.mp (Int32.not_le.mp c)
  have e : (0 : Int32).toInt = 0 := (by decide)
  exact ⟨by omega, h.2⟩
theorem okN_of {r : gR} (h : okM r) : okN r := ⟨by have := h.1; omega, h.2⟩
theorem okN_upd {r : gR} {k : Nat} {x : Int32} (hk : k ≠ 0 ∧ k ≠ 3) (h : okN r) : okN (upd r k x) := by
  unfold okN at h ⊢
  rw [upd_ne (fun e => hk.1 e.symm), upd_ne (fun e => hk.2 e.symm)]
  exact h
theorem ixA {p x : Int32} {N : Nat} (ha : okA p N) (h0 : 0 ≤ x.toInt) (h : ¬ 78 ≤ x) : vp_in (p + x) N := by
  have h1 := i_lt.mp (Int32.not_le.mp h)
  have e : (78 : Int32).toInt = 78 := (by decide)
  obtain ⟨a1, a2, a3⟩ := ha
  have h2 : (p + x).toInt = p.toInt + x.toInt := i_add (by omega) (by omega)
  exact xin2 (by omega) (by omega)
theorem dv10 {x : Int32} {n : Nat} (h : ¬ x ≤ 0) (hμ : x.toInt.toNat < n + 1) : (x / 10).toInt.toNat < n := by
  have h1 := i_lt.mp (Int32.not_le.mp h)
  have e0 : (0 : Int32).toInt = 0 := (by decide)
  have e : (10 : Int32).toInt = 10 := (by decide)
  have h2 : (x / 10).toInt = x.toInt.tdiv 10 := by
    rw [Int32.toInt_div, e]
    have q := i_hi x
    have q2 : x.toInt.tdiv 10 ≤ x.toInt := Int.tdiv_le_self _ (by omega)
    have q3 : 0 ≤ x.toInt.tdiv 10 := Int.tdiv_nonneg (by omega) (by omega)
    exact Int.bmod_eq_of_le (by simp; omega) (by simp; omega)
  rw [h2, Int.tdiv_eq_ediv_of_nonneg (by omega)]
  omega
theorem lg_sound {x y : Int64} : (¬ lg_cmp x y < 0 ↔ y ≤ x) ∧ (¬ 0 < lg_cmp x y ↔ x ≤ y) := by
  unfold lg_cmp
  have h1 : (x > y) ↔ y.toInt < x.toInt := by simp only [gt_iff_lt, Int64.lt_iff_toInt_lt]
  have h2 : x = y ↔ x.toInt = y.toInt := Int64.toInt_inj.symm
  have h3 : y ≤ x ↔ y.toInt ≤ x.toInt := Int64.le_iff_toInt_le
  have h4 : x ≤ y ↔ x.toInt ≤ y.toInt := Int64.le_iff_toInt_le
  rw [h3, h4]
  by_cases a : x > y
  · rw [if_pos a]
    have b := h1.mp a
    exact ⟨⟨fun _ => by omega, fun _ => by decide⟩, ⟨fun c => absurd (by decide) c, fun c => by omega⟩⟩
  · rw [if_neg a]
    have b : ¬ y.toInt < x.toInt := fun q => a (h1.mpr q)
    by_cases c : x = y
    · rw [if_pos c]
      have d := h2.mp c
      exact ⟨⟨fun _ => by omega, fun _ => by decide⟩, ⟨fun _ => by omega, fun _ => by decide⟩⟩
    · rw [if_neg c]
      have d : ¬ x.toInt = y.toInt := fun q => c (h2.mpr q)
      exact ⟨⟨fun q => absurd (by decide) q, fun q => by omega⟩, ⟨fun _ => by omega, fun _ => by decide⟩⟩
/-- what 'in' answers -/
theorem in_iff (v a b : Int64) : ¬ f_X6_in v a b = 0 ↔ (a.toInt ≤ v.toInt ∧ v.toInt ≤ b.toInt) := by
  unfold f_X6_in
  have h := lg_sound (x := v) (y := a)
  have k := lg_sound (x := v) (y := b)
  have h3 : a ≤ v ↔ a.toInt ≤ v.toInt := Int64.le_iff_toInt_le
  have k3 : v ≤ b ↔ v.toInt ≤ b.toInt := Int64.le_iff_toInt_le
  rw [← h3, ← k3, ← h.1, ← k.2]
  by_cases c : lg_cmp v a < 0
  · simp [c]
  · by_cases d : 0 < lg_cmp v b
    · simp [c, d]
    · simp [c, d]
theorem il_okL {r : gR} {l v : Int32} (h : f_X6_isLine r l = v) (c : ¬ v = 0) (hn : 0 ≤ (r 0).toInt) : okL r l := by
  subst h
  unfold f_X6_isLine gLet at c
  have q := (in_iff _ _ _).mp c
  have e1 : (1 : Int32).toInt = 1 := (by decide)
  have hh := i_hi (r 0)
  rw [Int32.toInt_toInt64, Int32.toInt_toInt64, i_sub (by omega) (by omega), e1] at q
  have e0 : (0 : Int64).toInt = 0 := (by decide)
  exact ⟨by omega, by omega⟩
theorem cw_okL {r : gR} {l v : Int32} (h : f_X6_canWrite r l = v) (c : ¬ v = 0) (hn : 0 ≤ (r 0).toInt) : okL r l := by
  subst h
  unfold f_X6_canWrite gLet at c
  by_cases d : f_X6_isLine r l = 0
  · simp [d] at c
  · exact il_okL rfl d hn
theorem al_ix {r : gR} {x v : Int32} (om : okM r) (h0 : 0 ≤ x.toInt) (e : x - x / r 0 * r 0 = v) : okL r v := by
  have q := om.1
  rw [← e]
  unfold okL
  rw [irem_toInt x (r 0) (by omega), Int.tmod_eq_emod_of_nonneg h0]
  exact ⟨Int.emod_nonneg _ (by omega), Int.emod_lt_of_pos _ (by omega)⟩
theorem al_in {r : gR} {x v : Int32} (om : okM r) (h0 : 0 ≤ x.toInt) (e : x - x / r 0 * r 0 = v) : vp_in (13 + v) 78 := by
  have h := al_ix om h0 e
  exact in13 h.1 (by have := om.2.1; have := h.2; omega)

def f_X6_writeOn (r : gR) (p1 : Int32) (p2 : Int32) : Int32 × gR :=
    gLet (upd r ((13 + p1).toNatClampNeg) p2) (fun (r1 : Nat → Int32) =>
    gLet (f_X6_placeOf r1 p1) (fun (v3 : Int32) =>
      gLet (f_X6_layAt r1 v3) (fun (u5 : gR) =>
        gLet (upd u5 5 ((u5 5) + 1)) (fun (r6 : Nat → Int32) =>
          gLet (upd r6 7 ((r6 7) + 1)) (fun (r7 : Nat → Int32) =>
            if (r7 8) = 0 then
              if (r7 7) < (r7 12) then
                ((r ((13 + p1).toNatClampNeg)), r7)
              else
                gLet (f_X6_move r7) (fun (u11 : gR) =>
                  ((r ((13 + p1).toNatClampNeg)), u11))
            else
              ((r ((13 + p1).toNatClampNeg)), r7))))))
theorem f_X6_writeOn_s (r : gR) (p1 : Int32) (p2 : Int32) : f_X6_writeOn r p1 p2 =
    (gLet (upd r ((13 + p1).toNatClampNeg) p2) (fun (r1 : Nat → Int32) =>
    gLet (f_X6_placeOf r1 p1) (fun (v3 : Int32) =>
      gLet (f_X6_layAt r1 v3) (fun (u5 : gR) =>
        gLet (upd u5 5 ((u5 5) + 1)) (fun (r6 : Nat → Int32) =>
          gLet (upd r6 7 ((r6 7) + 1)) (fun (r7 : Nat → Int32) =>
            if (r7 8) = 0 then
              if (r7 7) < (r7 12) then
                ((r ((13 + p1).toNatClampNeg)), r7)
              else
                gLet (f_X6_move r7) (fun (u11 : gR) =>
                  ((r ((13 + p1).toNatClampNeg)), u11))
            else
              ((r ((13 + p1).toNatClampNeg)), r7))))))) := rfl
theorem inv_X6_writeOn (r : gR) (p1 p2 : Int32) (om : okM r) (ol : okL r p1) : okM (f_X6_writeOn r p1 p2).2 ∧ (f_X6_writeOn r p1 p2).2 0 = r 0 := by
  have hk := ix13 ol.1 (by have := om.2.1; have := ol.2; omega)
  unfold f_X6_writeOn
  refine gLet_i (P := fun z : Int32 × gR => okM z.2 ∧ z.2 0 = r 0) (fun r1 e1 => ?_)
  have h1 : okM r1 := by rw [← e1]; exact okM_upd (by omega) om
  have z1 : r1 0 = r 0 := by rw [← e1]; exact upd_ne (by omega)
  refine gLet_i (P := fun z : Int32 × gR => okM z.2 ∧ z.2 0 = r 0) (fun v3 e3 => ?_)
  have hp : okP v3 := by rw [← e3]; exact okP_placeWith _ _ _ _ h1.1 h1.2.1
  refine gLet_i (P := fun z : Int32 × gR => okM z.2 ∧ z.2 0 = r 0) (fun u5 e5 => ?_)
  have h5 : okM u5 := by rw [← e5]; exact okM_X6_layAt _ _ hp h1
  have z5 : u5 0 = r 0 := by rw [← e5]; exact (z_X6_layAt _ _ hp).trans z1
  refine gLet_i (P := fun z : Int32 × gR => okM z.2 ∧ z.2 0 = r 0) (fun r6 e6 => ?_)
  have h6 : okM r6 := by rw [← e6]; exact okM_upd (by omega) h5
  have z6 : r6 0 = r 0 := by rw [← e6]; exact (upd_ne (by omega)).trans z5
  refine gLet_i (P := fun z : Int32 × gR => okM z.2 ∧ z.2 0 = r 0) (fun r7 e7 => ?_)
  have h7 : okM r7 := by rw [← e7]; exact okM_upd (by omega) h6
  have z7 : r7 0 = r 0 := by rw [← e7]; exact (upd_ne (by omega)).trans z6
  refine gIf_i (P := fun z : Int32 × gR => okM z.2 ∧ z.2 0 = r 0) (fun _ => ?_) (fun _ => ⟨h7, z7⟩)
  refine gIf_i (P := fun z : Int32 × gR => okM z.2 ∧ z.2 0 = r 0) (fun _ => ⟨h7, z7⟩) (fun _ => ?_)
  refine gLet_i (P := fun z : Int32 × gR => okM z.2 ∧ z.2 0 = r 0) (fun u e => ?_)
  rw [← e]
  exact ⟨okM_X6_move _ h7, (z_X6_move _ h7).trans z7⟩
theorem okM_X6_writeOn (r : gR) (p1 p2 : Int32) (om : okM r) (ol : okL r p1) : okM (f_X6_writeOn r p1 p2).2 := (inv_X6_writeOn r p1 p2 om ol).1
theorem z_X6_writeOn (r : gR) (p1 p2 : Int32) (om : okM r) (ol : okL r p1) : (f_X6_writeOn r p1 p2).2 0 = r 0 := (inv_X6_writeOn r p1 p2 om ol).2
theorem okL_X6_writeOn (r : gR) (p1 p2 : Int32) (om : okM r) (ol : okL r p1) : okL (f_X6_writeOn r p1 p2).2 p1 := by
  unfold okL
  rw [z_X6_writeOn r p1 p2 om ol]
  exact ol
theorem hd_X6_writeOn : yX6_writeOn.cls ≠ "java/lang/invoke/MethodHandle" ∧ yX6_writeOn.cls ≠ "java/lang/invoke/VarHandle" ∧ (parseMethodDescriptor yX6_writeOn.desc).map (fun d => d.parameters.length) = some 3 := by decide +kernel
set_option maxHeartbeats 4000000 in
set_option maxRecDepth 100000 in
theorem c_X6_writeOn (l : Launch) (D : va_G) (y : Nat → ClassId) (a0 : Nat) (zh : Nat) (r : gR) (p1 : Int32) (p2 : Int32) (om : okM r) (ol : okL r p1) : Met l yX6_writeOn wsX6_writeOn ({ frames := 2, cells := 0, slots := 0, locals := 45 }) (gP D y [.ref a0, .int p1, .int p2] zh [(a0, .inl (y 0, 78, .inl r))]) (va_Qi (fun (v : Int32) (u : gR) => f_X6_writeOn r p1 p2 = (v, u)) (fun (u : gR) t => va_P D vwCl [(a0, .inl (y 0, 78, .inl u))] t.heap ∧ va_D (va_A [(a0, .inl (y 0, 78, .inl r))] zh) [(a0, .inl (y 0, 78, .inl u))]) (va_A [(a0, .inl (y 0, 78, .inl r))] zh)) 0 0 (va_A [(a0, .inl (y 0, 78, .inl r))] zh) := by
  refine Met.ofW (cc := cX6_writeOn) (maxL := 4) (ret := (some .int)) (by decide) rfl ?_
  intro p e s m args below meth c s₁ B hml hv
  obtain ⟨rfl, hsz, hP, hE, hD⟩ := hv
  have hx := B.exec
  have hb := B.bytes
  have hr := B.returns
  have hts := atoms_spec (ws := wsX6_writeOn) B.pre
  have hown : s.vm.findClass RX6 = some m.cls := findClass_of_methodNamed B.named
  have hlocks := B.notSynchronized
  subst hsz
  have hD := hD.self (sz := s.heap.size)
  generalize hAe : va_A [(a0, .inl (y 0, 78, .inl r))] s.heap.size = A at hD ⊢
  have hA : ∀ q : Nat, s.heap.size ≤ q → A q := fun q h => by rw [← hAe]; exact Or.inr h
  have hS : va_S A s.heap s.heap [] := va_S.rf
  have hl := lv_entry ([.ref a0, .int p1, .int p2]) (n := 4) (Nat.le_of_ble_eq_true rfl)
  rw [lg_entry_eq]
  generalize (lg_sl ([.ref a0, .int p1, .int p2]) ++ List.replicate (4 - (lg_sl ([.ref a0, .int p1, .int p2])).length) Slot.unset).toArray = ls at hl ⊢
  have hl : lv_has ls 4 [(0, .ref a0), (1, .int p1), (2, .int p2)] := hl
  have hF := f_X6_writeOn_s r p1 p2
  refine lv_aload_n hx hb dX6_writeOn_0 rfl (lv_at hl 0 rfl) ?_
  refine lv_bipush (v := 13) hx hb dX6_writeOn_1 (by decide) ?_
  refine lv_iload_n hx hb dX6_writeOn_3 rfl (lv_at hl 1 rfl) ?_
  refine lv_iadd hx hb dX6_writeOn_4 ?_
  refine xa_iald (k := (13 + p1).toNatClampNeg) (v := r ((13 + p1).toNatClampNeg)) hx hb hE.1 hP 0 0 rfl rfl (in13 ol.1 (by have := om.2.1; have := ol.2; omega)) rfl rfl dX6_writeOn_5 ?_
  refine lv_istore_n (lv' := [(3, .int (r ((13 + p1).toNatClampNeg))), (0, .ref a0), (1, .int p1), (2, .int p2)]) hx hb dX6_writeOn_6 rfl hl (by decide) rfl (fun ls hl => ?_)
  refine lv_aload_n hx hb dX6_writeOn_7 rfl (lv_at hl 1 rfl) ?_
  refine lv_bipush (v := 13) hx hb dX6_writeOn_8 (by decide) ?_
  refine lv_iload_n hx hb dX6_writeOn_10 rfl (lv_at hl 2 rfl) ?_
  refine lv_iadd hx hb dX6_writeOn_11 ?_
  refine lv_iload_n hx hb dX6_writeOn_12 rfl (lv_at hl 3 rfl) ?_
  refine xa_iast (k := (13 + p1).toNatClampNeg) hx hb hE.1 hP hD hS 0 0 rfl rfl (in13 ol.1 (by have := om.2.1; have := ol.2; omega)) rfl dX6_writeOn_13 (fun H locs hP hD hS => ?_)
  obtain ⟨r1, er1⟩ : ∃ z : Nat → Int32, upd r ((13 + p1).toNatClampNeg) p2 = z := ⟨_, rfl⟩
  have hF := hF.trans (gLet_e er1)
  rw [er1] at hP hD
  have hP : va_P D vwCl [(a0, .inl (y 0, 78, .inl r1))] H := hP
  have hD : va_D A [(a0, .inl (y 0, 78, .inl r1))] := hD
  refine lv_aload_n hx hb dX6_writeOn_14 rfl (lv_at hl 1 rfl) ?_
  refine lv_aload_n hx hb dX6_writeOn_15 rfl (lv_at hl 1 rfl) ?_
  refine lv_iload_n hx hb dX6_writeOn_16 rfl (lv_at hl 2 rfl) ?_
  refine xs_calli (va_runS (As := [.ref a0, .int p1]) (rest := [.ref a0]) ⟨hx, hb, hml, hown, hts⟩ (c_X6_placeOf l D y a0 H.size r1 p1 (okM_ne (by rw [← er1]; exact okM_upd (by rw [(ix13 ol.1 (by have := om.2.1; have := ol.2; omega))]; omega) om))) (va_cwS 2 hts gX6_writeOn_X6_placeOf rfl rfl rfl hd_X6_placeOf ⟨Nat.le_of_ble_eq_true rfl, Nat.le_of_ble_eq_true rfl⟩) (gS hE hP hD) rfl rfl hl.1 rfl (lv_room (Nat.le_of_ble_eq_true rfl)) dX6_writeOn_17 ⟨Nat.le_of_ble_eq_true rfl, Nat.le_of_ble_eq_true rfl⟩) (fun v3 h2 => ?_)
  have hF := hF.trans (gLet_e h2)
  refine xw_callv (va_runS (As := [.ref a0, .int v3]) (rest := []) ⟨hx, hb, hml, hown, hts⟩ (c_X6_layAt l D y a0 H.size r1 v3 (by rw [← h2]; exact okP_placeWith _ _ _ _ (show okM r1 from (by rw [← er1]; exact okM_upd (by rw [(ix13 ol.1 (by have := om.2.1; have := ol.2; omega))]; omega) om)).1 (show okM r1 from (by rw [← er1]; exact okM_upd (by rw [(ix13 ol.1 (by have := om.2.1; have := ol.2; omega))]; omega) om)).2.1)) (va_cwS 2 hts gX6_writeOn_X6_layAt rfl rfl rfl hd_X6_layAt ⟨Nat.le_of_ble_eq_true rfl, Nat.le_of_ble_eq_true rfl⟩) (gS hE hP hD) rfl rfl hl.1 rfl (lv_room (Nat.le_of_ble_eq_true rfl)) dX6_writeOn_20 ⟨Nat.le_of_ble_eq_true rfl, Nat.le_of_ble_eq_true rfl⟩) hP hD hS hA [0] rfl (by decide) (fun _ => rfl) (fun u5 H locs h4 hP hD hS => ?_)
  have hF := hF.trans (gLet_e h4)
  have hP : va_P D vwCl [(a0, .inl (y 0, 78, .inl u5))] H := hP
  have hD : va_D A [(a0, .inl (y 0, 78, .inl u5))] := hD
  refine lv_aload_n hx hb dX6_writeOn_23 rfl (lv_at hl 1 rfl) ?_
  refine lv_iconst (v := 5) hx hb dX6_writeOn_24 (by decide) ?_
  refine lv_dup2_11 hx hb dX6_writeOn_25 rfl rfl ?_
  refine xa_iald (k := 5) (v := u5 5) hx hb hE.1 hP 0 0 rfl rfl (xin (by decide)) rfl rfl dX6_writeOn_26 ?_
  refine lv_iconst (v := 1) hx hb dX6_writeOn_27 (by decide) ?_
  refine lv_iadd hx hb dX6_writeOn_28 ?_
  refine xa_iast (k := 5) hx hb hE.1 hP hD hS 0 0 rfl rfl (xin (by decide)) rfl dX6_writeOn_29 (fun H locs hP hD hS => ?_)
  obtain ⟨r6, er6⟩ : ∃ z : Nat → Int32, upd u5 5 ((u5 5) + 1) = z := ⟨_, rfl⟩
  have hF := hF.trans (gLet_e er6)
  rw [er6] at hP hD
  have hP : va_P D vwCl [(a0, .inl (y 0, 78, .inl r6))] H := hP
  have hD : va_D A [(a0, .inl (y 0, 78, .inl r6))] := hD
  refine lv_aload_n hx hb dX6_writeOn_30 rfl (lv_at hl 1 rfl) ?_
  refine lv_bipush (v := 7) hx hb dX6_writeOn_31 (by decide) ?_
  refine lv_dup2_11 hx hb dX6_writeOn_33 rfl rfl ?_
  refine xa_iald (k := 7) (v := r6 7) hx hb hE.1 hP 0 0 rfl rfl (xin (by decide)) rfl rfl dX6_writeOn_34 ?_
  refine lv_iconst (v := 1) hx hb dX6_writeOn_35 (by decide) ?_
  refine lv_iadd hx hb dX6_writeOn_36 ?_
  refine xa_iast (k := 7) hx hb hE.1 hP hD hS 0 0 rfl rfl (xin (by decide)) rfl dX6_writeOn_37 (fun H locs hP hD hS => ?_)
  obtain ⟨r7, er7⟩ : ∃ z : Nat → Int32, upd r6 7 ((r6 7) + 1) = z := ⟨_, rfl⟩
  have hF := hF.trans (gLet_e er7)
  rw [er7] at hP hD
  have hP : va_P D vwCl [(a0, .inl (y 0, 78, .inl r7))] H := hP
  have hD : va_D A [(a0, .inl (y 0, 78, .inl r7))] := hD
  refine lv_aload_n hx hb dX6_writeOn_38 rfl (lv_at hl 1 rfl) ?_
  refine lv_bipush (v := 8) hx hb dX6_writeOn_39 (by decide) ?_
  refine xa_iald (k := 8) (v := r7 8) hx hb hE.1 hP 0 0 rfl rfl (xin (by decide)) rfl rfl dX6_writeOn_41 ?_
  refine lv_if_ne (tgt := 60) hx hb dX6_writeOn_42 (by decide) (fun c_8 => ?_) (fun c_8 => ?_)
  · have hF := hF.trans (if_neg c_8)
    refine lv_iload_n hx hb dX6_writeOn_60 rfl (lv_at hl 0 rfl) ?_
    exact W.iret (v := (r ((13 + p1).toNatClampNeg))) hx hb hr (fun t ht hW => ⟨⟨(r ((13 + p1).toNatClampNeg)), r7, rfl, hF, ⟨by rw [ht]; exact hP, hD⟩⟩, hS.F ht⟩) hS.2.2 dX6_writeOn_61
  · have hF := hF.trans (if_pos c_8)
    refine lv_aload_n hx hb dX6_writeOn_45 rfl (lv_at hl 1 rfl) ?_
    refine lv_bipush (v := 7) hx hb dX6_writeOn_46 (by decide) ?_
    refine xa_iald (k := 7) (v := r7 7) hx hb hE.1 hP 0 0 rfl rfl (xin (by decide)) rfl rfl dX6_writeOn_48 ?_
    refine lv_aload_n hx hb dX6_writeOn_49 rfl (lv_at hl 1 rfl) ?_
    refine lv_bipush (v := 12) hx hb dX6_writeOn_50 (by decide) ?_
    refine xa_iald (k := 12) (v := r7 12) hx hb hE.1 hP 0 0 rfl rfl (xin (by decide)) rfl rfl dX6_writeOn_52 ?_
    refine lv_icmp_lt (tgt := 60) hx hb dX6_writeOn_53 (by decide) (fun c_9 => ?_) (fun c_9 => ?_)
    · have hF := hF.trans (if_pos c_9)
      refine lv_iload_n hx hb dX6_writeOn_60 rfl (lv_at hl 0 rfl) ?_
      exact W.iret (v := (r ((13 + p1).toNatClampNeg))) hx hb hr (fun t ht hW => ⟨⟨(r ((13 + p1).toNatClampNeg)), r7, rfl, hF, ⟨by rw [ht]; exact hP, hD⟩⟩, hS.F ht⟩) hS.2.2 dX6_writeOn_61
    · have hF := hF.trans (if_neg c_9)
      refine lv_aload_n hx hb dX6_writeOn_56 rfl (lv_at hl 1 rfl) ?_
      refine xw_callv (va_runS (As := [.ref a0]) (rest := []) ⟨hx, hb, hml, hown, hts⟩ (c_X6_move l D y a0 H.size r7 (by rw [← er7]; exact okM_upd (by omega) (by rw [← er6]; exact okM_upd (by omega) (by rw [← h4]; exact okM_X6_layAt _ _ (by rw [← h2]; exact okP_placeWith _ _ _ _ (show okM r1 from (by rw [← er1]; exact okM_upd (by rw [(ix13 ol.1 (by have := om.2.1; have := ol.2; omega))]; omega) om)).1 (show okM r1 from (by rw [← er1]; exact okM_upd (by rw [(ix13 ol.1 (by have := om.2.1; have := ol.2; omega))]; omega) om)).2.1) (by rw [← er1]; exact okM_upd (by rw [(ix13 ol.1 (by have := om.2.1; have := ol.2; omega))]; omega) om))))) (va_cwS 1 hts gX6_writeOn_X6_move rfl rfl rfl hd_X6_move ⟨Nat.le_of_ble_eq_true rfl, Nat.le_of_ble_eq_true rfl⟩) (gS hE hP hD) rfl rfl hl.1 rfl (lv_room (Nat.le_of_ble_eq_true rfl)) dX6_writeOn_57 ⟨Nat.le_of_ble_eq_true rfl, Nat.le_of_ble_eq_true rfl⟩) hP hD hS hA [0] rfl (by decide) (fun _ => rfl) (fun u11 H locs h10 hP hD hS => ?_)
      have hF := hF.trans (gLet_e h10)
      have hP : va_P D vwCl [(a0, .inl (y 0, 78, .inl u11))] H := hP
      have hD : va_D A [(a0, .inl (y 0, 78, .inl u11))] := hD
      refine lv_iload_n hx hb dX6_writeOn_60 rfl (lv_at hl 0 rfl) ?_
      exact W.iret (v := (r ((13 + p1).toNatClampNeg))) hx hb hr (fun t ht hW => ⟨⟨(r ((13 + p1).toNatClampNeg)), u11, rfl, hF, ⟨by rw [ht]; exact hP, hD⟩⟩, hS.F ht⟩) hS.2.2 dX6_writeOn_61

def f_X6_hammerOn_L2 (p1 : Int32) (p2 : Int32) : Nat → Int32 → gR → Int32 × gR
  | 0, _, r_ => (0, r_)
  | n + 1, x3, r_ =>
    if p2 ≤ x3 then
    (x3, r_)
  else
    if (r_ 8) = 0 then
      gLet (f_X6_writeOn r_ p1 (r_ ((13 + p1).toNatClampNeg))) (fun (q6 : Int32 × gR) =>
        f_X6_hammerOn_L2 p1 p2 n (x3 + 1) q6.2)
    else
      (x3, r_)
theorem f_X6_hammerOn_L2_s (p1 : Int32) (p2 : Int32) (n : Nat) (x3 : Int32) (r_ : gR) : f_X6_hammerOn_L2 p1 p2 (n + 1) x3 r_ =
    (if p2 ≤ x3 then
    (x3, r_)
  else
    if (r_ 8) = 0 then
      gLet (f_X6_writeOn r_ p1 (r_ ((13 + p1).toNatClampNeg))) (fun (q6 : Int32 × gR) =>
        f_X6_hammerOn_L2 p1 p2 n (x3 + 1) q6.2)
    else
      (x3, r_)) := rfl
def f_X6_hammerOn (r : gR) (p1 : Int32) (p2 : Int32) : Int32 × gR :=
    f_X6_hammerOn_L2 p1 p2 ((p2.toInt - (0 : Int32).toInt).toNat + 1) 0 r
theorem f_X6_hammerOn_s (r : gR) (p1 : Int32) (p2 : Int32) : f_X6_hammerOn r p1 p2 =
    (f_X6_hammerOn_L2 p1 p2 ((p2.toInt - (0 : Int32).toInt).toNat + 1) 0 r) := rfl
theorem inv_X6_hammerOn_L2 (p1 p2 : Int32) : ∀ (n : Nat) (i : Int32) (r : gR), okM r → okL r p1 → okM (f_X6_hammerOn_L2 p1 p2 n i r).2 ∧ (f_X6_hammerOn_L2 p1 p2 n i r).2 0 = r 0
  | 0, i, r, h, hl => ⟨h, rfl⟩
  | n + 1, i, r, h, hl => by
    rw [f_X6_hammerOn_L2_s]
    simp only [gLet]
    repeat' split
    all_goals first | exact ⟨h, rfl⟩ | exact ⟨(inv_X6_hammerOn_L2 p1 p2 n _ _ (okM_X6_writeOn _ _ _ h hl) (okL_X6_writeOn _ _ _ h hl)).1, (inv_X6_hammerOn_L2 p1 p2 n _ _ (okM_X6_writeOn _ _ _ h hl) (okL_X6_writeOn _ _ _ h hl)).2.trans (z_X6_writeOn _ _ _ h hl)⟩
theorem okM_X6_hammerOn (r : gR) (p1 p2 : Int32) (om : okM r) (ol : okL r p1) : okM (f_X6_hammerOn r p1 p2).2 := (inv_X6_hammerOn_L2 _ _ _ _ _ om ol).1
theorem hd_X6_hammerOn : yX6_hammerOn.cls ≠ "java/lang/invoke/MethodHandle" ∧ yX6_hammerOn.cls ≠ "java/lang/invoke/VarHandle" ∧ (parseMethodDescriptor yX6_hammerOn.desc).map (fun d => d.parameters.length) = some 3 := by decide +kernel
set_option maxHeartbeats 4000000 in
set_option maxRecDepth 100000 in
theorem c_X6_hammerOn (l : Launch) (D : va_G) (y : Nat → ClassId) (a0 : Nat) (zh : Nat) (r : gR) (p1 : Int32) (p2 : Int32) (om : okM r) (ol : okL r p1) : Met l yX6_hammerOn wsX6_hammerOn ({ frames := 3, cells := 0, slots := 0, locals := 68 }) (gP D y [.ref a0, .int p1, .int p2] zh [(a0, .inl (y 0, 78, .inl r))]) (va_Qi (fun (v : Int32) (u : gR) => f_X6_hammerOn r p1 p2 = (v, u)) (fun (u : gR) t => va_P D vwCl [(a0, .inl (y 0, 78, .inl u))] t.heap ∧ va_D (va_A [(a0, .inl (y 0, 78, .inl r))] zh) [(a0, .inl (y 0, 78, .inl u))]) (va_A [(a0, .inl (y 0, 78, .inl r))] zh)) 0 0 (va_A [(a0, .inl (y 0, 78, .inl r))] zh) := by
  refine Met.ofW (cc := cX6_hammerOn) (maxL := 4) (ret := (some .int)) (by decide) rfl ?_
  intro p e s m args below meth c s₁ B hml hv
  obtain ⟨rfl, hsz, hP, hE, hD⟩ := hv
  have hx := B.exec
  have hb := B.bytes
  have hr := B.returns
  have hts := atoms_spec (ws := wsX6_hammerOn) B.pre
  have hown : s.vm.findClass RX6 = some m.cls := findClass_of_methodNamed B.named
  have hlocks := B.notSynchronized
  subst hsz
  have hD := hD.self (sz := s.heap.size)
  generalize hAe : va_A [(a0, .inl (y 0, 78, .inl r))] s.heap.size = A at hD ⊢
  have hA : ∀ q : Nat, s.heap.size ≤ q → A q := fun q h => by rw [← hAe]; exact Or.inr h
  have hS : va_S A s.heap s.heap [] := va_S.rf
  have hl := lv_entry ([.ref a0, .int p1, .int p2]) (n := 4) (Nat.le_of_ble_eq_true rfl)
  rw [lg_entry_eq]
  generalize (lg_sl ([.ref a0, .int p1, .int p2]) ++ List.replicate (4 - (lg_sl ([.ref a0, .int p1, .int p2])).length) Slot.unset).toArray = ls at hl ⊢
  have hl : lv_has ls 4 [(0, .ref a0), (1, .int p1), (2, .int p2)] := hl
  have loop_2 : ∀ (n : Nat) (x3 : Int32) (r_ : gR) (om_ : okM r_) (ol_ : okL r_ p1), (p2.toInt - x3.toInt).toNat < n → f_X6_hammerOn r p1 p2 = f_X6_hammerOn_L2 p1 p2 n x3 r_ → ∀ (H : Heap) (locs : List Loc), va_P D vwCl [(a0, .inl (y 0, 78, .inl r_))] H → va_D A [(a0, .inl (y 0, 78, .inl r_))] → va_S A s.heap H locs → ∀ (ls : Array Slot), lv_has ls 4 [(0, .ref a0), (1, .int p1), (2, .int p2), (3, .int x3)] → W p l e (headSpec wsX6_hammerOn ({ frames := 3, cells := 0, slots := 0, locals := 68 })).room s m ([.ref a0, .int p1, .int p2] : List Value).toArray below meth c H locs 0 0 (MQ below (va_Qi (fun (v : Int32) (u : gR) => f_X6_hammerOn r p1 p2 = (v, u)) (fun (u : gR) t => va_P D vwCl [(a0, .inl (y 0, 78, .inl u))] t.heap ∧ va_D (A) [(a0, .inl (y 0, 78, .inl u))]) A) ([.ref a0, .int p1, .int p2] : List Value).toArray s 0 0 A) (F0 m 2 ls []) := by
    intro n
    induction n with
    | zero =>
      intro x3 r_ om_ ol_ hμ
      exact absurd hμ (Nat.not_lt_zero _)
    | succ n ih =>
      intro x3 r_ om_ ol_ hμ hF H locs hP hD hS ls hl
      have hF := hF.trans (f_X6_hammerOn_L2_s p1 p2 n x3 r_)
      refine lv_iload_n hx hb dX6_hammerOn_2 rfl (lv_at hl 3 rfl) ?_
      refine lv_iload_n hx hb dX6_hammerOn_3 rfl (lv_at hl 2 rfl) ?_
      refine lv_icmp_ge (tgt := 32) hx hb dX6_hammerOn_4 (by decide) (fun c_1 => ?_) (fun c_1 => ?_)
      · have hF := hF.trans (if_pos c_1)
        refine lv_iload_n hx hb dX6_hammerOn_32 rfl (lv_at hl 3 rfl) ?_
        exact W.iret (v := x3) hx hb hr (fun t ht hW => ⟨⟨x3, r_, rfl, hF, ⟨by rw [ht]; exact hP, hD⟩⟩, hS.F ht⟩) hS.2.2 dX6_hammerOn_33
      · have hF := hF.trans (if_neg c_1)
        refine lv_aload_n hx hb dX6_hammerOn_7 rfl (lv_at hl 0 rfl) ?_
        refine lv_bipush (v := 8) hx hb dX6_hammerOn_8 (by decide) ?_
        refine xa_iald (k := 8) (v := r_ 8) hx hb hE.1 hP 0 0 rfl rfl (xin (by decide)) rfl rfl dX6_hammerOn_10 ?_
        refine lv_if_ne (tgt := 32) hx hb dX6_hammerOn_11 (by decide) (fun c_2 => ?_) (fun c_2 => ?_)
        · have hF := hF.trans (if_neg c_2)
          refine lv_iload_n hx hb dX6_hammerOn_32 rfl (lv_at hl 3 rfl) ?_
          exact W.iret (v := x3) hx hb hr (fun t ht hW => ⟨⟨x3, r_, rfl, hF, ⟨by rw [ht]; exact hP, hD⟩⟩, hS.F ht⟩) hS.2.2 dX6_hammerOn_33
        · have hF := hF.trans (if_pos c_2)
          refine lv_aload_n hx hb dX6_hammerOn_14 rfl (lv_at hl 0 rfl) ?_
          refine lv_iload_n hx hb dX6_hammerOn_15 rfl (lv_at hl 1 rfl) ?_
          refine lv_aload_n hx hb dX6_hammerOn_16 rfl (lv_at hl 0 rfl) ?_
          refine lv_bipush (v := 13) hx hb dX6_hammerOn_17 (by decide) ?_
          refine lv_iload_n hx hb dX6_hammerOn_19 rfl (lv_at hl 1 rfl) ?_
          refine lv_iadd hx hb dX6_hammerOn_20 ?_
          refine xa_iald (k := (13 + p1).toNatClampNeg) (v := r_ ((13 + p1).toNatClampNeg)) hx hb hE.1 hP 0 0 rfl rfl (in13 ol_.1 (by have := om_.2.1; have := ol_.2; omega)) rfl rfl dX6_hammerOn_21 ?_
          refine xw_calli (va_runS (As := [.ref a0, .int p1, .int (r_ ((13 + p1).toNatClampNeg))]) (rest := []) ⟨hx, hb, hml, hown, hts⟩ (c_X6_writeOn l D y a0 H.size r_ p1 (r_ ((13 + p1).toNatClampNeg)) om_ ol_) (va_cwS 3 hts gX6_hammerOn_X6_writeOn rfl rfl rfl hd_X6_writeOn ⟨Nat.le_of_ble_eq_true rfl, Nat.le_of_ble_eq_true rfl⟩) (gS hE hP hD) rfl rfl hl.1 rfl (lv_room (Nat.le_of_ble_eq_true rfl)) dX6_hammerOn_22 ⟨Nat.le_of_ble_eq_true rfl, Nat.le_of_ble_eq_true rfl⟩) hP hD hS hA [0] rfl (by decide) (fun _ => rfl) (fun v5 u4 H locs h3 hP hD hS => ?_)
          obtain ⟨q6, eq6⟩ : ∃ z : Int32 × gR, f_X6_writeOn r_ p1 (r_ ((13 + p1).toNatClampNeg)) = z := ⟨_, rfl⟩
          obtain ⟨rfl, rfl⟩ : q6.1 = v5 ∧ q6.2 = u4 := ⟨by rw [← eq6, h3], by rw [← eq6, h3]⟩
          have hF := hF.trans (gLet_e eq6)
          have hP : va_P D vwCl [(a0, .inl (y 0, 78, .inl q6.2))] H := hP
          have hD : va_D A [(a0, .inl (y 0, 78, .inl q6.2))] := hD
          refine lv_pop hx hb dX6_hammerOn_25 rfl ?_
          refine lv_iinc (v := (x3 + 1)) (lv' := [(3, .int (x3 + 1)), (0, .ref a0), (1, .int p1), (2, .int p2)]) hx hb dX6_hammerOn_26 hl (k := 3) rfl rfl (by decide) rfl (fun ls hl => ?_)
          refine lv_goto (tgt := 2) hx hb dX6_hammerOn_29 (by decide) ?_
          exact ih (x3 + 1) q6.2 (by rw [← eq6]; exact okM_X6_writeOn _ _ _ om_ ol_) (by rw [← eq6]; exact okL_X6_writeOn _ _ _ om_ ol_) (lp_up (by assumption) hμ) hF _ _ hP hD hS ls (lv_sub hl [1, 2, 3, 0] rfl)
  have hF := f_X6_hammerOn_s r p1 p2
  refine lv_iconst (v := 0) hx hb dX6_hammerOn_0 (by decide) ?_
  refine lv_istore_n (lv' := [(3, .int 0), (0, .ref a0), (1, .int p1), (2, .int p2)]) hx hb dX6_hammerOn_1 rfl hl (by decide) rfl (fun ls hl => ?_)
  exact loop_2 _ 0 r (om) (ol) (Nat.lt_succ_self _) hF _ _ hP hD hS ls (lv_sub hl [1, 2, 3, 0] rfl)

def f_X6_allOn_L2 (p1 : Int32) : Nat → Int32 → gR → Int32 × gR
  | 0, _, r_ => (0, r_)
  | n + 1, x2, r_ =>
    if p1 ≤ x2 then
    (x2, r_)
  else
    if (r_ 8) = 0 then
      gLet (x2 - x2 / (r_ 0) * (r_ 0)) (fun (v3 : Int32) =>
        gLet (f_X6_writeOn r_ v3 (r_ ((13 + v3).toNatClampNeg))) (fun (q7 : Int32 × gR) =>
          f_X6_allOn_L2 p1 n (x2 + 1) q7.2))
    else
      (x2, r_)
theorem f_X6_allOn_L2_s (p1 : Int32) (n : Nat) (x2 : Int32) (r_ : gR) : f_X6_allOn_L2 p1 (n + 1) x2 r_ =
    (if p1 ≤ x2 then
    (x2, r_)
  else
    if (r_ 8) = 0 then
      gLet (x2 - x2 / (r_ 0) * (r_ 0)) (fun (v3 : Int32) =>
        gLet (f_X6_writeOn r_ v3 (r_ ((13 + v3).toNatClampNeg))) (fun (q7 : Int32 × gR) =>
          f_X6_allOn_L2 p1 n (x2 + 1) q7.2))
    else
      (x2, r_)) := rfl
def f_X6_allOn (r : gR) (p1 : Int32) : Int32 × gR :=
    f_X6_allOn_L2 p1 ((p1.toInt - (0 : Int32).toInt).toNat + 1) 0 r
theorem f_X6_allOn_s (r : gR) (p1 : Int32) : f_X6_allOn r p1 =
    (f_X6_allOn_L2 p1 ((p1.toInt - (0 : Int32).toInt).toNat + 1) 0 r) := rfl
theorem inv_X6_allOn_L2 (p1 : Int32) : ∀ (n : Nat) (i : Int32) (r : gR), okM r → 0 ≤ i.toInt → okM (f_X6_allOn_L2 p1 n i r).2 ∧ (f_X6_allOn_L2 p1 n i r).2 0 = r 0
  | 0, i, r, h, hi => ⟨h, rfl⟩
  | n + 1, i, r, h, hi => by
    rw [f_X6_allOn_L2_s]
    split
    · exact ⟨h, rfl⟩
    · rename_i c
      split
      · simp only [gLet]
        have hl : okL r (i - i / r 0 * r 0) := al_ix h hi rfl
        have q := inv_X6_allOn_L2 p1 n (i + 1) _ (okM_X6_writeOn r (i - i / r 0 * r 0) (r ((13 + (i - i / r 0 * r 0)).toNatClampNeg)) h hl) (up_nn2 c hi)
        exact ⟨q.1, q.2.trans (z_X6_writeOn _ _ _ h hl)⟩
      · exact ⟨h, rfl⟩
theorem okM_X6_allOn (r : gR) (p1 : Int32) (om : okM r) : okM (f_X6_allOn r p1).2 := (inv_X6_allOn_L2 _ _ _ _ om (by decide)).1
theorem hd_X6_allOn : yX6_allOn.cls ≠ "java/lang/invoke/MethodHandle" ∧ yX6_allOn.cls ≠ "java/lang/invoke/VarHandle" ∧ (parseMethodDescriptor yX6_allOn.desc).map (fun d => d.parameters.length) = some 2 := by decide +kernel
set_option maxHeartbeats 4000000 in
set_option maxRecDepth 100000 in
theorem c_X6_allOn (l : Launch) (D : va_G) (y : Nat → ClassId) (a0 : Nat) (zh : Nat) (r : gR) (p1 : Int32) (om : okM r) : Met l yX6_allOn wsX6_allOn ({ frames := 3, cells := 0, slots := 0, locals := 68 }) (gP D y [.ref a0, .int p1] zh [(a0, .inl (y 0, 78, .inl r))]) (va_Qi (fun (v : Int32) (u : gR) => f_X6_allOn r p1 = (v, u)) (fun (u : gR) t => va_P D vwCl [(a0, .inl (y 0, 78, .inl u))] t.heap ∧ va_D (va_A [(a0, .inl (y 0, 78, .inl r))] zh) [(a0, .inl (y 0, 78, .inl u))]) (va_A [(a0, .inl (y 0, 78, .inl r))] zh)) 0 0 (va_A [(a0, .inl (y 0, 78, .inl r))] zh) := by
  refine Met.ofW (cc := cX6_allOn) (maxL := 4) (ret := (some .int)) (by decide) rfl ?_
  intro p e s m args below meth c s₁ B hml hv
  obtain ⟨rfl, hsz, hP, hE, hD⟩ := hv
  have hx := B.exec
  have hb := B.bytes
  have hr := B.returns
  have hts := atoms_spec (ws := wsX6_allOn) B.pre
  have hown : s.vm.findClass RX6 = some m.cls := findClass_of_methodNamed B.named
  have hlocks := B.notSynchronized
  subst hsz
  have hD := hD.self (sz := s.heap.size)
  generalize hAe : va_A [(a0, .inl (y 0, 78, .inl r))] s.heap.size = A at hD ⊢
  have hA : ∀ q : Nat, s.heap.size ≤ q → A q := fun q h => by rw [← hAe]; exact Or.inr h
  have hS : va_S A s.heap s.heap [] := va_S.rf
  have hl := lv_entry ([.ref a0, .int p1]) (n := 4) (Nat.le_of_ble_eq_true rfl)
  rw [lg_entry_eq]
  generalize (lg_sl ([.ref a0, .int p1]) ++ List.replicate (4 - (lg_sl ([.ref a0, .int p1])).length) Slot.unset).toArray = ls at hl ⊢
  have hl : lv_has ls 4 [(0, .ref a0), (1, .int p1)] := hl
  have loop_2 : ∀ (n : Nat) (x2 : Int32) (r_ : gR) (om_ : okM r_) (hx2 : 0 ≤ x2.toInt), (p1.toInt - x2.toInt).toNat < n → f_X6_allOn r p1 = f_X6_allOn_L2 p1 n x2 r_ → ∀ (H : Heap) (locs : List Loc), va_P D vwCl [(a0, .inl (y 0, 78, .inl r_))] H → va_D A [(a0, .inl (y 0, 78, .inl r_))] → va_S A s.heap H locs → ∀ (ls : Array Slot), lv_has ls 4 [(0, .ref a0), (1, .int p1), (2, .int x2)] → W p l e (headSpec wsX6_allOn ({ frames := 3, cells := 0, slots := 0, locals := 68 })).room s m ([.ref a0, .int p1] : List Value).toArray below meth c H locs 0 0 (MQ below (va_Qi (fun (v : Int32) (u : gR) => f_X6_allOn r p1 = (v, u)) (fun (u : gR) t => va_P D vwCl [(a0, .inl (y 0, 78, .inl u))] t.heap ∧ va_D (A) [(a0, .inl (y 0, 78, .inl u))]) A) ([.ref a0, .int p1] : List Value).toArray s 0 0 A) (F0 m 2 ls []) := by
    intro n
    induction n with
    | zero =>
      intro x2 r_ om_ hx2 hμ
      exact absurd hμ (Nat.not_lt_zero _)
    | succ n ih =>
      intro x2 r_ om_ hx2 hμ hF H locs hP hD hS ls hl
      have hF := hF.trans (f_X6_allOn_L2_s p1 n x2 r_)
      refine lv_iload_n hx hb dX6_allOn_2 rfl (lv_at hl 2 rfl) ?_
      refine lv_iload_n hx hb dX6_allOn_3 rfl (lv_at hl 1 rfl) ?_
      refine lv_icmp_ge (tgt := 38) hx hb dX6_allOn_4 (by decide) (fun c_1 => ?_) (fun c_1 => ?_)
      · have hF := hF.trans (if_pos c_1)
        refine lv_iload_n hx hb dX6_allOn_38 rfl (lv_at hl 2 rfl) ?_
        exact W.iret (v := x2) hx hb hr (fun t ht hW => ⟨⟨x2, r_, rfl, hF, ⟨by rw [ht]; exact hP, hD⟩⟩, hS.F ht⟩) hS.2.2 dX6_allOn_39
      · have hF := hF.trans (if_neg c_1)
        refine lv_aload_n hx hb dX6_allOn_7 rfl (lv_at hl 0 rfl) ?_
        refine lv_bipush (v := 8) hx hb dX6_allOn_8 (by decide) ?_
        refine xa_iald (k := 8) (v := r_ 8) hx hb hE.1 hP 0 0 rfl rfl (xin (by decide)) rfl rfl dX6_allOn_10 ?_
        refine lv_if_ne (tgt := 38) hx hb dX6_allOn_11 (by decide) (fun c_2 => ?_) (fun c_2 => ?_)
        · have hF := hF.trans (if_neg c_2)
          refine lv_iload_n hx hb dX6_allOn_38 rfl (lv_at hl 2 rfl) ?_
          exact W.iret (v := x2) hx hb hr (fun t ht hW => ⟨⟨x2, r_, rfl, hF, ⟨by rw [ht]; exact hP, hD⟩⟩, hS.F ht⟩) hS.2.2 dX6_allOn_39
        · have hF := hF.trans (if_pos c_2)
          refine lv_iload_n hx hb dX6_allOn_14 rfl (lv_at hl 2 rfl) ?_
          refine lv_aload_n hx hb dX6_allOn_15 rfl (lv_at hl 0 rfl) ?_
          refine lv_iconst (v := 0) hx hb dX6_allOn_16 (by decide) ?_
          refine xa_iald (k := 0) (v := r_ 0) hx hb hE.1 hP 0 0 rfl rfl (xin (by decide)) rfl rfl dX6_allOn_17 ?_
          refine lv_irem hx hb dX6_allOn_18 (okM_ne om_) ?_
          obtain ⟨v3, ev3⟩ : ∃ z : Int32, x2 - x2 / (r_ 0) * (r_ 0) = z := ⟨_, rfl⟩
          rw [ev3]
          have hF := hF.trans (gLet_e ev3)
          refine lv_istore_n (lv' := [(3, .int v3), (0, .ref a0), (1, .int p1), (2, .int x2)]) hx hb dX6_allOn_19 rfl hl (by decide) rfl (fun ls hl => ?_)
          refine lv_aload_n hx hb dX6_allOn_20 rfl (lv_at hl 1 rfl) ?_
          refine lv_iload_n hx hb dX6_allOn_21 rfl (lv_at hl 0 rfl) ?_
          refine lv_aload_n hx hb dX6_allOn_22 rfl (lv_at hl 1 rfl) ?_
          refine lv_bipush (v := 13) hx hb dX6_allOn_23 (by decide) ?_
          refine lv_iload_n hx hb dX6_allOn_25 rfl (lv_at hl 0 rfl) ?_
          refine lv_iadd hx hb dX6_allOn_26 ?_
          refine xa_iald (k := (13 + v3).toNatClampNeg) (v := r_ ((13 + v3).toNatClampNeg)) hx hb hE.1 hP 0 0 rfl rfl (al_in om_ hx2 ev3) rfl rfl dX6_allOn_27 ?_
          refine xw_calli (va_runS (As := [.ref a0, .int v3, .int (r_ ((13 + v3).toNatClampNeg))]) (rest := []) ⟨hx, hb, hml, hown, hts⟩ (c_X6_writeOn l D y a0 H.size r_ v3 (r_ ((13 + v3).toNatClampNeg)) om_ (al_ix om_ hx2 ev3)) (va_cwS 3 hts gX6_allOn_X6_writeOn rfl rfl rfl hd_X6_writeOn ⟨Nat.le_of_ble_eq_true rfl, Nat.le_of_ble_eq_true rfl⟩) (gS hE hP hD) rfl rfl hl.1 rfl (lv_room (Nat.le_of_ble_eq_true rfl)) dX6_allOn_28 ⟨Nat.le_of_ble_eq_true rfl, Nat.le_of_ble_eq_true rfl⟩) hP hD hS hA [0] rfl (by decide) (fun _ => rfl) (fun v6 u5 H locs h4 hP hD hS => ?_)
          obtain ⟨q7, eq7⟩ : ∃ z : Int32 × gR, f_X6_writeOn r_ v3 (r_ ((13 + v3).toNatClampNeg)) = z := ⟨_, rfl⟩
          obtain ⟨rfl, rfl⟩ : q7.1 = v6 ∧ q7.2 = u5 := ⟨by rw [← eq7, h4], by rw [← eq7, h4]⟩
          have hF := hF.trans (gLet_e eq7)
          have hP : va_P D vwCl [(a0, .inl (y 0, 78, .inl q7.2))] H := hP
          have hD : va_D A [(a0, .inl (y 0, 78, .inl q7.2))] := hD
          refine lv_pop hx hb dX6_allOn_31 rfl ?_
          refine lv_iinc (v := (x2 + 1)) (lv' := [(2, .int (x2 + 1)), (3, .int v3), (0, .ref a0), (1, .int p1)]) hx hb dX6_allOn_32 hl (k := 3) rfl rfl (by decide) rfl (fun ls hl => ?_)
          refine lv_goto (tgt := 2) hx hb dX6_allOn_35 (by decide) ?_
          exact ih (x2 + 1) q7.2 (by rw [← eq7]; exact okM_X6_writeOn _ _ _ om_ (al_ix om_ hx2 ev3)) (up_nn2 (by assumption) hx2) (lp_up (by assumption) hμ) hF _ _ hP hD hS ls (lv_sub hl [2, 3, 0] rfl)
  have hF := f_X6_allOn_s r p1
  refine lv_iconst (v := 0) hx hb dX6_allOn_0 (by decide) ?_
  refine lv_istore_n (lv' := [(2, .int 0), (0, .ref a0), (1, .int p1)]) hx hb dX6_allOn_1 rfl hl (by decide) rfl (fun ls hl => ?_)
  exact loop_2 _ 0 r (om) (by decide) (Nat.lt_succ_self _) hF _ _ hP hD hS ls (lv_sub hl [1, 2, 0] rfl)
