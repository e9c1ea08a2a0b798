/-! THE REFERENCE: WHAT IT ANSWERS -/
theorem okA0 : okA 0 78 := by unfold okA; decide
theorem okA78 {x : Int32} {N : Nat} (k : Nat) (h0 : 0 ≤ x.toInt) (h1 : x.toInt ≤ k) (hN : 78 * (k + 1) ≤ N) (hM : N ≤ 2000) : okA (78 * x) N := by
  have e : (78 : Int32).toInt = 78 := (by decide)
  have h2 : (78 * x).toInt = 78 * x.toInt := by
    rw [Int32.toInt_mul, e]
    exact Int.bmod_eq_of_le (by simp; omega) (by simp; omega)
  unfold okA
  rw [h2]
  refine ⟨by omega, by omega, hM⟩
theorem ac_m1 {ac : Int32} (h : 0 ≤ ac.toInt ∧ ac.toInt ≤ 14) (c : ¬ ac = 0) : 0 ≤ (ac - 1).toInt ∧ (ac - 1).toInt ≤ 13 := by
  have e : (1 : Int32).toInt = 1 := (by decide)
  have e0 : (0 : Int32).toInt = 0 := (by decide)
  have c2 : ¬ ac.toInt = 0 := fun q => c (i_eq.mpr (q.trans e0.symm))
  rw [i_sub (by omega) (by omega), e]
  omega
theorem ac_14 {ac : Int32} (c : ac = 14) : ¬ ac = 0 := by rw [c]; decide
theorem ac_l {ac : Int32} (h : 0 ≤ ac.toInt ∧ ac.toInt ≤ 14) (c : ¬ ac = 14) : ac.toInt ≤ 13 := by
  have e : (14 : Int32).toInt = 14 := (by decide)
  have c2 : ¬ ac.toInt = 14 := fun q => c (i_eq.mpr (q.trans e.symm))
  omega
theorem ix78 {x : Int32} (h0 : 0 ≤ x.toInt) (h : ¬ 1014 ≤ x) : vp_in (x + 78) 1092 := by
  have h1 := i_lt.mp (Int32.not_le.mp h)
  have e : (1014 : Int32).toInt = 1014 := (by decide)
  have e2 : (78 : Int32).toInt = 78 := (by decide)
  have h2 : (x + 78).toInt = x.toInt + 78 := by rw [i_add (by omega) (by omega), e2]
  exact xin2 (by omega) (by omega)
theorem in_i {x v : Int32} {a b : Int64} (h : f_X6_in x.toInt64 a b = v) (c : ¬ v = 0) : a.toInt ≤ x.toInt ∧ x.toInt ≤ b.toInt := by
  subst h
  have := (in_iff _ _ _).mp c
  rwa [Int32.toInt_toInt64] at this
theorem in01 {x v : Int32} (h : f_X6_in x.toInt64 0 1 = v) (c : ¬ v = 0) : 0 ≤ x.toInt ∧ x.toInt ≤ 1 := by
  have := in_i h c
  have e : (1 : Int64).toInt = 1 := (by decide)
  have e0 : (0 : Int64).toInt = 0 := (by decide)
  omega
theorem ip_ok {r : gR} {p v : Int32} (h : f_X6_isPlace r p = v) (c : ¬ v = 0) : 0 < (r 0).toInt ∧ 0 ≤ p.toInt ∧ p.toInt ≤ (r 0).toInt := by
  subst h
  unfold f_X6_isPlace gLet at c
  by_cases d : r 0 ≤ 0
  · simp [d] at c
  · by_cases q : f_X6_in p.toInt64 0 (r 0).toInt64 = 0
    · simp [d, q] at c
    · have h1 := in_i rfl q
      rw [Int32.toInt_toInt64] at h1
      have e0 : (0 : Int64).toInt = 0 := (by decide)
      have d1 := i_lt.mp (Int32.not_le.mp d)
      have e1 : (0 : Int32).toInt = 0 := (by decide)
      omega
theorem sg_in {a b v : Int32} (h : f_X6_isSetting a b = v) (c : ¬ v = 0) : a = 0 ∨ a = 1 := by
  subst h
  unfold f_X6_isSetting gLet at c
  by_cases d : a = 0
  · exact Or.inl d
  · by_cases q : a = 1
    · exact Or.inr q
    · simp [d, q] at c
theorem sg_ne {a b v : Int32} (h : f_X6_isSetting a b = v) (c : ¬ v = 0) : (11 + a).toNatClampNeg ≠ 0 ∧ (11 + a).toNatClampNeg ≠ 3 := by
  rcases sg_in h c with q | q <;> rw [q] <;> decide
theorem sg_ix {a b v : Int32} (h : f_X6_isSetting a b = v) (c : ¬ v = 0) : vp_in (11 + a) 78 := by
  rcases sg_in h c with q | q <;> rw [q] <;> exact xin (by decide)
theorem ix11 {x : Int32} (h : 0 ≤ x.toInt ∧ x.toInt ≤ 1) : vp_in (11 + x) 78 := by
  have e : (11 : Int32).toInt = 11 := (by decide)
  have h2 : (11 + x).toInt = 11 + x.toInt := by rw [i_add (by omega) (by omega), e]
  exact xin2 (by omega) (by omega)
theorem ab_in {x v : Int32} (h : f_X6_in x.toInt64 0 11 = v) (c : ¬ v = 0) (d : ¬ x = 0) : vp_in (x - 1) 78 := by
  have q := in_i h c
  have e : (11 : Int64).toInt = 11 := (by decide)
  have e0 : (0 : Int64).toInt = 0 := (by decide)
  have e1 : (1 : Int32).toInt = 1 := (by decide)
  have e2 : (0 : Int32).toInt = 0 := (by decide)
  have d2 : ¬ x.toInt = 0 := fun z => d (i_eq.mpr (z.trans e2.symm))
  have h2 : (x - 1).toInt = x.toInt - 1 := by rw [i_sub (by omega) (by omega), e1]
  exact xin2 (by omega) (by omega)
theorem dn_dec {x : Int32} {n : Nat} (h : ¬ x ≤ 0) (hμ : x.toInt.toNat < n + 1) : (x + (-1)).toInt.toNat < n := by
  have h1 := i_lt.mp (Int32.not_le.mp h)
  have e : (0 : Int32).toInt = 0 := (by decide)
  have e1 : (-1 : Int32).toInt = -1 := (by decide)
  have h2 := i_hi x
  rw [i_add (by omega) (by omega), e1]
  omega
/-- a row copied: it is the other one, as far as it goes -/
theorem cp_L (f0 : Nat → Int32) (p q : Int32) (hp : okA p 2000) (hq : okA q 2000) : ∀ (n : Nat) (x : Int32) (f1 : Nat → Int32), 0 ≤ x.toInt → ((78 : Int32).toInt - x.toInt).toNat < n →
    ∀ k, f_X6_copyState_L3 f0 p q n x f1 k = if q.toInt.toNat + x.toInt.toNat ≤ k ∧ k < q.toInt.toNat + 78 then f0 (p.toInt.toNat + (k - q.toInt.toNat)) else f1 k
  | 0, x, f1, h0, hμ => absurd hμ (Nat.not_lt_zero _)
  | n + 1, x, f1, h0, hμ => by
    intro k
    rw [f_X6_copyState_L3_s]
    have e : (78 : Int32).toInt = 78 := (by decide)
    obtain ⟨p1, p2, p3⟩ := hp
    obtain ⟨q1, q2, q3⟩ := hq
    split
    · rename_i c
      have c2 := i_le.mp c
      rw [if_neg (by omega)]
    · rename_i c
      have c1 := Int32.not_le.mp c
      have c2 := i_lt.mp c1
      have e2 := i_up c1
      have a1 : (p + x).toInt = p.toInt + x.toInt := i_add (by omega) (by omega)
      have a2 : (q + x).toInt = q.toInt + x.toInt := i_add (by omega) (by omega)
      simp only [gLet]
      rw [cp_L f0 p q ⟨p1, p2, p3⟩ ⟨q1, q2, q3⟩ n (x + 1) _ (by omega) (lp_up c hμ) k, e2]
      have b1 : (p + x).toNatClampNeg = p.toInt.toNat + x.toInt.toNat := by show (p + x).toInt.toNat = _; omega
      have b2 : (q + x).toNatClampNeg = q.toInt.toNat + x.toInt.toNat := by show (q + x).toInt.toNat = _; omega
      rw [b1, b2]
      by_cases d : k = q.toInt.toNat + x.toInt.toNat
      · rw [if_neg (by omega), if_pos (by omega), d, upd_eq]
        congr 1
        omega
      · rw [upd_ne d]
        by_cases d2 : q.toInt.toNat + x.toInt.toNat ≤ k ∧ k < q.toInt.toNat + 78
        · rw [if_pos (by omega), if_pos d2]
        · rw [if_neg (by omega), if_neg d2]
theorem okA_2 {p : Int32} {N : Nat} (h : okA p N) : okA p 2000 := ⟨h.1, by have := h.2.1; have := h.2.2; omega, Nat.le_refl _⟩
theorem cp_eq (N0 : Nat) (f0 : Nat → Int32) (N1 : Nat) (f1 : Nat → Int32) (p q : Int32) (hp : okA p N0) (hq : okA q N1) (k : Nat) : f_X6_copyState N0 f0 N1 f1 p q k = if q.toInt.toNat ≤ k ∧ k < q.toInt.toNat + 78 then f0 (p.toInt.toNat + (k - q.toInt.toNat)) else f1 k := by
  rw [f_X6_copyState_s, cp_L f0 p q (okA_2 hp) (okA_2 hq) _ 0 f1 (by decide) (Nat.lt_succ_self _) k]
  have e : (0 : Int32).toInt.toNat = 0 := (by decide)
  rw [e, Nat.add_zero]
theorem cp_00 (f0 f1 : Nat → Int32) {k : Nat} (hk : k < 78) : f_X6_copyState 78 f0 78 f1 0 0 k = f0 k := by
  have e : (0 : Int32).toInt.toNat = 0 := (by decide)
  rw [cp_eq 78 f0 78 f1 0 0 okA0 okA0 k, e, if_pos (by omega)]
  congr 1
  omega
theorem cp_okM {f0 : gR} (f1 : gR) (h : okM f0) : okM (f_X6_copyState 78 f0 78 f1 0 0) := by
  unfold okM at h ⊢
  rw [cp_00 f0 f1 (by decide), cp_00 f0 f1 (by decide)]
  exact h
theorem cp_okN {f0 : gR} (f1 : gR) (h : okN f0) : okN (f_X6_copyState 78 f0 78 f1 0 0) := by
  unfold okN at h ⊢
  rw [cp_00 f0 f1 (by decide), cp_00 f0 f1 (by decide)]
  exact h
theorem cp_okL {f0 : gR} (f1 : gR) {l : Int32} (h : okL f0 l) : okL (f_X6_copyState 78 f0 78 f1 0 0) l := by
  unfold okL at h ⊢
  rw [cp_00 f0 f1 (by decide)]
  exact h
theorem ixap {sz : Int32} (h : 0 ≤ sz.toInt ∧ sz.toInt ≤ 120) (c : ¬ sz = 120) : vp_in sz 120 := by
  have e : (120 : Int32).toInt = 120 := (by decide)
  have c2 : ¬ sz.toInt = 120 := fun q => c (i_eq.mpr (q.trans e.symm))
  exact xin2 h.1 (by omega)
theorem ip_ne {r : gR} {p v : Int32} (h : f_X6_isPlace r p = v) (c : ¬ v = 0) : ¬ r 0 = 0 := by
  intro e
  have := (ip_ok h c).1
  rw [e] at this
  exact absurd this (by decide)
theorem ip_okP {r : gR} {p v : Int32} (h : f_X6_isPlace r p = v) (c : ¬ v = 0) (hn : okN r) : okP p := by
  have := ip_ok h c
  exact ⟨by omega, by have := hn.2.1; omega⟩

def f_X6_remember_L11 (ac : Int32) (nw : gR) : Nat → Int32 → (Nat → Int32) → Int32 × (Nat → Int32)
  | 0, _, dy_ => (ac, dy_)
  | n + 1, x1, dy_ =>
    if 1014 ≤ x1 then
    gLet (f_X6_copyState 78 nw 1092 dy_ 0 (78 * (ac - 1))) (fun (u3 : (Nat → Int32)) =>
      (((ac - 1) + 1), u3))
  else
    gLet (upd dy_ x1.toNatClampNeg (dy_ ((x1 + 78).toNatClampNeg))) (fun (r4 : Nat → Int32) =>
      f_X6_remember_L11 ac nw n (x1 + 1) r4)
theorem f_X6_remember_L11_s (ac : Int32) (nw : gR) (n : Nat) (x1 : Int32) (dy_ : Nat → Int32) : f_X6_remember_L11 ac nw (n + 1) x1 dy_ =
    (if 1014 ≤ x1 then
    gLet (f_X6_copyState 78 nw 1092 dy_ 0 (78 * (ac - 1))) (fun (u3 : (Nat → Int32)) =>
      (((ac - 1) + 1), u3))
  else
    gLet (upd dy_ x1.toNatClampNeg (dy_ ((x1 + 78).toNatClampNeg))) (fun (r4 : Nat → Int32) =>
      f_X6_remember_L11 ac nw n (x1 + 1) r4)) := rfl
def f_X6_remember (rf : Int32) (sz : Int32) (ac : Int32) (sp : Int32) (ou : Int32) (nw : gR) (dy : Nat → Int32) : Int32 × (Nat → Int32) :=
    if ac = 14 then
    f_X6_remember_L11 ac nw (((1014 : Int32).toInt - (0 : Int32).toInt).toNat + 1) 0 dy
  else
    gLet (f_X6_copyState 78 nw 1092 dy 0 (78 * ac)) (fun (u7 : (Nat → Int32)) =>
      ((ac + 1), u7))
theorem f_X6_remember_s (rf : Int32) (sz : Int32) (ac : Int32) (sp : Int32) (ou : Int32) (nw : gR) (dy : Nat → Int32) : f_X6_remember rf sz ac sp ou nw dy =
    (if ac = 14 then
    f_X6_remember_L11 ac nw (((1014 : Int32).toInt - (0 : Int32).toInt).toNat + 1) 0 dy
  else
    gLet (f_X6_copyState 78 nw 1092 dy 0 (78 * ac)) (fun (u7 : (Nat → Int32)) =>
      ((ac + 1), u7))) := rfl
theorem hd_X6_remember : yX6_remember.cls = RX6 ∧ yX6_remember.cls ≠ "java/lang/invoke/MethodHandle" ∧ yX6_remember.cls ≠ "java/lang/invoke/VarHandle" ∧ (parseMethodDescriptor yX6_remember.desc).map (fun d => d.parameters.length) = some 0 := by decide +kernel
set_option maxHeartbeats 4000000 in
set_option maxRecDepth 100000 in
theorem c_X6_remember (l : Launch) (D : va_G) (y : Nat → ClassId) (a0 a1 a2 a3 a4 a5 a6 : Nat) (zh : Nat) (rf : Int32) (sz : Int32) (ac : Int32) (sp : Int32) (ou : Int32) (nw : gR) (dy : Nat → Int32) (hac : 0 ≤ ac.toInt ∧ ac.toInt ≤ 14) : Met l yX6_remember wsX6_remember ({ frames := 1, cells := 0, slots := 0, locals := 24 }) (gP D y [.ref a0] zh [(a0, .inr (5, [.int rf, .ref a1, .int sz, .ref a2, .ref a3, .ref a4, .int ac, .ref a5, .ref a6, .int sp, .int ou])), (a2, .inl (y 0, 78, .inl nw)), (a4, .inl (y 0, 1092, .inl dy))]) (va_Qv (fun u : Int32 × (Nat → Int32) => f_X6_remember rf sz ac sp ou nw dy = u) (fun (u : Int32 × (Nat → Int32)) t => va_P D vwCl [(a0, .inr (5, [.int rf, .ref a1, .int sz, .ref a2, .ref a3, .ref a4, .int u.1, .ref a5, .ref a6, .int sp, .int ou])), (a2, .inl (y 0, 78, .inl nw)), (a4, .inl (y 0, 1092, .inl u.2))] t.heap ∧ va_D (va_A [(a0, .inr (5, [.int rf, .ref a1, .int sz, .ref a2, .ref a3, .ref a4, .int ac, .ref a5, .ref a6, .int sp, .int ou])), (a2, .inl (y 0, 78, .inl nw)), (a4, .inl (y 0, 1092, .inl dy))] zh) [(a0, .inr (5, [.int rf, .ref a1, .int sz, .ref a2, .ref a3, .ref a4, .int u.1, .ref a5, .ref a6, .int sp, .int ou])), (a2, .inl (y 0, 78, .inl nw)), (a4, .inl (y 0, 1092, .inl u.2))]) (va_A [(a0, .inr (5, [.int rf, .ref a1, .int sz, .ref a2, .ref a3, .ref a4, .int ac, .ref a5, .ref a6, .int sp, .int ou])), (a2, .inl (y 0, 78, .inl nw)), (a4, .inl (y 0, 1092, .inl dy))] zh)) 0 0 (va_A [(a0, .inr (5, [.int rf, .ref a1, .int sz, .ref a2, .ref a3, .ref a4, .int ac, .ref a5, .ref a6, .int sp, .int ou])), (a2, .inl (y 0, 78, .inl nw)), (a4, .inl (y 0, 1092, .inl dy))] zh) := by
  refine Met.ofW (cc := cX6_remember) (maxL := 2) (ret := none) (by decide) rfl ?_
  intro p e s m args below meth c s₁ B hml hv
  obtain ⟨rfl, hsz, hP, hE, hD⟩ := hv
  have hx := B.exec
  have hb := B.bytes
  have hr := B.returns
  have hts := atoms_spec (ws := wsX6_remember) B.pre
  have hown : s.vm.findClass RX6 = some m.cls := findClass_of_methodNamed B.named
  have hlocks := B.notSynchronized
  have w_0 := hts (.fieldLink RX6 131 "GapLinesModel" "acts" "I") (List.mem_cons_of_mem _ (List.mem_append_left _ (List.mem_of_getElem? (i := 0) rfl)))
  have hi6 : ∀ w ∈ u_ws RX6 TX6 11, w ∈ wsX6_remember := fun w h => (List.mem_cons_of_mem _ (List.mem_append_right _ h))
  have w_2 := hts (.fieldLink RX6 13 "GapLinesModel" "now" "[I") (List.mem_cons_of_mem _ (List.mem_append_left _ (List.mem_of_getElem? (i := 2) rfl)))
  have w_3 := hts (.fieldLink RX6 19 "GapLinesModel" "diary" "[I") (List.mem_cons_of_mem _ (List.mem_append_left _ (List.mem_of_getElem? (i := 1) rfl)))
  subst hsz
  have hD := hD.self (sz := s.heap.size)
  generalize hAe : va_A [(a0, .inr (5, [.int rf, .ref a1, .int sz, .ref a2, .ref a3, .ref a4, .int ac, .ref a5, .ref a6, .int sp, .int ou])), (a2, .inl (y 0, 78, .inl nw)), (a4, .inl (y 0, 1092, .inl dy))] s.heap.size = A at hD ⊢
  have hA : ∀ q : Nat, s.heap.size ≤ q → A q := fun q h => by rw [← hAe]; exact Or.inr h
  have hS : va_S A s.heap s.heap [] := va_S.rf
  have hl := lv_entry ([.ref a0]) (n := 2) (Nat.le_of_ble_eq_true rfl)
  rw [lg_entry_eq]
  generalize (lg_sl ([.ref a0]) ++ List.replicate (2 - (lg_sl ([.ref a0])).length) Slot.unset).toArray = ls at hl ⊢
  have hl : lv_has ls 2 [(0, .ref a0)] := hl
  have loop_11 : ∀ (n : Nat) (x1 : Int32) (dy_ : Nat → Int32) (hhx : 0 ≤ x1.toInt) (c14 : ac = 14), ((1014 : Int32).toInt - x1.toInt).toNat < n → f_X6_remember rf sz ac sp ou nw dy = f_X6_remember_L11 ac nw n x1 dy_ → ∀ (H : Heap) (locs : List Loc), va_P D vwCl [(a0, .inr (5, [.int rf, .ref a1, .int sz, .ref a2, .ref a3, .ref a4, .int ac, .ref a5, .ref a6, .int sp, .int ou])), (a2, .inl (y 0, 78, .inl nw)), (a4, .inl (y 0, 1092, .inl dy_))] H → va_D A [(a0, .inr (5, [.int rf, .ref a1, .int sz, .ref a2, .ref a3, .ref a4, .int ac, .ref a5, .ref a6, .int sp, .int ou])), (a2, .inl (y 0, 78, .inl nw)), (a4, .inl (y 0, 1092, .inl dy_))] → va_S A s.heap H locs → ∀ (ls : Array Slot), lv_has ls 2 [(0, .ref a0), (1, .int x1)] → W p l e (headSpec wsX6_remember ({ frames := 1, cells := 0, slots := 0, locals := 24 })).room s m ([.ref a0] : List Value).toArray below meth c H locs 0 0 (MQ below (va_Qv (fun u : Int32 × (Nat → Int32) => f_X6_remember rf sz ac sp ou nw dy = u) (fun (u : Int32 × (Nat → Int32)) t => va_P D vwCl [(a0, .inr (5, [.int rf, .ref a1, .int sz, .ref a2, .ref a3, .ref a4, .int u.1, .ref a5, .ref a6, .int sp, .int ou])), (a2, .inl (y 0, 78, .inl nw)), (a4, .inl (y 0, 1092, .inl u.2))] t.heap ∧ va_D (A) [(a0, .inr (5, [.int rf, .ref a1, .int sz, .ref a2, .ref a3, .ref a4, .int u.1, .ref a5, .ref a6, .int sp, .int ou])), (a2, .inl (y 0, 78, .inl nw)), (a4, .inl (y 0, 1092, .inl u.2))]) A) ([.ref a0] : List Value).toArray s 0 0 A) (F0 m 11 ls []) := by
    intro n
    induction n with
    | zero =>
      intro x1 dy_ hhx c14 hμ
      exact absurd hμ (Nat.not_lt_zero _)
    | succ n ih =>
      intro x1 dy_ hhx c14 hμ hF H locs hP hD hS ls hl
      have hF := hF.trans (f_X6_remember_L11_s ac nw n x1 dy_)
      refine lv_iload_n hx hb dX6_remember_11 rfl (lv_at hl 1 rfl) ?_
      refine lv_sipush (v := 1014) hx hb dX6_remember_12 (by decide) ?_
      refine lv_icmp_ge (tgt := 39) hx hb dX6_remember_15 (by decide) (fun c_1 => ?_) (fun c_1 => ?_)
      · have hF := hF.trans (if_pos c_1)
        refine lv_aload_n hx hb dX6_remember_39 rfl (lv_at hl 0 rfl) ?_
        refine lv_dup hx hb dX6_remember_40 rfl ?_
        refine va_get (D := D) (ci := 5) (v := .int ac) (C := RX6) (T := TX6) (N := 11) hx hb hts hi6 hown hE.1 hP 0 rfl rfl 6 (by decide) w_0 (fun _ h9 => h9) rfl dX6_remember_41 ?_
        refine lv_iconst (v := 1) hx hb dX6_remember_44 (by decide) ?_
        refine lv_isub hx hb dX6_remember_45 ?_
        refine va_put (D := D) (ci := 5) (v := .int (ac - 1)) (ty := .int) (C := RX6) (T := TX6) (N := 11) hx hb hts hi6 tyX6 tyX6_ok nmX6 hown hE.1 hP hD hS 0 rfl rfl 6 (by decide) w_0 (fun _ h9 => h9) rfl (by decide +kernel) rfl rfl (Nat.le_of_ble_eq_true rfl) dX6_remember_46 (fun H locs hP hD hS => ?_)
        have hP : va_P D vwCl [(a0, .inr (5, [.int rf, .ref a1, .int sz, .ref a2, .ref a3, .ref a4, .int (ac - 1), .ref a5, .ref a6, .int sp, .int ou])), (a2, .inl (y 0, 78, .inl nw)), (a4, .inl (y 0, 1092, .inl dy_))] H := hP
        have hD : va_D A [(a0, .inr (5, [.int rf, .ref a1, .int sz, .ref a2, .ref a3, .ref a4, .int (ac - 1), .ref a5, .ref a6, .int sp, .int ou])), (a2, .inl (y 0, 78, .inl nw)), (a4, .inl (y 0, 1092, .inl dy_))] := hD
        refine lv_aload_n hx hb dX6_remember_49 rfl (lv_at hl 0 rfl) ?_
        refine va_get (D := D) (ci := 5) (v := .ref a2) (C := RX6) (T := TX6) (N := 11) hx hb hts hi6 hown hE.1 hP 0 rfl rfl 3 (by decide) w_2 (fun _ h9 => h9) rfl dX6_remember_50 ?_
        refine lv_iconst (v := 0) hx hb dX6_remember_53 (by decide) ?_
        refine lv_aload_n hx hb dX6_remember_54 rfl (lv_at hl 0 rfl) ?_
        refine va_get (D := D) (ci := 5) (v := .ref a4) (C := RX6) (T := TX6) (N := 11) hx hb hts hi6 hown hE.1 hP 0 rfl rfl 5 (by decide) w_3 (fun _ h9 => h9) rfl dX6_remember_55 ?_
        refine lv_bipush (v := 78) hx hb dX6_remember_58 (by decide) ?_
        refine lv_aload_n hx hb dX6_remember_60 rfl (lv_at hl 0 rfl) ?_
        refine va_get (D := D) (ci := 5) (v := .int (ac - 1)) (C := RX6) (T := TX6) (N := 11) hx hb hts hi6 hown hE.1 hP 0 rfl rfl 6 (by decide) w_0 (fun _ h9 => h9) rfl dX6_remember_61 ?_
        refine lv_imul hx hb dX6_remember_64 ?_
        refine xw_callv (va_runS (As := [.ref a2, .int 0, .ref a4, .int (78 * (ac - 1))]) (rest := []) ⟨hx, hb, hml, hown, hts⟩ (c_X6_copyState l D y a2 a4 H.size 78 nw 1092 dy_ 0 (78 * (ac - 1)) okA0 (okA78 13 (ac_m1 hac (ac_14 c14)).1 (ac_m1 hac (ac_14 c14)).2 (by decide) (by decide))) (va_cwS 4 hts gX6_remember_X6_copyState rfl rfl rfl hd_X6_copyState ⟨Nat.le_of_ble_eq_true rfl, Nat.le_of_ble_eq_true rfl⟩) (gS hE (hP.sub [1, 2] rfl) (hD.sub [1, 2] (by decide) rfl)) rfl rfl hl.1 rfl (lv_room (Nat.le_of_ble_eq_true rfl)) dX6_remember_65 ⟨Nat.le_of_ble_eq_true rfl, Nat.le_of_ble_eq_true rfl⟩) hP hD hS hA [1, 2] rfl (by decide) (fun _ => rfl) (fun u3 H locs h2 hP hD hS => ?_)
        have hF := hF.trans (gLet_e h2)
        have hP : va_P D vwCl [(a0, .inr (5, [.int rf, .ref a1, .int sz, .ref a2, .ref a3, .ref a4, .int (ac - 1), .ref a5, .ref a6, .int sp, .int ou])), (a2, .inl (y 0, 78, .inl nw)), (a4, .inl (y 0, 1092, .inl u3))] H := hP
        have hD : va_D A [(a0, .inr (5, [.int rf, .ref a1, .int sz, .ref a2, .ref a3, .ref a4, .int (ac - 1), .ref a5, .ref a6, .int sp, .int ou])), (a2, .inl (y 0, 78, .inl nw)), (a4, .inl (y 0, 1092, .inl u3))] := hD
        refine lv_aload_n hx hb dX6_remember_68 rfl (lv_at hl 0 rfl) ?_
        refine lv_dup hx hb dX6_remember_69 rfl ?_
        refine va_get (D := D) (ci := 5) (v := .int (ac - 1)) (C := RX6) (T := TX6) (N := 11) hx hb hts hi6 hown hE.1 hP 0 rfl rfl 6 (by decide) w_0 (fun _ h9 => h9) rfl dX6_remember_70 ?_
        refine lv_iconst (v := 1) hx hb dX6_remember_73 (by decide) ?_
        refine lv_iadd hx hb dX6_remember_74 ?_
        refine va_put (D := D) (ci := 5) (v := .int ((ac - 1) + 1)) (ty := .int) (C := RX6) (T := TX6) (N := 11) hx hb hts hi6 tyX6 tyX6_ok nmX6 hown hE.1 hP hD hS 0 rfl rfl 6 (by decide) w_0 (fun _ h9 => h9) rfl (by decide +kernel) rfl rfl (Nat.le_of_ble_eq_true rfl) dX6_remember_75 (fun H locs hP hD hS => ?_)
        have hP : va_P D vwCl [(a0, .inr (5, [.int rf, .ref a1, .int sz, .ref a2, .ref a3, .ref a4, .int ((ac - 1) + 1), .ref a5, .ref a6, .int sp, .int ou])), (a2, .inl (y 0, 78, .inl nw)), (a4, .inl (y 0, 1092, .inl u3))] H := hP
        have hD : va_D A [(a0, .inr (5, [.int rf, .ref a1, .int sz, .ref a2, .ref a3, .ref a4, .int ((ac - 1) + 1), .ref a5, .ref a6, .int sp, .int ou])), (a2, .inl (y 0, 78, .inl nw)), (a4, .inl (y 0, 1092, .inl u3))] := hD
        exact W.vret hx hb hr (fun t ht hW => ⟨⟨⟨((ac - 1) + 1), u3⟩, rfl, hF, ⟨by rw [ht]; exact hP, hD⟩⟩, hS.F ht⟩) hS.2.2 dX6_remember_78
      · have hF := hF.trans (if_neg c_1)
        refine lv_aload_n hx hb dX6_remember_18 rfl (lv_at hl 0 rfl) ?_
        refine va_get (D := D) (ci := 5) (v := .ref a4) (C := RX6) (T := TX6) (N := 11) hx hb hts hi6 hown hE.1 hP 0 rfl rfl 5 (by decide) w_3 (fun _ h9 => h9) rfl dX6_remember_19 ?_
        refine lv_iload_n hx hb dX6_remember_22 rfl (lv_at hl 1 rfl) ?_
        refine lv_aload_n hx hb dX6_remember_23 rfl (lv_at hl 0 rfl) ?_
        refine va_get (D := D) (ci := 5) (v := .ref a4) (C := RX6) (T := TX6) (N := 11) hx hb hts hi6 hown hE.1 hP 0 rfl rfl 5 (by decide) w_3 (fun _ h9 => h9) rfl dX6_remember_24 ?_
        refine lv_iload_n hx hb dX6_remember_27 rfl (lv_at hl 1 rfl) ?_
        refine lv_bipush (v := 78) hx hb dX6_remember_28 (by decide) ?_
        refine lv_iadd hx hb dX6_remember_30 ?_
        refine xa_iald (k := (x1 + 78).toNatClampNeg) (v := dy_ ((x1 + 78).toNatClampNeg)) hx hb hE.1 hP 2 0 rfl rfl (ix78 hhx (by assumption)) rfl rfl dX6_remember_31 ?_
        refine xa_iast (k := x1.toNatClampNeg) hx hb hE.1 hP hD hS 2 0 rfl rfl (ix_btL hhx (by assumption) (by decide)) rfl dX6_remember_32 (fun H locs hP hD hS => ?_)
        obtain ⟨r4, er4⟩ : ∃ z : Nat → Int32, upd dy_ x1.toNatClampNeg (dy_ ((x1 + 78).toNatClampNeg)) = z := ⟨_, rfl⟩
        have hF := hF.trans (gLet_e er4)
        rw [er4] at hP hD
        have hP : va_P D vwCl [(a0, .inr (5, [.int rf, .ref a1, .int sz, .ref a2, .ref a3, .ref a4, .int ac, .ref a5, .ref a6, .int sp, .int ou])), (a2, .inl (y 0, 78, .inl nw)), (a4, .inl (y 0, 1092, .inl r4))] H := hP
        have hD : va_D A [(a0, .inr (5, [.int rf, .ref a1, .int sz, .ref a2, .ref a3, .ref a4, .int ac, .ref a5, .ref a6, .int sp, .int ou])), (a2, .inl (y 0, 78, .inl nw)), (a4, .inl (y 0, 1092, .inl r4))] := hD
        refine lv_iinc (v := (x1 + 1)) (lv' := [(1, .int (x1 + 1)), (0, .ref a0)]) hx hb dX6_remember_33 hl (k := 1) rfl rfl (by decide) rfl (fun ls hl => ?_)
        refine lv_goto (tgt := 11) hx hb dX6_remember_36 (by decide) ?_
        exact ih (x1 + 1) r4 (up_nn2 (by assumption) hhx) (c14) (lp_up (by assumption) hμ) hF _ _ hP hD hS ls (lv_sub hl [1, 0] rfl)
  have hF := f_X6_remember_s rf sz ac sp ou nw dy
  refine lv_aload_n hx hb dX6_remember_0 rfl (lv_at hl 0 rfl) ?_
  refine va_get (D := D) (ci := 5) (v := .int ac) (C := RX6) (T := TX6) (N := 11) hx hb hts hi6 hown hE.1 hP 0 rfl rfl 6 (by decide) w_0 (fun _ h9 => h9) rfl dX6_remember_1 ?_
  refine lv_bipush (v := 14) hx hb dX6_remember_4 (by decide) ?_
  refine lv_icmp_ne (tgt := 49) hx hb dX6_remember_6 (by decide) (fun c_5 => ?_) (fun c_5 => ?_)
  · have hF := hF.trans (if_neg c_5)
    refine lv_aload_n hx hb dX6_remember_49 rfl (lv_at hl 0 rfl) ?_
    refine va_get (D := D) (ci := 5) (v := .ref a2) (C := RX6) (T := TX6) (N := 11) hx hb hts hi6 hown hE.1 hP 0 rfl rfl 3 (by decide) w_2 (fun _ h9 => h9) rfl dX6_remember_50 ?_
    refine lv_iconst (v := 0) hx hb dX6_remember_53 (by decide) ?_
    refine lv_aload_n hx hb dX6_remember_54 rfl (lv_at hl 0 rfl) ?_
    refine va_get (D := D) (ci := 5) (v := .ref a4) (C := RX6) (T := TX6) (N := 11) hx hb hts hi6 hown hE.1 hP 0 rfl rfl 5 (by decide) w_3 (fun _ h9 => h9) rfl dX6_remember_55 ?_
    refine lv_bipush (v := 78) hx hb dX6_remember_58 (by decide) ?_
    refine lv_aload_n hx hb dX6_remember_60 rfl (lv_at hl 0 rfl) ?_
    refine va_get (D := D) (ci := 5) (v := .int ac) (C := RX6) (T := TX6) (N := 11) hx hb hts hi6 hown hE.1 hP 0 rfl rfl 6 (by decide) w_0 (fun _ h9 => h9) rfl dX6_remember_61 ?_
    refine lv_imul hx hb dX6_remember_64 ?_
    refine xw_callv (va_runS (As := [.ref a2, .int 0, .ref a4, .int (78 * ac)]) (rest := []) ⟨hx, hb, hml, hown, hts⟩ (c_X6_copyState l D y a2 a4 s.heap.size 78 nw 1092 dy 0 (78 * ac) okA0 (okA78 13 hac.1 (ac_l hac (by assumption)) (by decide) (by decide))) (va_cwS 4 hts gX6_remember_X6_copyState rfl rfl rfl hd_X6_copyState ⟨Nat.le_of_ble_eq_true rfl, Nat.le_of_ble_eq_true rfl⟩) (gS hE (hP.sub [1, 2] rfl) (hD.sub [1, 2] (by decide) rfl)) rfl rfl hl.1 rfl (lv_room (Nat.le_of_ble_eq_true rfl)) dX6_remember_65 ⟨Nat.le_of_ble_eq_true rfl, Nat.le_of_ble_eq_true rfl⟩) hP hD hS hA [1, 2] rfl (by decide) (fun _ => rfl) (fun u7 H locs h6 hP hD hS => ?_)
    have hF := hF.trans (gLet_e h6)
    have hP : va_P D vwCl [(a0, .inr (5, [.int rf, .ref a1, .int sz, .ref a2, .ref a3, .ref a4, .int ac, .ref a5, .ref a6, .int sp, .int ou])), (a2, .inl (y 0, 78, .inl nw)), (a4, .inl (y 0, 1092, .inl u7))] H := hP
    have hD : va_D A [(a0, .inr (5, [.int rf, .ref a1, .int sz, .ref a2, .ref a3, .ref a4, .int ac, .ref a5, .ref a6, .int sp, .int ou])), (a2, .inl (y 0, 78, .inl nw)), (a4, .inl (y 0, 1092, .inl u7))] := hD
    refine lv_aload_n hx hb dX6_remember_68 rfl (lv_at hl 0 rfl) ?_
    refine lv_dup hx hb dX6_remember_69 rfl ?_
    refine va_get (D := D) (ci := 5) (v := .int ac) (C := RX6) (T := TX6) (N := 11) hx hb hts hi6 hown hE.1 hP 0 rfl rfl 6 (by decide) w_0 (fun _ h9 => h9) rfl dX6_remember_70 ?_
    refine lv_iconst (v := 1) hx hb dX6_remember_73 (by decide) ?_
    refine lv_iadd hx hb dX6_remember_74 ?_
    refine va_put (D := D) (ci := 5) (v := .int (ac + 1)) (ty := .int) (C := RX6) (T := TX6) (N := 11) hx hb hts hi6 tyX6 tyX6_ok nmX6 hown hE.1 hP hD hS 0 rfl rfl 6 (by decide) w_0 (fun _ h9 => h9) rfl (by decide +kernel) rfl rfl (Nat.le_of_ble_eq_true rfl) dX6_remember_75 (fun H locs hP hD hS => ?_)
    have hP : va_P D vwCl [(a0, .inr (5, [.int rf, .ref a1, .int sz, .ref a2, .ref a3, .ref a4, .int (ac + 1), .ref a5, .ref a6, .int sp, .int ou])), (a2, .inl (y 0, 78, .inl nw)), (a4, .inl (y 0, 1092, .inl u7))] H := hP
    have hD : va_D A [(a0, .inr (5, [.int rf, .ref a1, .int sz, .ref a2, .ref a3, .ref a4, .int (ac + 1), .ref a5, .ref a6, .int sp, .int ou])), (a2, .inl (y 0, 78, .inl nw)), (a4, .inl (y 0, 1092, .inl u7))] := hD
    exact W.vret hx hb hr (fun t ht hW => ⟨⟨⟨(ac + 1), u7⟩, rfl, hF, ⟨by rw [ht]; exact hP, hD⟩⟩, hS.F ht⟩) hS.2.2 dX6_remember_78
  · have hF := hF.trans (if_pos c_5)
    refine lv_iconst (v := 0) hx hb dX6_remember_9 (by decide) ?_
    refine lv_istore_n (lv' := [(1, .int 0), (0, .ref a0)]) hx hb dX6_remember_10 rfl hl (by decide) rfl (fun ls hl => ?_)
    exact loop_11 _ 0 dy (by decide) ((by assumption)) (Nat.lt_succ_self _) hF _ _ hP hD hS ls (lv_sub hl [1, 0] rfl)

def f_X6_append (rf : Int32) (sz : Int32) (ac : Int32) (sp : Int32) (ou : Int32) (tx : Nat → Int32) (nw : gR) (tr : gR) (dy : Nat → Int32) (kp : Nat → Int32) (ik : Nat → Int32) (p0 : Int32) : Int32 × Int32 × Int32 × Int32 × Int32 × Int32 × (Nat → Int32) × gR × gR × (Nat → Int32) × (Nat → Int32) × (Nat → Int32) :=
    gLet (f_X6_in p0.toInt64 0 255) (fun (v2 : Int32) =>
    if v2 = 0 then
      (0, 1, sz, ac, sp, ou, tx, nw, tr, dy, kp, ik)
    else
      if sz = 120 then
        (0, 2, sz, ac, sp, ou, tx, nw, tr, dy, kp, ik)
      else
        gLet (upd tx sz.toNatClampNeg p0) (fun (r9 : Nat → Int32) =>
          ((sz + 1), 0, (sz + 1), ac, sp, ou, r9, nw, tr, dy, kp, ik)))
theorem f_X6_append_s (rf : Int32) (sz : Int32) (ac : Int32) (sp : Int32) (ou : Int32) (tx : Nat → Int32) (nw : gR) (tr : gR) (dy : Nat → Int32) (kp : Nat → Int32) (ik : Nat → Int32) (p0 : Int32) : f_X6_append rf sz ac sp ou tx nw tr dy kp ik p0 =
    (gLet (f_X6_in p0.toInt64 0 255) (fun (v2 : Int32) =>
    if v2 = 0 then
      (0, 1, sz, ac, sp, ou, tx, nw, tr, dy, kp, ik)
    else
      if sz = 120 then
        (0, 2, sz, ac, sp, ou, tx, nw, tr, dy, kp, ik)
      else
        gLet (upd tx sz.toNatClampNeg p0) (fun (r9 : Nat → Int32) =>
          ((sz + 1), 0, (sz + 1), ac, sp, ou, r9, nw, tr, dy, kp, ik)))) := rfl
theorem hd_X6_append : yX6_append.cls = RX6 ∧ yX6_append.cls ≠ "java/lang/invoke/MethodHandle" ∧ yX6_append.cls ≠ "java/lang/invoke/VarHandle" ∧ (parseMethodDescriptor yX6_append.desc).map (fun d => d.parameters.length) = some 1 := by decide +kernel
set_option maxHeartbeats 4000000 in
set_option maxRecDepth 100000 in
theorem c_X6_append (l : Launch) (D : va_G) (y : Nat → ClassId) (a0 a1 a2 a3 a4 a5 a6 : Nat) (zh : Nat) (rf : Int32) (sz : Int32) (ac : Int32) (sp : Int32) (ou : Int32) (tx : Nat → Int32) (nw : gR) (tr : gR) (dy : Nat → Int32) (kp : Nat → Int32) (ik : Nat → Int32) (p0 : Int32) (hm : okMd sz ac nw) : Met l yX6_append wsX6_append ({ frames := 1, cells := 0, slots := 0, locals := 25 }) (gP D y [.ref a0, .int p0] zh [(a0, .inr (5, [.int rf, .ref a1, .int sz, .ref a2, .ref a3, .ref a4, .int ac, .ref a5, .ref a6, .int sp, .int ou])), (a1, .inl (y 0, 120, .inl tx)), (a2, .inl (y 0, 78, .inl nw)), (a3, .inl (y 0, 78, .inl tr)), (a4, .inl (y 0, 1092, .inl dy)), (a5, .inl (y 0, 156, .inl kp)), (a6, .inl (y 2, 2, .inl ik))]) (va_Qi (fun (v : Int32) (u : Int32 × Int32 × Int32 × Int32 × Int32 × (Nat → Int32) × gR × gR × (Nat → Int32) × (Nat → Int32) × (Nat → Int32)) => f_X6_append rf sz ac sp ou tx nw tr dy kp ik p0 = (v, u)) (fun (u : Int32 × Int32 × Int32 × Int32 × Int32 × (Nat → Int32) × gR × gR × (Nat → Int32) × (Nat → Int32) × (Nat → Int32)) t => va_P D vwCl [(a0, .inr (5, [.int u.1, .ref a1, .int u.2.1, .ref a2, .ref a3, .ref a4, .int u.2.2.1, .ref a5, .ref a6, .int u.2.2.2.1, .int u.2.2.2.2.1])), (a1, .inl (y 0, 120, .inl u.2.2.2.2.2.1)), (a2, .inl (y 0, 78, .inl u.2.2.2.2.2.2.1)), (a3, .inl (y 0, 78, .inl u.2.2.2.2.2.2.2.1)), (a4, .inl (y 0, 1092, .inl u.2.2.2.2.2.2.2.2.1)), (a5, .inl (y 0, 156, .inl u.2.2.2.2.2.2.2.2.2.1)), (a6, .inl (y 2, 2, .inl u.2.2.2.2.2.2.2.2.2.2))] t.heap ∧ va_D (va_A [(a0, .inr (5, [.int rf, .ref a1, .int sz, .ref a2, .ref a3, .ref a4, .int ac, .ref a5, .ref a6, .int sp, .int ou])), (a1, .inl (y 0, 120, .inl tx)), (a2, .inl (y 0, 78, .inl nw)), (a3, .inl (y 0, 78, .inl tr)), (a4, .inl (y 0, 1092, .inl dy)), (a5, .inl (y 0, 156, .inl kp)), (a6, .inl (y 2, 2, .inl ik))] zh) [(a0, .inr (5, [.int u.1, .ref a1, .int u.2.1, .ref a2, .ref a3, .ref a4, .int u.2.2.1, .ref a5, .ref a6, .int u.2.2.2.1, .int u.2.2.2.2.1])), (a1, .inl (y 0, 120, .inl u.2.2.2.2.2.1)), (a2, .inl (y 0, 78, .inl u.2.2.2.2.2.2.1)), (a3, .inl (y 0, 78, .inl u.2.2.2.2.2.2.2.1)), (a4, .inl (y 0, 1092, .inl u.2.2.2.2.2.2.2.2.1)), (a5, .inl (y 0, 156, .inl u.2.2.2.2.2.2.2.2.2.1)), (a6, .inl (y 2, 2, .inl u.2.2.2.2.2.2.2.2.2.2))]) (va_A [(a0, .inr (5, [.int rf, .ref a1, .int sz, .ref a2, .ref a3, .ref a4, .int ac, .ref a5, .ref a6, .int sp, .int ou])), (a1, .inl (y 0, 120, .inl tx)), (a2, .inl (y 0, 78, .inl nw)), (a3, .inl (y 0, 78, .inl tr)), (a4, .inl (y 0, 1092, .inl dy)), (a5, .inl (y 0, 156, .inl kp)), (a6, .inl (y 2, 2, .inl ik))] zh)) 0 0 (va_A [(a0, .inr (5, [.int rf, .ref a1, .int sz, .ref a2, .ref a3, .ref a4, .int ac, .ref a5, .ref a6, .int sp, .int ou])), (a1, .inl (y 0, 120, .inl tx)), (a2, .inl (y 0, 78, .inl nw)), (a3, .inl (y 0, 78, .inl tr)), (a4, .inl (y 0, 1092, .inl dy)), (a5, .inl (y 0, 156, .inl kp)), (a6, .inl (y 2, 2, .inl ik))] zh) := by
  refine Met.ofW (cc := cX6_append) (maxL := 2) (ret := (some .int)) (by decide) rfl ?_
  intro p e s m args below meth c s₁ B hml hv
  obtain ⟨rfl, hsz, hP, hE, hD⟩ := hv
  have hx := B.exec
  have hb := B.bytes
  have hr := B.returns
  have hts := atoms_spec (ws := wsX6_append) B.pre
  have hown : s.vm.findClass RX6 = some m.cls := findClass_of_methodNamed B.named
  have hlocks := B.notSynchronized
  have w_0 := hts (.constantLong RX6 78 (255)) (List.mem_cons_of_mem _ (List.mem_append_left _ (List.mem_of_getElem? (i := 0) rfl)))
  have w_1 := hts (.fieldLink RX6 80 "GapLinesModel" "size" "I") (List.mem_cons_of_mem _ (List.mem_append_left _ (List.mem_of_getElem? (i := 1) rfl)))
  have hi6 : ∀ w ∈ u_ws RX6 TX6 11, w ∈ wsX6_append := fun w h => (List.mem_cons_of_mem _ (List.mem_append_right _ h))
  have w_3 := hts (.fieldLink RX6 7 "GapLinesModel" "text" "[I") (List.mem_cons_of_mem _ (List.mem_append_left _ (List.mem_of_getElem? (i := 2) rfl)))
  subst hsz
  have hD := hD.self (sz := s.heap.size)
  generalize hAe : va_A [(a0, .inr (5, [.int rf, .ref a1, .int sz, .ref a2, .ref a3, .ref a4, .int ac, .ref a5, .ref a6, .int sp, .int ou])), (a1, .inl (y 0, 120, .inl tx)), (a2, .inl (y 0, 78, .inl nw)), (a3, .inl (y 0, 78, .inl tr)), (a4, .inl (y 0, 1092, .inl dy)), (a5, .inl (y 0, 156, .inl kp)), (a6, .inl (y 2, 2, .inl ik))] s.heap.size = A at hD ⊢
  have hA : ∀ q : Nat, s.heap.size ≤ q → A q := fun q h => by rw [← hAe]; exact Or.inr h
  have hS : va_S A s.heap s.heap [] := va_S.rf
  have hl := lv_entry ([.ref a0, .int p0]) (n := 2) (Nat.le_of_ble_eq_true rfl)
  rw [lg_entry_eq]
  generalize (lg_sl ([.ref a0, .int p0]) ++ List.replicate (2 - (lg_sl ([.ref a0, .int p0])).length) Slot.unset).toArray = ls at hl ⊢
  have hl : lv_has ls 2 [(0, .ref a0), (1, .int p0)] := hl
  have hF := f_X6_append_s rf sz ac sp ou tx nw tr dy kp ik p0
  refine lv_aload_n hx hb dX6_append_0 rfl (lv_at hl 0 rfl) ?_
  refine lv_iload_n hx hb dX6_append_1 rfl (lv_at hl 1 rfl) ?_
  refine lv_i2l (v := p0.toInt64) hx hb dX6_append_2 rfl ?_
  refine lv_lconst (v := 0) hx hb dX6_append_3 (by decide) ?_
  refine lv_ldc2 (v := 255) hx hb hown w_0 dX6_append_4 ?_
  refine xs_calli (va_runS (As := [.long p0.toInt64, .long 0, .long 255]) (rest := [.ref a0]) ⟨hx, hb, hml, hown, hts⟩ (c_X6_in l D y s.heap.size p0.toInt64 0 255) (va_cwS 3 hts gX6_append_X6_in rfl rfl rfl hd_X6_in ⟨Nat.le_of_ble_eq_true rfl, Nat.le_of_ble_eq_true rfl⟩) (gS hE (hP.sub [] rfl) (hD.sub [] (by decide) rfl)) rfl rfl hl.1 rfl (lv_room (Nat.le_of_ble_eq_true rfl)) dX6_append_7 ⟨Nat.le_of_ble_eq_true rfl, Nat.le_of_ble_eq_true rfl⟩) (fun v2 h1 => ?_)
  have hF := hF.trans (gLet_e h1)
  refine lv_if_ne (tgt := 17) hx hb dX6_append_10 (by decide) (fun c_3 => ?_) (fun c_3 => ?_)
  · have hF := hF.trans (if_neg c_3)
    refine lv_aload_n hx hb dX6_append_17 rfl (lv_at hl 0 rfl) ?_
    refine va_get (D := D) (ci := 5) (v := .int sz) (C := RX6) (T := TX6) (N := 11) hx hb hts hi6 hown hE.1 hP 0 rfl rfl 2 (by decide) w_1 (fun _ h9 => h9) rfl dX6_append_18 ?_
    refine lv_bipush (v := 120) hx hb dX6_append_21 (by decide) ?_
    refine lv_icmp_ne (tgt := 30) hx hb dX6_append_23 (by decide) (fun c_4 => ?_) (fun c_4 => ?_)
    · have hF := hF.trans (if_neg c_4)
      refine lv_iconst (v := 0) hx hb dX6_append_30 (by decide) ?_
      refine xw_calli (va_runV (As := [.int 0]) (rest := []) ⟨hx, hb, hml, hown, hts⟩ (c_X6_refused l D y a0 a1 a2 a3 a4 a5 a6 s.heap.size rf sz ac sp ou 0) (cwV 1 hts gX6_append_X6_refused rfl rfl rfl hd_X6_refused ⟨Nat.le_of_ble_eq_true rfl, Nat.le_of_ble_eq_true rfl⟩) (gV (q := (RX6, TX6, 11)) hE (hP.sub [0] rfl) (hD.sub [0] (by decide) rfl) 0 rfl rfl) rfl rfl hl.1 rfl (lv_room (Nat.le_of_ble_eq_true rfl)) dX6_append_31 ⟨Nat.le_of_ble_eq_true rfl, Nat.le_of_ble_eq_true rfl⟩) hP hD hS hA [0] rfl (by decide) (fun _ => rfl) (fun v7 u6 H locs h5 hP hD hS => ?_)
      have h5 := (rfd0 rf sz ac sp ou).symm.trans h5
      obtain ⟨rfl, rfl⟩ := Prod.mk.inj h5
      have hP : va_P D vwCl [(a0, .inr (5, [.int 0, .ref a1, .int sz, .ref a2, .ref a3, .ref a4, .int ac, .ref a5, .ref a6, .int sp, .int ou])), (a1, .inl (y 0, 120, .inl tx)), (a2, .inl (y 0, 78, .inl nw)), (a3, .inl (y 0, 78, .inl tr)), (a4, .inl (y 0, 1092, .inl dy)), (a5, .inl (y 0, 156, .inl kp)), (a6, .inl (y 2, 2, .inl ik))] H := hP
      have hD : va_D A [(a0, .inr (5, [.int 0, .ref a1, .int sz, .ref a2, .ref a3, .ref a4, .int ac, .ref a5, .ref a6, .int sp, .int ou])), (a1, .inl (y 0, 120, .inl tx)), (a2, .inl (y 0, 78, .inl nw)), (a3, .inl (y 0, 78, .inl tr)), (a4, .inl (y 0, 1092, .inl dy)), (a5, .inl (y 0, 156, .inl kp)), (a6, .inl (y 2, 2, .inl ik))] := hD
      refine lv_if_eq (tgt := 39) hx hb dX6_append_34 (by decide) (fun c_8 => ?_) (fun c_8 => absurd (by decide) c_8)
      refine lv_aload_n hx hb dX6_append_39 rfl (lv_at hl 0 rfl) ?_
      refine va_get (D := D) (ci := 5) (v := .ref a1) (C := RX6) (T := TX6) (N := 11) hx hb hts hi6 hown hE.1 hP 0 rfl rfl 1 (by decide) w_3 (fun _ h9 => h9) rfl dX6_append_40 ?_
      refine lv_aload_n hx hb dX6_append_43 rfl (lv_at hl 0 rfl) ?_
      refine va_get (D := D) (ci := 5) (v := .int sz) (C := RX6) (T := TX6) (N := 11) hx hb hts hi6 hown hE.1 hP 0 rfl rfl 2 (by decide) w_1 (fun _ h9 => h9) rfl dX6_append_44 ?_
      refine lv_iload_n hx hb dX6_append_47 rfl (lv_at hl 1 rfl) ?_
      refine xa_iast (k := sz.toNatClampNeg) hx hb hE.1 hP hD hS 1 0 rfl rfl (ixap hm.1 (by assumption)) rfl dX6_append_48 (fun H locs hP hD hS => ?_)
      obtain ⟨r9, er9⟩ : ∃ z : Nat → Int32, upd tx sz.toNatClampNeg p0 = z := ⟨_, rfl⟩
      have hF := hF.trans (gLet_e er9)
      rw [er9] at hP hD
      have hP : va_P D vwCl [(a0, .inr (5, [.int 0, .ref a1, .int sz, .ref a2, .ref a3, .ref a4, .int ac, .ref a5, .ref a6, .int sp, .int ou])), (a1, .inl (y 0, 120, .inl r9)), (a2, .inl (y 0, 78, .inl nw)), (a3, .inl (y 0, 78, .inl tr)), (a4, .inl (y 0, 1092, .inl dy)), (a5, .inl (y 0, 156, .inl kp)), (a6, .inl (y 2, 2, .inl ik))] H := hP
      have hD : va_D A [(a0, .inr (5, [.int 0, .ref a1, .int sz, .ref a2, .ref a3, .ref a4, .int ac, .ref a5, .ref a6, .int sp, .int ou])), (a1, .inl (y 0, 120, .inl r9)), (a2, .inl (y 0, 78, .inl nw)), (a3, .inl (y 0, 78, .inl tr)), (a4, .inl (y 0, 1092, .inl dy)), (a5, .inl (y 0, 156, .inl kp)), (a6, .inl (y 2, 2, .inl ik))] := hD
      refine lv_aload_n hx hb dX6_append_49 rfl (lv_at hl 0 rfl) ?_
      refine lv_dup hx hb dX6_append_50 rfl ?_
      refine va_get (D := D) (ci := 5) (v := .int sz) (C := RX6) (T := TX6) (N := 11) hx hb hts hi6 hown hE.1 hP 0 rfl rfl 2 (by decide) w_1 (fun _ h9 => h9) rfl dX6_append_51 ?_
      refine lv_iconst (v := 1) hx hb dX6_append_54 (by decide) ?_
      refine lv_iadd hx hb dX6_append_55 ?_
      refine va_put (D := D) (ci := 5) (v := .int (sz + 1)) (ty := .int) (C := RX6) (T := TX6) (N := 11) hx hb hts hi6 tyX6 tyX6_ok nmX6 hown hE.1 hP hD hS 0 rfl rfl 2 (by decide) w_1 (fun _ h9 => h9) rfl (by decide +kernel) rfl rfl (Nat.le_of_ble_eq_true rfl) dX6_append_56 (fun H locs hP hD hS => ?_)
      have hP : va_P D vwCl [(a0, .inr (5, [.int 0, .ref a1, .int (sz + 1), .ref a2, .ref a3, .ref a4, .int ac, .ref a5, .ref a6, .int sp, .int ou])), (a1, .inl (y 0, 120, .inl r9)), (a2, .inl (y 0, 78, .inl nw)), (a3, .inl (y 0, 78, .inl tr)), (a4, .inl (y 0, 1092, .inl dy)), (a5, .inl (y 0, 156, .inl kp)), (a6, .inl (y 2, 2, .inl ik))] H := hP
      have hD : va_D A [(a0, .inr (5, [.int 0, .ref a1, .int (sz + 1), .ref a2, .ref a3, .ref a4, .int ac, .ref a5, .ref a6, .int sp, .int ou])), (a1, .inl (y 0, 120, .inl r9)), (a2, .inl (y 0, 78, .inl nw)), (a3, .inl (y 0, 78, .inl tr)), (a4, .inl (y 0, 1092, .inl dy)), (a5, .inl (y 0, 156, .inl kp)), (a6, .inl (y 2, 2, .inl ik))] := hD
      refine lv_aload_n hx hb dX6_append_59 rfl (lv_at hl 0 rfl) ?_
      refine va_get (D := D) (ci := 5) (v := .int (sz + 1)) (C := RX6) (T := TX6) (N := 11) hx hb hts hi6 hown hE.1 hP 0 rfl rfl 2 (by decide) w_1 (fun _ h9 => h9) rfl dX6_append_60 ?_
      exact W.iret (v := (sz + 1)) hx hb hr (fun t ht hW => ⟨⟨(sz + 1), ⟨0, (sz + 1), ac, sp, ou, r9, nw, tr, dy, kp, ik⟩, rfl, hF, ⟨by rw [ht]; exact hP, hD⟩⟩, hS.F ht⟩) hS.2.2 dX6_append_63
    · have hF := hF.trans (if_pos c_4)
      refine lv_iconst (v := 2) hx hb dX6_append_26 (by decide) ?_
      refine lv_goto (tgt := 31) hx hb dX6_append_27 (by decide) ?_
      refine xw_calli (va_runV (As := [.int 2]) (rest := []) ⟨hx, hb, hml, hown, hts⟩ (c_X6_refused l D y a0 a1 a2 a3 a4 a5 a6 s.heap.size rf sz ac sp ou 2) (cwV 1 hts gX6_append_X6_refused rfl rfl rfl hd_X6_refused ⟨Nat.le_of_ble_eq_true rfl, Nat.le_of_ble_eq_true rfl⟩) (gV (q := (RX6, TX6, 11)) hE (hP.sub [0] rfl) (hD.sub [0] (by decide) rfl) 0 rfl rfl) rfl rfl hl.1 rfl (lv_room (Nat.le_of_ble_eq_true rfl)) dX6_append_31 ⟨Nat.le_of_ble_eq_true rfl, Nat.le_of_ble_eq_true rfl⟩) hP hD hS hA [0] rfl (by decide) (fun _ => rfl) (fun v12 u11 H locs h10 hP hD hS => ?_)
      have h10 := (rfd2 rf sz ac sp ou).symm.trans h10
      obtain ⟨rfl, rfl⟩ := Prod.mk.inj h10
      have hP : va_P D vwCl [(a0, .inr (5, [.int 2, .ref a1, .int sz, .ref a2, .ref a3, .ref a4, .int ac, .ref a5, .ref a6, .int sp, .int ou])), (a1, .inl (y 0, 120, .inl tx)), (a2, .inl (y 0, 78, .inl nw)), (a3, .inl (y 0, 78, .inl tr)), (a4, .inl (y 0, 1092, .inl dy)), (a5, .inl (y 0, 156, .inl kp)), (a6, .inl (y 2, 2, .inl ik))] H := hP
      have hD : va_D A [(a0, .inr (5, [.int 2, .ref a1, .int sz, .ref a2, .ref a3, .ref a4, .int ac, .ref a5, .ref a6, .int sp, .int ou])), (a1, .inl (y 0, 120, .inl tx)), (a2, .inl (y 0, 78, .inl nw)), (a3, .inl (y 0, 78, .inl tr)), (a4, .inl (y 0, 1092, .inl dy)), (a5, .inl (y 0, 156, .inl kp)), (a6, .inl (y 2, 2, .inl ik))] := hD
      refine lv_if_eq (tgt := 39) hx hb dX6_append_34 (by decide) (fun c_13 => absurd c_13 (by decide)) (fun c_13 => ?_)
      refine lv_iconst (v := 0) hx hb dX6_append_37 (by decide) ?_
      exact W.iret (v := 0) hx hb hr (fun t ht hW => ⟨⟨0, ⟨2, sz, ac, sp, ou, tx, nw, tr, dy, kp, ik⟩, rfl, hF, ⟨by rw [ht]; exact hP, hD⟩⟩, hS.F ht⟩) hS.2.2 dX6_append_38
  · have hF := hF.trans (if_pos c_3)
    refine lv_iconst (v := 1) hx hb dX6_append_13 (by decide) ?_
    refine lv_goto (tgt := 31) hx hb dX6_append_14 (by decide) ?_
    refine xw_calli (va_runV (As := [.int 1]) (rest := []) ⟨hx, hb, hml, hown, hts⟩ (c_X6_refused l D y a0 a1 a2 a3 a4 a5 a6 s.heap.size rf sz ac sp ou 1) (cwV 1 hts gX6_append_X6_refused rfl rfl rfl hd_X6_refused ⟨Nat.le_of_ble_eq_true rfl, Nat.le_of_ble_eq_true rfl⟩) (gV (q := (RX6, TX6, 11)) hE (hP.sub [0] rfl) (hD.sub [0] (by decide) rfl) 0 rfl rfl) rfl rfl hl.1 rfl (lv_room (Nat.le_of_ble_eq_true rfl)) dX6_append_31 ⟨Nat.le_of_ble_eq_true rfl, Nat.le_of_ble_eq_true rfl⟩) hP hD hS hA [0] rfl (by decide) (fun _ => rfl) (fun v16 u15 H locs h14 hP hD hS => ?_)
    have h14 := (rfd1 rf sz ac sp ou).symm.trans h14
    obtain ⟨rfl, rfl⟩ := Prod.mk.inj h14
    have hP : va_P D vwCl [(a0, .inr (5, [.int 1, .ref a1, .int sz, .ref a2, .ref a3, .ref a4, .int ac, .ref a5, .ref a6, .int sp, .int ou])), (a1, .inl (y 0, 120, .inl tx)), (a2, .inl (y 0, 78, .inl nw)), (a3, .inl (y 0, 78, .inl tr)), (a4, .inl (y 0, 1092, .inl dy)), (a5, .inl (y 0, 156, .inl kp)), (a6, .inl (y 2, 2, .inl ik))] H := hP
    have hD : va_D A [(a0, .inr (5, [.int 1, .ref a1, .int sz, .ref a2, .ref a3, .ref a4, .int ac, .ref a5, .ref a6, .int sp, .int ou])), (a1, .inl (y 0, 120, .inl tx)), (a2, .inl (y 0, 78, .inl nw)), (a3, .inl (y 0, 78, .inl tr)), (a4, .inl (y 0, 1092, .inl dy)), (a5, .inl (y 0, 156, .inl kp)), (a6, .inl (y 2, 2, .inl ik))] := hD
    refine lv_if_eq (tgt := 39) hx hb dX6_append_34 (by decide) (fun c_17 => absurd c_17 (by decide)) (fun c_17 => ?_)
    refine lv_iconst (v := 0) hx hb dX6_append_37 (by decide) ?_
    exact W.iret (v := 0) hx hb hr (fun t ht hW => ⟨⟨0, ⟨1, sz, ac, sp, ou, tx, nw, tr, dy, kp, ik⟩, rfl, hF, ⟨by rw [ht]; exact hP, hD⟩⟩, hS.F ht⟩) hS.2.2 dX6_append_38

def f_X6_clearText (rf : Int32) (sz : Int32) (ac : Int32) (sp : Int32) (ou : Int32) (tx : Nat → Int32) (nw : gR) (tr : gR) (dy : Nat → Int32) (kp : Nat → Int32) (ik : Nat → Int32) : Int32 × Int32 × Int32 × Int32 × Int32 × Int32 × (Nat → Int32) × gR × gR × (Nat → Int32) × (Nat → Int32) × (Nat → Int32) :=
    (sz, 0, 0, ac, sp, ou, tx, nw, tr, dy, kp, ik)
theorem f_X6_clearText_s (rf : Int32) (sz : Int32) (ac : Int32) (sp : Int32) (ou : Int32) (tx : Nat → Int32) (nw : gR) (tr : gR) (dy : Nat → Int32) (kp : Nat → Int32) (ik : Nat → Int32) : f_X6_clearText rf sz ac sp ou tx nw tr dy kp ik =
    ((sz, 0, 0, ac, sp, ou, tx, nw, tr, dy, kp, ik)) := rfl
theorem hd_X6_clearText : yX6_clearText.cls = RX6 ∧ yX6_clearText.cls ≠ "java/lang/invoke/MethodHandle" ∧ yX6_clearText.cls ≠ "java/lang/invoke/VarHandle" ∧ (parseMethodDescriptor yX6_clearText.desc).map (fun d => d.parameters.length) = some 0 := by decide +kernel
set_option maxHeartbeats 4000000 in
set_option maxRecDepth 100000 in
theorem c_X6_clearText (l : Launch) (D : va_G) (y : Nat → ClassId) (a0 a1 a2 a3 a4 a5 a6 : Nat) (zh : Nat) (rf : Int32) (sz : Int32) (ac : Int32) (sp : Int32) (ou : Int32) (tx : Nat → Int32) (nw : gR) (tr : gR) (dy : Nat → Int32) (kp : Nat → Int32) (ik : Nat → Int32) (hm : okMd sz ac nw) : Met l yX6_clearText wsX6_clearText ({ frames := 0, cells := 0, slots := 0, locals := 0 }) (gP D y [.ref a0] zh [(a0, .inr (5, [.int rf, .ref a1, .int sz, .ref a2, .ref a3, .ref a4, .int ac, .ref a5, .ref a6, .int sp, .int ou])), (a1, .inl (y 0, 120, .inl tx)), (a2, .inl (y 0, 78, .inl nw)), (a3, .inl (y 0, 78, .inl tr)), (a4, .inl (y 0, 1092, .inl dy)), (a5, .inl (y 0, 156, .inl kp)), (a6, .inl (y 2, 2, .inl ik))]) (va_Qi (fun (v : Int32) (u : Int32 × Int32 × Int32 × Int32 × Int32 × (Nat → Int32) × gR × gR × (Nat → Int32) × (Nat → Int32) × (Nat → Int32)) => f_X6_clearText rf sz ac sp ou tx nw tr dy kp ik = (v, u)) (fun (u : Int32 × Int32 × Int32 × Int32 × Int32 × (Nat → Int32) × gR × gR × (Nat → Int32) × (Nat → Int32) × (Nat → Int32)) t => va_P D vwCl [(a0, .inr (5, [.int u.1, .ref a1, .int u.2.1, .ref a2, .ref a3, .ref a4, .int u.2.2.1, .ref a5, .ref a6, .int u.2.2.2.1, .int u.2.2.2.2.1])), (a1, .inl (y 0, 120, .inl u.2.2.2.2.2.1)), (a2, .inl (y 0, 78, .inl u.2.2.2.2.2.2.1)), (a3, .inl (y 0, 78, .inl u.2.2.2.2.2.2.2.1)), (a4, .inl (y 0, 1092, .inl u.2.2.2.2.2.2.2.2.1)), (a5, .inl (y 0, 156, .inl u.2.2.2.2.2.2.2.2.2.1)), (a6, .inl (y 2, 2, .inl u.2.2.2.2.2.2.2.2.2.2))] t.heap ∧ va_D (va_A [(a0, .inr (5, [.int rf, .ref a1, .int sz, .ref a2, .ref a3, .ref a4, .int ac, .ref a5, .ref a6, .int sp, .int ou])), (a1, .inl (y 0, 120, .inl tx)), (a2, .inl (y 0, 78, .inl nw)), (a3, .inl (y 0, 78, .inl tr)), (a4, .inl (y 0, 1092, .inl dy)), (a5, .inl (y 0, 156, .inl kp)), (a6, .inl (y 2, 2, .inl ik))] zh) [(a0, .inr (5, [.int u.1, .ref a1, .int u.2.1, .ref a2, .ref a3, .ref a4, .int u.2.2.1, .ref a5, .ref a6, .int u.2.2.2.1, .int u.2.2.2.2.1])), (a1, .inl (y 0, 120, .inl u.2.2.2.2.2.1)), (a2, .inl (y 0, 78, .inl u.2.2.2.2.2.2.1)), (a3, .inl (y 0, 78, .inl u.2.2.2.2.2.2.2.1)), (a4, .inl (y 0, 1092, .inl u.2.2.2.2.2.2.2.2.1)), (a5, .inl (y 0, 156, .inl u.2.2.2.2.2.2.2.2.2.1)), (a6, .inl (y 2, 2, .inl u.2.2.2.2.2.2.2.2.2.2))]) (va_A [(a0, .inr (5, [.int rf, .ref a1, .int sz, .ref a2, .ref a3, .ref a4, .int ac, .ref a5, .ref a6, .int sp, .int ou])), (a1, .inl (y 0, 120, .inl tx)), (a2, .inl (y 0, 78, .inl nw)), (a3, .inl (y 0, 78, .inl tr)), (a4, .inl (y 0, 1092, .inl dy)), (a5, .inl (y 0, 156, .inl kp)), (a6, .inl (y 2, 2, .inl ik))] zh)) 0 0 (va_A [(a0, .inr (5, [.int rf, .ref a1, .int sz, .ref a2, .ref a3, .ref a4, .int ac, .ref a5, .ref a6, .int sp, .int ou])), (a1, .inl (y 0, 120, .inl tx)), (a2, .inl (y 0, 78, .inl nw)), (a3, .inl (y 0, 78, .inl tr)), (a4, .inl (y 0, 1092, .inl dy)), (a5, .inl (y 0, 156, .inl kp)), (a6, .inl (y 2, 2, .inl ik))] zh) := by
  refine Met.ofW (cc := cX6_clearText) (maxL := 2) (ret := (some .int)) (by decide) rfl ?_
  intro p e s m args below meth c s₁ B hml hv
  obtain ⟨rfl, hsz, hP, hE, hD⟩ := hv
  have hx := B.exec
  have hb := B.bytes
  have hr := B.returns
  have hts := atoms_spec (ws := wsX6_clearText) B.pre
  have hown : s.vm.findClass RX6 = some m.cls := findClass_of_methodNamed B.named
  have hlocks := B.notSynchronized
  have w_0 := hts (.fieldLink RX6 33 "GapLinesModel" "refusal" "I") (List.mem_cons_of_mem _ (List.mem_append_left _ (List.mem_of_getElem? (i := 0) rfl)))
  have hi6 : ∀ w ∈ u_ws RX6 TX6 11, w ∈ wsX6_clearText := fun w h => (List.mem_cons_of_mem _ (List.mem_append_right _ h))
  have w_2 := hts (.fieldLink RX6 80 "GapLinesModel" "size" "I") (List.mem_cons_of_mem _ (List.mem_append_left _ (List.mem_of_getElem? (i := 1) rfl)))
  subst hsz
  have hD := hD.self (sz := s.heap.size)
  generalize hAe : va_A [(a0, .inr (5, [.int rf, .ref a1, .int sz, .ref a2, .ref a3, .ref a4, .int ac, .ref a5, .ref a6, .int sp, .int ou])), (a1, .inl (y 0, 120, .inl tx)), (a2, .inl (y 0, 78, .inl nw)), (a3, .inl (y 0, 78, .inl tr)), (a4, .inl (y 0, 1092, .inl dy)), (a5, .inl (y 0, 156, .inl kp)), (a6, .inl (y 2, 2, .inl ik))] s.heap.size = A at hD ⊢
  have hA : ∀ q : Nat, s.heap.size ≤ q → A q := fun q h => by rw [← hAe]; exact Or.inr h
  have hS : va_S A s.heap s.heap [] := va_S.rf
  have hl := lv_entry ([.ref a0]) (n := 2) (Nat.le_of_ble_eq_true rfl)
  rw [lg_entry_eq]
  generalize (lg_sl ([.ref a0]) ++ List.replicate (2 - (lg_sl ([.ref a0])).length) Slot.unset).toArray = ls at hl ⊢
  have hl : lv_has ls 2 [(0, .ref a0)] := hl
  have hF := f_X6_clearText_s rf sz ac sp ou tx nw tr dy kp ik
  refine lv_aload_n hx hb dX6_clearText_0 rfl (lv_at hl 0 rfl) ?_
  refine lv_iconst (v := 0) hx hb dX6_clearText_1 (by decide) ?_
  refine va_put (D := D) (ci := 5) (v := .int 0) (ty := .int) (C := RX6) (T := TX6) (N := 11) hx hb hts hi6 tyX6 tyX6_ok nmX6 hown hE.1 hP hD hS 0 rfl rfl 0 (by decide) w_0 (fun _ h9 => h9) rfl (by decide +kernel) rfl rfl (Nat.le_of_ble_eq_true rfl) dX6_clearText_2 (fun H locs hP hD hS => ?_)
  have hP : va_P D vwCl [(a0, .inr (5, [.int 0, .ref a1, .int sz, .ref a2, .ref a3, .ref a4, .int ac, .ref a5, .ref a6, .int sp, .int ou])), (a1, .inl (y 0, 120, .inl tx)), (a2, .inl (y 0, 78, .inl nw)), (a3, .inl (y 0, 78, .inl tr)), (a4, .inl (y 0, 1092, .inl dy)), (a5, .inl (y 0, 156, .inl kp)), (a6, .inl (y 2, 2, .inl ik))] H := hP
  have hD : va_D A [(a0, .inr (5, [.int 0, .ref a1, .int sz, .ref a2, .ref a3, .ref a4, .int ac, .ref a5, .ref a6, .int sp, .int ou])), (a1, .inl (y 0, 120, .inl tx)), (a2, .inl (y 0, 78, .inl nw)), (a3, .inl (y 0, 78, .inl tr)), (a4, .inl (y 0, 1092, .inl dy)), (a5, .inl (y 0, 156, .inl kp)), (a6, .inl (y 2, 2, .inl ik))] := hD
  refine lv_aload_n hx hb dX6_clearText_5 rfl (lv_at hl 0 rfl) ?_
  refine va_get (D := D) (ci := 5) (v := .int sz) (C := RX6) (T := TX6) (N := 11) hx hb hts hi6 hown hE.1 hP 0 rfl rfl 2 (by decide) w_2 (fun _ h9 => h9) rfl dX6_clearText_6 ?_
  refine lv_istore_n (lv' := [(1, .int sz), (0, .ref a0)]) hx hb dX6_clearText_9 rfl hl (by decide) rfl (fun ls hl => ?_)
  refine lv_aload_n hx hb dX6_clearText_10 rfl (lv_at hl 1 rfl) ?_
  refine lv_iconst (v := 0) hx hb dX6_clearText_11 (by decide) ?_
  refine va_put (D := D) (ci := 5) (v := .int 0) (ty := .int) (C := RX6) (T := TX6) (N := 11) hx hb hts hi6 tyX6 tyX6_ok nmX6 hown hE.1 hP hD hS 0 rfl rfl 2 (by decide) w_2 (fun _ h9 => h9) rfl (by decide +kernel) rfl rfl (Nat.le_of_ble_eq_true rfl) dX6_clearText_12 (fun H locs hP hD hS => ?_)
  have hP : va_P D vwCl [(a0, .inr (5, [.int 0, .ref a1, .int 0, .ref a2, .ref a3, .ref a4, .int ac, .ref a5, .ref a6, .int sp, .int ou])), (a1, .inl (y 0, 120, .inl tx)), (a2, .inl (y 0, 78, .inl nw)), (a3, .inl (y 0, 78, .inl tr)), (a4, .inl (y 0, 1092, .inl dy)), (a5, .inl (y 0, 156, .inl kp)), (a6, .inl (y 2, 2, .inl ik))] H := hP
  have hD : va_D A [(a0, .inr (5, [.int 0, .ref a1, .int 0, .ref a2, .ref a3, .ref a4, .int ac, .ref a5, .ref a6, .int sp, .int ou])), (a1, .inl (y 0, 120, .inl tx)), (a2, .inl (y 0, 78, .inl nw)), (a3, .inl (y 0, 78, .inl tr)), (a4, .inl (y 0, 1092, .inl dy)), (a5, .inl (y 0, 156, .inl kp)), (a6, .inl (y 2, 2, .inl ik))] := hD
  refine lv_iload_n hx hb dX6_clearText_15 rfl (lv_at hl 0 rfl) ?_
  exact W.iret (v := sz) hx hb hr (fun t ht hW => ⟨⟨sz, ⟨0, 0, ac, sp, ou, tx, nw, tr, dy, kp, ik⟩, rfl, hF, ⟨by rw [ht]; exact hP, hD⟩⟩, hS.F ht⟩) hS.2.2 dX6_clearText_16

def f_X6_errorPosition (rf : Int32) (sz : Int32) (ac : Int32) (sp : Int32) (ou : Int32) (tx : Nat → Int32) (nw : gR) (tr : gR) (dy : Nat → Int32) (kp : Nat → Int32) (ik : Nat → Int32) : Int32 × Int32 × Int32 × Int32 × Int32 × Int32 × (Nat → Int32) × gR × gR × (Nat → Int32) × (Nat → Int32) × (Nat → Int32) :=
    gLet (f_X6_readText 0 sz ac sp ou tx tr) (fun (q4 : Int32 × gR × Int32 × Int32) =>
    (q4.1, 0, sz, ac, q4.2.2.1, q4.2.2.2, tx, nw, q4.2.1, dy, kp, ik))
theorem f_X6_errorPosition_s (rf : Int32) (sz : Int32) (ac : Int32) (sp : Int32) (ou : Int32) (tx : Nat → Int32) (nw : gR) (tr : gR) (dy : Nat → Int32) (kp : Nat → Int32) (ik : Nat → Int32) : f_X6_errorPosition rf sz ac sp ou tx nw tr dy kp ik =
    (gLet (f_X6_readText 0 sz ac sp ou tx tr) (fun (q4 : Int32 × gR × Int32 × Int32) =>
    (q4.1, 0, sz, ac, q4.2.2.1, q4.2.2.2, tx, nw, q4.2.1, dy, kp, ik))) := rfl
theorem hd_X6_errorPosition : yX6_errorPosition.cls = RX6 ∧ yX6_errorPosition.cls ≠ "java/lang/invoke/MethodHandle" ∧ yX6_errorPosition.cls ≠ "java/lang/invoke/VarHandle" ∧ (parseMethodDescriptor yX6_errorPosition.desc).map (fun d => d.parameters.length) = some 0 := by decide +kernel
set_option maxHeartbeats 4000000 in
set_option maxRecDepth 100000 in
theorem c_X6_errorPosition (l : Launch) (D : va_G) (y : Nat → ClassId) (a0 a1 a2 a3 a4 a5 a6 : Nat) (zh : Nat) (rf : Int32) (sz : Int32) (ac : Int32) (sp : Int32) (ou : Int32) (tx : Nat → Int32) (nw : gR) (tr : gR) (dy : Nat → Int32) (kp : Nat → Int32) (ik : Nat → Int32) (hm : okMd sz ac nw) : Met l yX6_errorPosition wsX6_errorPosition ({ frames := 6, cells := 0, slots := 0, locals := 139 }) (gP D y [.ref a0] zh [(a0, .inr (5, [.int rf, .ref a1, .int sz, .ref a2, .ref a3, .ref a4, .int ac, .ref a5, .ref a6, .int sp, .int ou])), (a1, .inl (y 0, 120, .inl tx)), (a2, .inl (y 0, 78, .inl nw)), (a3, .inl (y 0, 78, .inl tr)), (a4, .inl (y 0, 1092, .inl dy)), (a5, .inl (y 0, 156, .inl kp)), (a6, .inl (y 2, 2, .inl ik))]) (va_Qi (fun (v : Int32) (u : Int32 × Int32 × Int32 × Int32 × Int32 × (Nat → Int32) × gR × gR × (Nat → Int32) × (Nat → Int32) × (Nat → Int32)) => f_X6_errorPosition rf sz ac sp ou tx nw tr dy kp ik = (v, u)) (fun (u : Int32 × Int32 × Int32 × Int32 × Int32 × (Nat → Int32) × gR × gR × (Nat → Int32) × (Nat → Int32) × (Nat → Int32)) t => va_P D vwCl [(a0, .inr (5, [.int u.1, .ref a1, .int u.2.1, .ref a2, .ref a3, .ref a4, .int u.2.2.1, .ref a5, .ref a6, .int u.2.2.2.1, .int u.2.2.2.2.1])), (a1, .inl (y 0, 120, .inl u.2.2.2.2.2.1)), (a2, .inl (y 0, 78, .inl u.2.2.2.2.2.2.1)), (a3, .inl (y 0, 78, .inl u.2.2.2.2.2.2.2.1)), (a4, .inl (y 0, 1092, .inl u.2.2.2.2.2.2.2.2.1)), (a5, .inl (y 0, 156, .inl u.2.2.2.2.2.2.2.2.2.1)), (a6, .inl (y 2, 2, .inl u.2.2.2.2.2.2.2.2.2.2))] t.heap ∧ va_D (va_A [(a0, .inr (5, [.int rf, .ref a1, .int sz, .ref a2, .ref a3, .ref a4, .int ac, .ref a5, .ref a6, .int sp, .int ou])), (a1, .inl (y 0, 120, .inl tx)), (a2, .inl (y 0, 78, .inl nw)), (a3, .inl (y 0, 78, .inl tr)), (a4, .inl (y 0, 1092, .inl dy)), (a5, .inl (y 0, 156, .inl kp)), (a6, .inl (y 2, 2, .inl ik))] zh) [(a0, .inr (5, [.int u.1, .ref a1, .int u.2.1, .ref a2, .ref a3, .ref a4, .int u.2.2.1, .ref a5, .ref a6, .int u.2.2.2.1, .int u.2.2.2.2.1])), (a1, .inl (y 0, 120, .inl u.2.2.2.2.2.1)), (a2, .inl (y 0, 78, .inl u.2.2.2.2.2.2.1)), (a3, .inl (y 0, 78, .inl u.2.2.2.2.2.2.2.1)), (a4, .inl (y 0, 1092, .inl u.2.2.2.2.2.2.2.2.1)), (a5, .inl (y 0, 156, .inl u.2.2.2.2.2.2.2.2.2.1)), (a6, .inl (y 2, 2, .inl u.2.2.2.2.2.2.2.2.2.2))]) (va_A [(a0, .inr (5, [.int rf, .ref a1, .int sz, .ref a2, .ref a3, .ref a4, .int ac, .ref a5, .ref a6, .int sp, .int ou])), (a1, .inl (y 0, 120, .inl tx)), (a2, .inl (y 0, 78, .inl nw)), (a3, .inl (y 0, 78, .inl tr)), (a4, .inl (y 0, 1092, .inl dy)), (a5, .inl (y 0, 156, .inl kp)), (a6, .inl (y 2, 2, .inl ik))] zh)) 0 0 (va_A [(a0, .inr (5, [.int rf, .ref a1, .int sz, .ref a2, .ref a3, .ref a4, .int ac, .ref a5, .ref a6, .int sp, .int ou])), (a1, .inl (y 0, 120, .inl tx)), (a2, .inl (y 0, 78, .inl nw)), (a3, .inl (y 0, 78, .inl tr)), (a4, .inl (y 0, 1092, .inl dy)), (a5, .inl (y 0, 156, .inl kp)), (a6, .inl (y 2, 2, .inl ik))] zh) := by
  refine Met.ofW (cc := cX6_errorPosition) (maxL := 1) (ret := (some .int)) (by decide) rfl ?_
  intro p e s m args below meth c s₁ B hml hv
  obtain ⟨rfl, hsz, hP, hE, hD⟩ := hv
  have hx := B.exec
  have hb := B.bytes
  have hr := B.returns
  have hts := atoms_spec (ws := wsX6_errorPosition) B.pre
  have hown : s.vm.findClass RX6 = some m.cls := findClass_of_methodNamed B.named
  have hlocks := B.notSynchronized
  have w_0 := hts (.fieldLink RX6 33 "GapLinesModel" "refusal" "I") (List.mem_cons_of_mem _ (List.mem_append_left _ (List.mem_append_left _ (List.mem_of_getElem? (i := 0) rfl))))
  have hi6 : ∀ w ∈ u_ws RX6 TX6 11, w ∈ wsX6_errorPosition := fun w h => (List.mem_cons_of_mem _ (List.mem_append_right _ h))
  have w_2 := hts (.fieldLink RX6 16 "GapLinesModel" "trial" "[I") (List.mem_cons_of_mem _ (List.mem_append_left _ (List.mem_append_left _ (List.mem_of_getElem? (i := 1) rfl))))
  subst hsz
  have hD := hD.self (sz := s.heap.size)
  generalize hAe : va_A [(a0, .inr (5, [.int rf, .ref a1, .int sz, .ref a2, .ref a3, .ref a4, .int ac, .ref a5, .ref a6, .int sp, .int ou])), (a1, .inl (y 0, 120, .inl tx)), (a2, .inl (y 0, 78, .inl nw)), (a3, .inl (y 0, 78, .inl tr)), (a4, .inl (y 0, 1092, .inl dy)), (a5, .inl (y 0, 156, .inl kp)), (a6, .inl (y 2, 2, .inl ik))] s.heap.size = A at hD ⊢
  have hA : ∀ q : Nat, s.heap.size ≤ q → A q := fun q h => by rw [← hAe]; exact Or.inr h
  have hS : va_S A s.heap s.heap [] := va_S.rf
  have hl := lv_entry ([.ref a0]) (n := 1) (Nat.le_of_ble_eq_true rfl)
  rw [lg_entry_eq]
  generalize (lg_sl ([.ref a0]) ++ List.replicate (1 - (lg_sl ([.ref a0])).length) Slot.unset).toArray = ls at hl ⊢
  have hl : lv_has ls 1 [(0, .ref a0)] := hl
  have hF := f_X6_errorPosition_s rf sz ac sp ou tx nw tr dy kp ik
  refine lv_aload_n hx hb dX6_errorPosition_0 rfl (lv_at hl 0 rfl) ?_
  refine lv_iconst (v := 0) hx hb dX6_errorPosition_1 (by decide) ?_
  refine va_put (D := D) (ci := 5) (v := .int 0) (ty := .int) (C := RX6) (T := TX6) (N := 11) hx hb hts hi6 tyX6 tyX6_ok nmX6 hown hE.1 hP hD hS 0 rfl rfl 0 (by decide) w_0 (fun _ h9 => h9) rfl (by decide +kernel) rfl rfl (Nat.le_of_ble_eq_true rfl) dX6_errorPosition_2 (fun H locs hP hD hS => ?_)
  have hP : va_P D vwCl [(a0, .inr (5, [.int 0, .ref a1, .int sz, .ref a2, .ref a3, .ref a4, .int ac, .ref a5, .ref a6, .int sp, .int ou])), (a1, .inl (y 0, 120, .inl tx)), (a2, .inl (y 0, 78, .inl nw)), (a3, .inl (y 0, 78, .inl tr)), (a4, .inl (y 0, 1092, .inl dy)), (a5, .inl (y 0, 156, .inl kp)), (a6, .inl (y 2, 2, .inl ik))] H := hP
  have hD : va_D A [(a0, .inr (5, [.int 0, .ref a1, .int sz, .ref a2, .ref a3, .ref a4, .int ac, .ref a5, .ref a6, .int sp, .int ou])), (a1, .inl (y 0, 120, .inl tx)), (a2, .inl (y 0, 78, .inl nw)), (a3, .inl (y 0, 78, .inl tr)), (a4, .inl (y 0, 1092, .inl dy)), (a5, .inl (y 0, 156, .inl kp)), (a6, .inl (y 2, 2, .inl ik))] := hD
  refine lv_aload_n hx hb dX6_errorPosition_5 rfl (lv_at hl 0 rfl) ?_
  refine lv_aload_n hx hb dX6_errorPosition_6 rfl (lv_at hl 0 rfl) ?_
  refine va_get (D := D) (ci := 5) (v := .ref a3) (C := RX6) (T := TX6) (N := 11) hx hb hts hi6 hown hE.1 hP 0 rfl rfl 4 (by decide) w_2 (fun _ h9 => h9) rfl dX6_errorPosition_7 ?_
  refine xw_calli (va_runV (As := [.ref a3]) (rest := []) ⟨hx, hb, hml, hown, hts⟩ (c_X6_readText l D y a0 a1 a2 a3 a4 a5 a6 a3 H.size 0 sz ac sp ou tx tr hm.1) (cwV 1 hts gX6_errorPosition_X6_readText rfl rfl rfl hd_X6_readText ⟨Nat.le_of_ble_eq_true rfl, Nat.le_of_ble_eq_true rfl⟩) (gV (q := (RX6, TX6, 11)) hE (hP.sub [0, 1, 3] rfl) (hD.sub [0, 1, 3] (by decide) rfl) 0 rfl rfl) rfl rfl hl.1 rfl (lv_room (Nat.le_of_ble_eq_true rfl)) dX6_errorPosition_10 ⟨Nat.le_of_ble_eq_true rfl, Nat.le_of_ble_eq_true rfl⟩) hP hD hS hA [0, 1, 3] rfl (by decide) (fun _ => rfl) (fun v3 u2 H locs h1 hP hD hS => ?_)
  obtain ⟨q4, eq4⟩ : ∃ z : Int32 × gR × Int32 × Int32, f_X6_readText 0 sz ac sp ou tx tr = z := ⟨_, rfl⟩
  obtain ⟨rfl, rfl⟩ : q4.1 = v3 ∧ q4.2 = u2 := ⟨by rw [← eq4, h1], by rw [← eq4, h1]⟩
  have hF := hF.trans (gLet_e eq4)
  have hP : va_P D vwCl [(a0, .inr (5, [.int 0, .ref a1, .int sz, .ref a2, .ref a3, .ref a4, .int ac, .ref a5, .ref a6, .int q4.2.2.1, .int q4.2.2.2])), (a1, .inl (y 0, 120, .inl tx)), (a2, .inl (y 0, 78, .inl nw)), (a3, .inl (y 0, 78, .inl q4.2.1)), (a4, .inl (y 0, 1092, .inl dy)), (a5, .inl (y 0, 156, .inl kp)), (a6, .inl (y 2, 2, .inl ik))] H := hP
  have hD : va_D A [(a0, .inr (5, [.int 0, .ref a1, .int sz, .ref a2, .ref a3, .ref a4, .int ac, .ref a5, .ref a6, .int q4.2.2.1, .int q4.2.2.2])), (a1, .inl (y 0, 120, .inl tx)), (a2, .inl (y 0, 78, .inl nw)), (a3, .inl (y 0, 78, .inl q4.2.1)), (a4, .inl (y 0, 1092, .inl dy)), (a5, .inl (y 0, 156, .inl kp)), (a6, .inl (y 2, 2, .inl ik))] := hD
  exact W.iret (v := q4.1) hx hb hr (fun t ht hW => ⟨⟨q4.1, ⟨0, sz, ac, q4.2.2.1, q4.2.2.2, tx, nw, q4.2.1, dy, kp, ik⟩, rfl, hF, ⟨by rw [ht]; exact hP, hD⟩⟩, hS.F ht⟩) hS.2.2 dX6_errorPosition_13

def f_X6_load (rf : Int32) (sz : Int32) (ac : Int32) (sp : Int32) (ou : Int32) (tx : Nat → Int32) (nw : gR) (tr : gR) (dy : Nat → Int32) (kp : Nat → Int32) (ik : Nat → Int32) : Int32 × Int32 × Int32 × Int32 × Int32 × Int32 × (Nat → Int32) × gR × gR × (Nat → Int32) × (Nat → Int32) × (Nat → Int32) :=
    gLet (f_X6_readText rf sz ac sp ou tx tr) (fun (q4 : Int32 × gR × Int32 × Int32) =>
    if q4.1 = (-1) then
      gLet (f_X6_copyState 78 q4.2.1 78 nw 0 0) (fun (u15 : (Nat → Int32)) =>
        gLet (upd ik 0 0) (fun (r16 : Nat → Int32) =>
          gLet (upd r16 1 0) (fun (r17 : Nat → Int32) =>
            (q4.2.2.2, 0, sz, 0, q4.2.2.1, q4.2.2.2, tx, u15, q4.2.1, dy, kp, r17))))
    else
      (0, 1, sz, ac, q4.2.2.1, q4.2.2.2, tx, nw, q4.2.1, dy, kp, ik))
theorem f_X6_load_s (rf : Int32) (sz : Int32) (ac : Int32) (sp : Int32) (ou : Int32) (tx : Nat → Int32) (nw : gR) (tr : gR) (dy : Nat → Int32) (kp : Nat → Int32) (ik : Nat → Int32) : f_X6_load rf sz ac sp ou tx nw tr dy kp ik =
    (gLet (f_X6_readText rf sz ac sp ou tx tr) (fun (q4 : Int32 × gR × Int32 × Int32) =>
    if q4.1 = (-1) then
      gLet (f_X6_copyState 78 q4.2.1 78 nw 0 0) (fun (u15 : (Nat → Int32)) =>
        gLet (upd ik 0 0) (fun (r16 : Nat → Int32) =>
          gLet (upd r16 1 0) (fun (r17 : Nat → Int32) =>
            (q4.2.2.2, 0, sz, 0, q4.2.2.1, q4.2.2.2, tx, u15, q4.2.1, dy, kp, r17))))
    else
      (0, 1, sz, ac, q4.2.2.1, q4.2.2.2, tx, nw, q4.2.1, dy, kp, ik))) := rfl
theorem hd_X6_load : yX6_load.cls = RX6 ∧ yX6_load.cls ≠ "java/lang/invoke/MethodHandle" ∧ yX6_load.cls ≠ "java/lang/invoke/VarHandle" ∧ (parseMethodDescriptor yX6_load.desc).map (fun d => d.parameters.length) = some 0 := by decide +kernel
set_option maxHeartbeats 4000000 in
set_option maxRecDepth 100000 in
theorem c_X6_load (l : Launch) (D : va_G) (y : Nat → ClassId) (a0 a1 a2 a3 a4 a5 a6 : Nat) (zh : Nat) (rf : Int32) (sz : Int32) (ac : Int32) (sp : Int32) (ou : Int32) (tx : Nat → Int32) (nw : gR) (tr : gR) (dy : Nat → Int32) (kp : Nat → Int32) (ik : Nat → Int32) (hm : okMd sz ac nw) : Met l yX6_load wsX6_load ({ frames := 6, cells := 0, slots := 0, locals := 139 }) (gP D y [.ref a0] zh [(a0, .inr (5, [.int rf, .ref a1, .int sz, .ref a2, .ref a3, .ref a4, .int ac, .ref a5, .ref a6, .int sp, .int ou])), (a1, .inl (y 0, 120, .inl tx)), (a2, .inl (y 0, 78, .inl nw)), (a3, .inl (y 0, 78, .inl tr)), (a4, .inl (y 0, 1092, .inl dy)), (a5, .inl (y 0, 156, .inl kp)), (a6, .inl (y 2, 2, .inl ik))]) (va_Qi (fun (v : Int32) (u : Int32 × Int32 × Int32 × Int32 × Int32 × (Nat → Int32) × gR × gR × (Nat → Int32) × (Nat → Int32) × (Nat → Int32)) => f_X6_load rf sz ac sp ou tx nw tr dy kp ik = (v, u)) (fun (u : Int32 × Int32 × Int32 × Int32 × Int32 × (Nat → Int32) × gR × gR × (Nat → Int32) × (Nat → Int32) × (Nat → Int32)) t => va_P D vwCl [(a0, .inr (5, [.int u.1, .ref a1, .int u.2.1, .ref a2, .ref a3, .ref a4, .int u.2.2.1, .ref a5, .ref a6, .int u.2.2.2.1, .int u.2.2.2.2.1])), (a1, .inl (y 0, 120, .inl u.2.2.2.2.2.1)), (a2, .inl (y 0, 78, .inl u.2.2.2.2.2.2.1)), (a3, .inl (y 0, 78, .inl u.2.2.2.2.2.2.2.1)), (a4, .inl (y 0, 1092, .inl u.2.2.2.2.2.2.2.2.1)), (a5, .inl (y 0, 156, .inl u.2.2.2.2.2.2.2.2.2.1)), (a6, .inl (y 2, 2, .inl u.2.2.2.2.2.2.2.2.2.2))] t.heap ∧ va_D (va_A [(a0, .inr (5, [.int rf, .ref a1, .int sz, .ref a2, .ref a3, .ref a4, .int ac, .ref a5, .ref a6, .int sp, .int ou])), (a1, .inl (y 0, 120, .inl tx)), (a2, .inl (y 0, 78, .inl nw)), (a3, .inl (y 0, 78, .inl tr)), (a4, .inl (y 0, 1092, .inl dy)), (a5, .inl (y 0, 156, .inl kp)), (a6, .inl (y 2, 2, .inl ik))] zh) [(a0, .inr (5, [.int u.1, .ref a1, .int u.2.1, .ref a2, .ref a3, .ref a4, .int u.2.2.1, .ref a5, .ref a6, .int u.2.2.2.1, .int u.2.2.2.2.1])), (a1, .inl (y 0, 120, .inl u.2.2.2.2.2.1)), (a2, .inl (y 0, 78, .inl u.2.2.2.2.2.2.1)), (a3, .inl (y 0, 78, .inl u.2.2.2.2.2.2.2.1)), (a4, .inl (y 0, 1092, .inl u.2.2.2.2.2.2.2.2.1)), (a5, .inl (y 0, 156, .inl u.2.2.2.2.2.2.2.2.2.1)), (a6, .inl (y 2, 2, .inl u.2.2.2.2.2.2.2.2.2.2))]) (va_A [(a0, .inr (5, [.int rf, .ref a1, .int sz, .ref a2, .ref a3, .ref a4, .int ac, .ref a5, .ref a6, .int sp, .int ou])), (a1, .inl (y 0, 120, .inl tx)), (a2, .inl (y 0, 78, .inl nw)), (a3, .inl (y 0, 78, .inl tr)), (a4, .inl (y 0, 1092, .inl dy)), (a5, .inl (y 0, 156, .inl kp)), (a6, .inl (y 2, 2, .inl ik))] zh)) 0 0 (va_A [(a0, .inr (5, [.int rf, .ref a1, .int sz, .ref a2, .ref a3, .ref a4, .int ac, .ref a5, .ref a6, .int sp, .int ou])), (a1, .inl (y 0, 120, .inl tx)), (a2, .inl (y 0, 78, .inl nw)), (a3, .inl (y 0, 78, .inl tr)), (a4, .inl (y 0, 1092, .inl dy)), (a5, .inl (y 0, 156, .inl kp)), (a6, .inl (y 2, 2, .inl ik))] zh) := by
  refine Met.ofW (cc := cX6_load) (maxL := 1) (ret := (some .int)) (by decide) rfl ?_
  intro p e s m args below meth c s₁ B hml hv
  obtain ⟨rfl, hsz, hP, hE, hD⟩ := hv
  have hx := B.exec
  have hb := B.bytes
  have hr := B.returns
  have hts := atoms_spec (ws := wsX6_load) B.pre
  have hown : s.vm.findClass RX6 = some m.cls := findClass_of_methodNamed B.named
  have hlocks := B.notSynchronized
  have w_0 := hts (.fieldLink RX6 16 "GapLinesModel" "trial" "[I") (List.mem_cons_of_mem _ (List.mem_append_left _ (List.mem_append_left _ (List.mem_of_getElem? (i := 0) rfl))))
  have hi6 : ∀ w ∈ u_ws RX6 TX6 11, w ∈ wsX6_load := fun w h => (List.mem_cons_of_mem _ (List.mem_append_right _ h))
  have w_2 := hts (.fieldLink RX6 13 "GapLinesModel" "now" "[I") (List.mem_cons_of_mem _ (List.mem_append_left _ (List.mem_append_left _ (List.mem_of_getElem? (i := 1) rfl))))
  have w_3 := hts (.fieldLink RX6 131 "GapLinesModel" "acts" "I") (List.mem_cons_of_mem _ (List.mem_append_left _ (List.mem_append_left _ (List.mem_of_getElem? (i := 2) rfl))))
  have w_4 := hts (.fieldLink RX6 25 "GapLinesModel" "isKept" "[Z") (List.mem_cons_of_mem _ (List.mem_append_left _ (List.mem_append_left _ (List.mem_of_getElem? (i := 3) rfl))))
  have w_5 := hts (.fieldLink RX6 92 "GapLinesModel" "out" "I") (List.mem_cons_of_mem _ (List.mem_append_left _ (List.mem_append_left _ (List.mem_of_getElem? (i := 4) rfl))))
  subst hsz
  have hD := hD.self (sz := s.heap.size)
  generalize hAe : va_A [(a0, .inr (5, [.int rf, .ref a1, .int sz, .ref a2, .ref a3, .ref a4, .int ac, .ref a5, .ref a6, .int sp, .int ou])), (a1, .inl (y 0, 120, .inl tx)), (a2, .inl (y 0, 78, .inl nw)), (a3, .inl (y 0, 78, .inl tr)), (a4, .inl (y 0, 1092, .inl dy)), (a5, .inl (y 0, 156, .inl kp)), (a6, .inl (y 2, 2, .inl ik))] s.heap.size = A at hD ⊢
  have hA : ∀ q : Nat, s.heap.size ≤ q → A q := fun q h => by rw [← hAe]; exact Or.inr h
  have hS : va_S A s.heap s.heap [] := va_S.rf
  have hl := lv_entry ([.ref a0]) (n := 1) (Nat.le_of_ble_eq_true rfl)
  rw [lg_entry_eq]
  generalize (lg_sl ([.ref a0]) ++ List.replicate (1 - (lg_sl ([.ref a0])).length) Slot.unset).toArray = ls at hl ⊢
  have hl : lv_has ls 1 [(0, .ref a0)] := hl
  have hF := f_X6_load_s rf sz ac sp ou tx nw tr dy kp ik
  refine lv_aload_n hx hb dX6_load_0 rfl (lv_at hl 0 rfl) ?_
  refine lv_aload_n hx hb dX6_load_1 rfl (lv_at hl 0 rfl) ?_
  refine lv_aload_n hx hb dX6_load_2 rfl (lv_at hl 0 rfl) ?_
  refine va_get (D := D) (ci := 5) (v := .ref a3) (C := RX6) (T := TX6) (N := 11) hx hb hts hi6 hown hE.1 hP 0 rfl rfl 4 (by decide) w_0 (fun _ h9 => h9) rfl dX6_load_3 ?_
  refine xw_calli (va_runV (As := [.ref a3]) (rest := [.ref a0]) ⟨hx, hb, hml, hown, hts⟩ (c_X6_readText l D y a0 a1 a2 a3 a4 a5 a6 a3 s.heap.size rf sz ac sp ou tx tr hm.1) (cwV 1 hts gX6_load_X6_readText rfl rfl rfl hd_X6_readText ⟨Nat.le_of_ble_eq_true rfl, Nat.le_of_ble_eq_true rfl⟩) (gV (q := (RX6, TX6, 11)) hE (hP.sub [0, 1, 3] rfl) (hD.sub [0, 1, 3] (by decide) rfl) 0 rfl rfl) rfl rfl hl.1 rfl (lv_room (Nat.le_of_ble_eq_true rfl)) dX6_load_6 ⟨Nat.le_of_ble_eq_true rfl, Nat.le_of_ble_eq_true rfl⟩) hP hD hS hA [0, 1, 3] rfl (by decide) (fun _ => rfl) (fun v3 u2 H locs h1 hP hD hS => ?_)
  obtain ⟨q4, eq4⟩ : ∃ z : Int32 × gR × Int32 × Int32, f_X6_readText rf sz ac sp ou tx tr = z := ⟨_, rfl⟩
  obtain ⟨rfl, rfl⟩ : q4.1 = v3 ∧ q4.2 = u2 := ⟨by rw [← eq4, h1], by rw [← eq4, h1]⟩
  have hF := hF.trans (gLet_e eq4)
  have hP : va_P D vwCl [(a0, .inr (5, [.int rf, .ref a1, .int sz, .ref a2, .ref a3, .ref a4, .int ac, .ref a5, .ref a6, .int q4.2.2.1, .int q4.2.2.2])), (a1, .inl (y 0, 120, .inl tx)), (a2, .inl (y 0, 78, .inl nw)), (a3, .inl (y 0, 78, .inl q4.2.1)), (a4, .inl (y 0, 1092, .inl dy)), (a5, .inl (y 0, 156, .inl kp)), (a6, .inl (y 2, 2, .inl ik))] H := hP
  have hD : va_D A [(a0, .inr (5, [.int rf, .ref a1, .int sz, .ref a2, .ref a3, .ref a4, .int ac, .ref a5, .ref a6, .int q4.2.2.1, .int q4.2.2.2])), (a1, .inl (y 0, 120, .inl tx)), (a2, .inl (y 0, 78, .inl nw)), (a3, .inl (y 0, 78, .inl q4.2.1)), (a4, .inl (y 0, 1092, .inl dy)), (a5, .inl (y 0, 156, .inl kp)), (a6, .inl (y 2, 2, .inl ik))] := hD
  refine lv_iconst (v := (-1)) hx hb dX6_load_9 (by decide) ?_
  refine lv_icmp_ne (tgt := 17) hx hb dX6_load_10 (by decide) (fun c_5 => ?_) (fun c_5 => ?_)
  · have hF := hF.trans (if_neg c_5)
    refine lv_iconst (v := 1) hx hb dX6_load_17 (by decide) ?_
    refine xw_calli (va_runV (As := [.int 1]) (rest := []) ⟨hx, hb, hml, hown, hts⟩ (c_X6_refused l D y a0 a1 a2 a3 a4 a5 a6 H.size rf sz ac q4.2.2.1 q4.2.2.2 1) (cwV 1 hts gX6_load_X6_refused rfl rfl rfl hd_X6_refused ⟨Nat.le_of_ble_eq_true rfl, Nat.le_of_ble_eq_true rfl⟩) (gV (q := (RX6, TX6, 11)) hE (hP.sub [0] rfl) (hD.sub [0] (by decide) rfl) 0 rfl rfl) rfl rfl hl.1 rfl (lv_room (Nat.le_of_ble_eq_true rfl)) dX6_load_18 ⟨Nat.le_of_ble_eq_true rfl, Nat.le_of_ble_eq_true rfl⟩) hP hD hS hA [0] rfl (by decide) (fun _ => rfl) (fun v8 u7 H locs h6 hP hD hS => ?_)
    have h6 := (rfd1 rf sz ac q4.2.2.1 q4.2.2.2).symm.trans h6
    obtain ⟨rfl, rfl⟩ := Prod.mk.inj h6
    have hP : va_P D vwCl [(a0, .inr (5, [.int 1, .ref a1, .int sz, .ref a2, .ref a3, .ref a4, .int ac, .ref a5, .ref a6, .int q4.2.2.1, .int q4.2.2.2])), (a1, .inl (y 0, 120, .inl tx)), (a2, .inl (y 0, 78, .inl nw)), (a3, .inl (y 0, 78, .inl q4.2.1)), (a4, .inl (y 0, 1092, .inl dy)), (a5, .inl (y 0, 156, .inl kp)), (a6, .inl (y 2, 2, .inl ik))] H := hP
    have hD : va_D A [(a0, .inr (5, [.int 1, .ref a1, .int sz, .ref a2, .ref a3, .ref a4, .int ac, .ref a5, .ref a6, .int q4.2.2.1, .int q4.2.2.2])), (a1, .inl (y 0, 120, .inl tx)), (a2, .inl (y 0, 78, .inl nw)), (a3, .inl (y 0, 78, .inl q4.2.1)), (a4, .inl (y 0, 1092, .inl dy)), (a5, .inl (y 0, 156, .inl kp)), (a6, .inl (y 2, 2, .inl ik))] := hD
    refine lv_if_eq (tgt := 26) hx hb dX6_load_21 (by decide) (fun c_9 => absurd c_9 (by decide)) (fun c_9 => ?_)
    refine lv_iconst (v := 0) hx hb dX6_load_24 (by decide) ?_
    exact W.iret (v := 0) hx hb hr (fun t ht hW => ⟨⟨0, ⟨1, sz, ac, q4.2.2.1, q4.2.2.2, tx, nw, q4.2.1, dy, kp, ik⟩, rfl, hF, ⟨by rw [ht]; exact hP, hD⟩⟩, hS.F ht⟩) hS.2.2 dX6_load_25
  · have hF := hF.trans (if_pos c_5)
    refine lv_iconst (v := 0) hx hb dX6_load_13 (by decide) ?_
    refine lv_goto (tgt := 18) hx hb dX6_load_14 (by decide) ?_
    refine xw_calli (va_runV (As := [.int 0]) (rest := []) ⟨hx, hb, hml, hown, hts⟩ (c_X6_refused l D y a0 a1 a2 a3 a4 a5 a6 H.size rf sz ac q4.2.2.1 q4.2.2.2 0) (cwV 1 hts gX6_load_X6_refused rfl rfl rfl hd_X6_refused ⟨Nat.le_of_ble_eq_true rfl, Nat.le_of_ble_eq_true rfl⟩) (gV (q := (RX6, TX6, 11)) hE (hP.sub [0] rfl) (hD.sub [0] (by decide) rfl) 0 rfl rfl) rfl rfl hl.1 rfl (lv_room (Nat.le_of_ble_eq_true rfl)) dX6_load_18 ⟨Nat.le_of_ble_eq_true rfl, Nat.le_of_ble_eq_true rfl⟩) hP hD hS hA [0] rfl (by decide) (fun _ => rfl) (fun v12 u11 H locs h10 hP hD hS => ?_)
    have h10 := (rfd0 rf sz ac q4.2.2.1 q4.2.2.2).symm.trans h10
    obtain ⟨rfl, rfl⟩ := Prod.mk.inj h10
    have hP : va_P D vwCl [(a0, .inr (5, [.int 0, .ref a1, .int sz, .ref a2, .ref a3, .ref a4, .int ac, .ref a5, .ref a6, .int q4.2.2.1, .int q4.2.2.2])), (a1, .inl (y 0, 120, .inl tx)), (a2, .inl (y 0, 78, .inl nw)), (a3, .inl (y 0, 78, .inl q4.2.1)), (a4, .inl (y 0, 1092, .inl dy)), (a5, .inl (y 0, 156, .inl kp)), (a6, .inl (y 2, 2, .inl ik))] H := hP
    have hD : va_D A [(a0, .inr (5, [.int 0, .ref a1, .int sz, .ref a2, .ref a3, .ref a4, .int ac, .ref a5, .ref a6, .int q4.2.2.1, .int q4.2.2.2])), (a1, .inl (y 0, 120, .inl tx)), (a2, .inl (y 0, 78, .inl nw)), (a3, .inl (y 0, 78, .inl q4.2.1)), (a4, .inl (y 0, 1092, .inl dy)), (a5, .inl (y 0, 156, .inl kp)), (a6, .inl (y 2, 2, .inl ik))] := hD
    refine lv_if_eq (tgt := 26) hx hb dX6_load_21 (by decide) (fun c_13 => ?_) (fun c_13 => absurd (by decide) c_13)
    refine lv_aload_n hx hb dX6_load_26 rfl (lv_at hl 0 rfl) ?_
    refine va_get (D := D) (ci := 5) (v := .ref a3) (C := RX6) (T := TX6) (N := 11) hx hb hts hi6 hown hE.1 hP 0 rfl rfl 4 (by decide) w_0 (fun _ h9 => h9) rfl dX6_load_27 ?_
    refine lv_iconst (v := 0) hx hb dX6_load_30 (by decide) ?_
    refine lv_aload_n hx hb dX6_load_31 rfl (lv_at hl 0 rfl) ?_
    refine va_get (D := D) (ci := 5) (v := .ref a2) (C := RX6) (T := TX6) (N := 11) hx hb hts hi6 hown hE.1 hP 0 rfl rfl 3 (by decide) w_2 (fun _ h9 => h9) rfl dX6_load_32 ?_
    refine lv_iconst (v := 0) hx hb dX6_load_35 (by decide) ?_
    refine xw_callv (va_runS (As := [.ref a3, .int 0, .ref a2, .int 0]) (rest := []) ⟨hx, hb, hml, hown, hts⟩ (c_X6_copyState l D y a3 a2 H.size 78 q4.2.1 78 nw 0 0 okA0 okA0) (va_cwS 4 hts gX6_load_X6_copyState rfl rfl rfl hd_X6_copyState ⟨Nat.le_of_ble_eq_true rfl, Nat.le_of_ble_eq_true rfl⟩) (gS hE (hP.sub [3, 2] rfl) (hD.sub [3, 2] (by decide) rfl)) rfl rfl hl.1 rfl (lv_room (Nat.le_of_ble_eq_true rfl)) dX6_load_36 ⟨Nat.le_of_ble_eq_true rfl, Nat.le_of_ble_eq_true rfl⟩) hP hD hS hA [3, 2] rfl (by decide) (fun _ => rfl) (fun u15 H locs h14 hP hD hS => ?_)
    have hF := hF.trans (gLet_e h14)
    have hP : va_P D vwCl [(a0, .inr (5, [.int 0, .ref a1, .int sz, .ref a2, .ref a3, .ref a4, .int ac, .ref a5, .ref a6, .int q4.2.2.1, .int q4.2.2.2])), (a1, .inl (y 0, 120, .inl tx)), (a2, .inl (y 0, 78, .inl u15)), (a3, .inl (y 0, 78, .inl q4.2.1)), (a4, .inl (y 0, 1092, .inl dy)), (a5, .inl (y 0, 156, .inl kp)), (a6, .inl (y 2, 2, .inl ik))] H := hP
    have hD : va_D A [(a0, .inr (5, [.int 0, .ref a1, .int sz, .ref a2, .ref a3, .ref a4, .int ac, .ref a5, .ref a6, .int q4.2.2.1, .int q4.2.2.2])), (a1, .inl (y 0, 120, .inl tx)), (a2, .inl (y 0, 78, .inl u15)), (a3, .inl (y 0, 78, .inl q4.2.1)), (a4, .inl (y 0, 1092, .inl dy)), (a5, .inl (y 0, 156, .inl kp)), (a6, .inl (y 2, 2, .inl ik))] := hD
    refine lv_aload_n hx hb dX6_load_39 rfl (lv_at hl 0 rfl) ?_
    refine lv_iconst (v := 0) hx hb dX6_load_40 (by decide) ?_
    refine va_put (D := D) (ci := 5) (v := .int 0) (ty := .int) (C := RX6) (T := TX6) (N := 11) hx hb hts hi6 tyX6 tyX6_ok nmX6 hown hE.1 hP hD hS 0 rfl rfl 6 (by decide) w_3 (fun _ h9 => h9) rfl (by decide +kernel) rfl rfl (Nat.le_of_ble_eq_true rfl) dX6_load_41 (fun H locs hP hD hS => ?_)
    have hP : va_P D vwCl [(a0, .inr (5, [.int 0, .ref a1, .int sz, .ref a2, .ref a3, .ref a4, .int 0, .ref a5, .ref a6, .int q4.2.2.1, .int q4.2.2.2])), (a1, .inl (y 0, 120, .inl tx)), (a2, .inl (y 0, 78, .inl u15)), (a3, .inl (y 0, 78, .inl q4.2.1)), (a4, .inl (y 0, 1092, .inl dy)), (a5, .inl (y 0, 156, .inl kp)), (a6, .inl (y 2, 2, .inl ik))] H := hP
    have hD : va_D A [(a0, .inr (5, [.int 0, .ref a1, .int sz, .ref a2, .ref a3, .ref a4, .int 0, .ref a5, .ref a6, .int q4.2.2.1, .int q4.2.2.2])), (a1, .inl (y 0, 120, .inl tx)), (a2, .inl (y 0, 78, .inl u15)), (a3, .inl (y 0, 78, .inl q4.2.1)), (a4, .inl (y 0, 1092, .inl dy)), (a5, .inl (y 0, 156, .inl kp)), (a6, .inl (y 2, 2, .inl ik))] := hD
    refine lv_aload_n hx hb dX6_load_44 rfl (lv_at hl 0 rfl) ?_
    refine va_get (D := D) (ci := 5) (v := .ref a6) (C := RX6) (T := TX6) (N := 11) hx hb hts hi6 hown hE.1 hP 0 rfl rfl 8 (by decide) w_4 (fun _ h9 => h9) rfl dX6_load_45 ?_
    refine lv_iconst (v := 0) hx hb dX6_load_48 (by decide) ?_
    refine lv_iconst (v := 0) hx hb dX6_load_49 (by decide) ?_
    refine xa_zast (k := 0) (x' := 0) hx hb hE.1 hP hD hS 6 2 rfl rfl (xin (by decide)) rfl rfl dX6_load_50 (fun H locs hP hD hS => ?_)
    obtain ⟨r16, er16⟩ : ∃ z : Nat → Int32, upd ik 0 0 = z := ⟨_, rfl⟩
    have hF := hF.trans (gLet_e er16)
    rw [er16] at hP hD
    have hP : va_P D vwCl [(a0, .inr (5, [.int 0, .ref a1, .int sz, .ref a2, .ref a3, .ref a4, .int 0, .ref a5, .ref a6, .int q4.2.2.1, .int q4.2.2.2])), (a1, .inl (y 0, 120, .inl tx)), (a2, .inl (y 0, 78, .inl u15)), (a3, .inl (y 0, 78, .inl q4.2.1)), (a4, .inl (y 0, 1092, .inl dy)), (a5, .inl (y 0, 156, .inl kp)), (a6, .inl (y 2, 2, .inl r16))] H := hP
    have hD : va_D A [(a0, .inr (5, [.int 0, .ref a1, .int sz, .ref a2, .ref a3, .ref a4, .int 0, .ref a5, .ref a6, .int q4.2.2.1, .int q4.2.2.2])), (a1, .inl (y 0, 120, .inl tx)), (a2, .inl (y 0, 78, .inl u15)), (a3, .inl (y 0, 78, .inl q4.2.1)), (a4, .inl (y 0, 1092, .inl dy)), (a5, .inl (y 0, 156, .inl kp)), (a6, .inl (y 2, 2, .inl r16))] := hD
    refine lv_aload_n hx hb dX6_load_51 rfl (lv_at hl 0 rfl) ?_
    refine va_get (D := D) (ci := 5) (v := .ref a6) (C := RX6) (T := TX6) (N := 11) hx hb hts hi6 hown hE.1 hP 0 rfl rfl 8 (by decide) w_4 (fun _ h9 => h9) rfl dX6_load_52 ?_
    refine lv_iconst (v := 1) hx hb dX6_load_55 (by decide) ?_
    refine lv_iconst (v := 0) hx hb dX6_load_56 (by decide) ?_
    refine xa_zast (k := 1) (x' := 0) hx hb hE.1 hP hD hS 6 2 rfl rfl (xin (by decide)) rfl rfl dX6_load_57 (fun H locs hP hD hS => ?_)
    obtain ⟨r17, er17⟩ : ∃ z : Nat → Int32, upd r16 1 0 = z := ⟨_, rfl⟩
    have hF := hF.trans (gLet_e er17)
    rw [er17] at hP hD
    have hP : va_P D vwCl [(a0, .inr (5, [.int 0, .ref a1, .int sz, .ref a2, .ref a3, .ref a4, .int 0, .ref a5, .ref a6, .int q4.2.2.1, .int q4.2.2.2])), (a1, .inl (y 0, 120, .inl tx)), (a2, .inl (y 0, 78, .inl u15)), (a3, .inl (y 0, 78, .inl q4.2.1)), (a4, .inl (y 0, 1092, .inl dy)), (a5, .inl (y 0, 156, .inl kp)), (a6, .inl (y 2, 2, .inl r17))] H := hP
    have hD : va_D A [(a0, .inr (5, [.int 0, .ref a1, .int sz, .ref a2, .ref a3, .ref a4, .int 0, .ref a5, .ref a6, .int q4.2.2.1, .int q4.2.2.2])), (a1, .inl (y 0, 120, .inl tx)), (a2, .inl (y 0, 78, .inl u15)), (a3, .inl (y 0, 78, .inl q4.2.1)), (a4, .inl (y 0, 1092, .inl dy)), (a5, .inl (y 0, 156, .inl kp)), (a6, .inl (y 2, 2, .inl r17))] := hD
    refine lv_aload_n hx hb dX6_load_58 rfl (lv_at hl 0 rfl) ?_
    refine va_get (D := D) (ci := 5) (v := .int q4.2.2.2) (C := RX6) (T := TX6) (N := 11) hx hb hts hi6 hown hE.1 hP 0 rfl rfl 10 (by decide) w_5 (fun _ h9 => h9) rfl dX6_load_59 ?_
    exact W.iret (v := q4.2.2.2) hx hb hr (fun t ht hW => ⟨⟨q4.2.2.2, ⟨0, sz, 0, q4.2.2.1, q4.2.2.2, tx, u15, q4.2.1, dy, kp, r17⟩, rfl, hF, ⟨by rw [ht]; exact hP, hD⟩⟩, hS.F ht⟩) hS.2.2 dX6_load_62

def f_X6_about (rf : Int32) (sz : Int32) (ac : Int32) (sp : Int32) (ou : Int32) (tx : Nat → Int32) (nw : gR) (tr : gR) (dy : Nat → Int32) (kp : Nat → Int32) (ik : Nat → Int32) (p0 : Int32) : Int32 × Int32 × Int32 × Int32 × Int32 × Int32 × (Nat → Int32) × gR × gR × (Nat → Int32) × (Nat → Int32) × (Nat → Int32) :=
    gLet (f_X6_in p0.toInt64 0 11) (fun (v2 : Int32) =>
    if v2 = 0 then
      (0, 1, sz, ac, sp, ou, tx, nw, tr, dy, kp, ik)
    else
      if (nw 0) = 0 then
        (0, 0, sz, ac, sp, ou, tx, nw, tr, dy, kp, ik)
      else
        if p0 = 0 then
          ((nw 0), 0, sz, ac, sp, ou, tx, nw, tr, dy, kp, ik)
        else
          if p0 = 1 then
            ((nw ((p0 + 1).toNatClampNeg)), 0, sz, ac, sp, ou, tx, nw, tr, dy, kp, ik)
          else
            if p0 = 2 then
              ((nw ((p0 + 1).toNatClampNeg)), 0, sz, ac, sp, ou, tx, nw, tr, dy, kp, ik)
            else
              if p0 = 3 then
                ((nw ((p0 + 1).toNatClampNeg)), 0, sz, ac, sp, ou, tx, nw, tr, dy, kp, ik)
              else
                if p0 = 4 then
                  ((nw ((p0 + 1).toNatClampNeg)), 0, sz, ac, sp, ou, tx, nw, tr, dy, kp, ik)
                else
                  if p0 = 5 then
                    ((nw ((p0 + 1).toNatClampNeg)), 0, sz, ac, sp, ou, tx, nw, tr, dy, kp, ik)
                  else
                    if p0 = 6 then
                      gLet (f_X6_greatest nw) (fun (v21 : Int32) =>
                        (v21, 0, sz, ac, sp, ou, tx, nw, tr, dy, kp, ik))
                    else
                      if p0 = 7 then
                        gLet (f_X6_least nw) (fun (v24 : Int32) =>
                          (v24, 0, sz, ac, sp, ou, tx, nw, tr, dy, kp, ik))
                      else
                        ((nw ((p0 - 1).toNatClampNeg)), 0, sz, ac, sp, ou, tx, nw, tr, dy, kp, ik))
theorem f_X6_about_s (rf : Int32) (sz : Int32) (ac : Int32) (sp : Int32) (ou : Int32) (tx : Nat → Int32) (nw : gR) (tr : gR) (dy : Nat → Int32) (kp : Nat → Int32) (ik : Nat → Int32) (p0 : Int32) : f_X6_about rf sz ac sp ou tx nw tr dy kp ik p0 =
    (gLet (f_X6_in p0.toInt64 0 11) (fun (v2 : Int32) =>
    if v2 = 0 then
      (0, 1, sz, ac, sp, ou, tx, nw, tr, dy, kp, ik)
    else
      if (nw 0) = 0 then
        (0, 0, sz, ac, sp, ou, tx, nw, tr, dy, kp, ik)
      else
        if p0 = 0 then
          ((nw 0), 0, sz, ac, sp, ou, tx, nw, tr, dy, kp, ik)
        else
          if p0 = 1 then
            ((nw ((p0 + 1).toNatClampNeg)), 0, sz, ac, sp, ou, tx, nw, tr, dy, kp, ik)
          else
            if p0 = 2 then
              ((nw ((p0 + 1).toNatClampNeg)), 0, sz, ac, sp, ou, tx, nw, tr, dy, kp, ik)
            else
              if p0 = 3 then
                ((nw ((p0 + 1).toNatClampNeg)), 0, sz, ac, sp, ou, tx, nw, tr, dy, kp, ik)
              else
                if p0 = 4 then
                  ((nw ((p0 + 1).toNatClampNeg)), 0, sz, ac, sp, ou, tx, nw, tr, dy, kp, ik)
                else
                  if p0 = 5 then
                    ((nw ((p0 + 1).toNatClampNeg)), 0, sz, ac, sp, ou, tx, nw, tr, dy, kp, ik)
                  else
                    if p0 = 6 then
                      gLet (f_X6_greatest nw) (fun (v21 : Int32) =>
                        (v21, 0, sz, ac, sp, ou, tx, nw, tr, dy, kp, ik))
                    else
                      if p0 = 7 then
                        gLet (f_X6_least nw) (fun (v24 : Int32) =>
                          (v24, 0, sz, ac, sp, ou, tx, nw, tr, dy, kp, ik))
                      else
                        ((nw ((p0 - 1).toNatClampNeg)), 0, sz, ac, sp, ou, tx, nw, tr, dy, kp, ik))) := rfl
theorem hd_X6_about : yX6_about.cls = RX6 ∧ yX6_about.cls ≠ "java/lang/invoke/MethodHandle" ∧ yX6_about.cls ≠ "java/lang/invoke/VarHandle" ∧ (parseMethodDescriptor yX6_about.desc).map (fun d => d.parameters.length) = some 1 := by decide +kernel
set_option maxHeartbeats 4000000 in
set_option maxRecDepth 100000 in
theorem c_X6_about (l : Launch) (D : va_G) (y : Nat → ClassId) (a0 a1 a2 a3 a4 a5 a6 : Nat) (zh : Nat) (rf : Int32) (sz : Int32) (ac : Int32) (sp : Int32) (ou : Int32) (tx : Nat → Int32) (nw : gR) (tr : gR) (dy : Nat → Int32) (kp : Nat → Int32) (ik : Nat → Int32) (p0 : Int32) (hm : okMd sz ac nw) : Met l yX6_about wsX6_about ({ frames := 1, cells := 0, slots := 0, locals := 25 }) (gP D y [.ref a0, .int p0] zh [(a0, .inr (5, [.int rf, .ref a1, .int sz, .ref a2, .ref a3, .ref a4, .int ac, .ref a5, .ref a6, .int sp, .int ou])), (a1, .inl (y 0, 120, .inl tx)), (a2, .inl (y 0, 78, .inl nw)), (a3, .inl (y 0, 78, .inl tr)), (a4, .inl (y 0, 1092, .inl dy)), (a5, .inl (y 0, 156, .inl kp)), (a6, .inl (y 2, 2, .inl ik))]) (va_Qi (fun (v : Int32) (u : Int32 × Int32 × Int32 × Int32 × Int32 × (Nat → Int32) × gR × gR × (Nat → Int32) × (Nat → Int32) × (Nat → Int32)) => f_X6_about rf sz ac sp ou tx nw tr dy kp ik p0 = (v, u)) (fun (u : Int32 × Int32 × Int32 × Int32 × Int32 × (Nat → Int32) × gR × gR × (Nat → Int32) × (Nat → Int32) × (Nat → Int32)) t => va_P D vwCl [(a0, .inr (5, [.int u.1, .ref a1, .int u.2.1, .ref a2, .ref a3, .ref a4, .int u.2.2.1, .ref a5, .ref a6, .int u.2.2.2.1, .int u.2.2.2.2.1])), (a1, .inl (y 0, 120, .inl u.2.2.2.2.2.1)), (a2, .inl (y 0, 78, .inl u.2.2.2.2.2.2.1)), (a3, .inl (y 0, 78, .inl u.2.2.2.2.2.2.2.1)), (a4, .inl (y 0, 1092, .inl u.2.2.2.2.2.2.2.2.1)), (a5, .inl (y 0, 156, .inl u.2.2.2.2.2.2.2.2.2.1)), (a6, .inl (y 2, 2, .inl u.2.2.2.2.2.2.2.2.2.2))] t.heap ∧ va_D (va_A [(a0, .inr (5, [.int rf, .ref a1, .int sz, .ref a2, .ref a3, .ref a4, .int ac, .ref a5, .ref a6, .int sp, .int ou])), (a1, .inl (y 0, 120, .inl tx)), (a2, .inl (y 0, 78, .inl nw)), (a3, .inl (y 0, 78, .inl tr)), (a4, .inl (y 0, 1092, .inl dy)), (a5, .inl (y 0, 156, .inl kp)), (a6, .inl (y 2, 2, .inl ik))] zh) [(a0, .inr (5, [.int u.1, .ref a1, .int u.2.1, .ref a2, .ref a3, .ref a4, .int u.2.2.1, .ref a5, .ref a6, .int u.2.2.2.1, .int u.2.2.2.2.1])), (a1, .inl (y 0, 120, .inl u.2.2.2.2.2.1)), (a2, .inl (y 0, 78, .inl u.2.2.2.2.2.2.1)), (a3, .inl (y 0, 78, .inl u.2.2.2.2.2.2.2.1)), (a4, .inl (y 0, 1092, .inl u.2.2.2.2.2.2.2.2.1)), (a5, .inl (y 0, 156, .inl u.2.2.2.2.2.2.2.2.2.1)), (a6, .inl (y 2, 2, .inl u.2.2.2.2.2.2.2.2.2.2))]) (va_A [(a0, .inr (5, [.int rf, .ref a1, .int sz, .ref a2, .ref a3, .ref a4, .int ac, .ref a5, .ref a6, .int sp, .int ou])), (a1, .inl (y 0, 120, .inl tx)), (a2, .inl (y 0, 78, .inl nw)), (a3, .inl (y 0, 78, .inl tr)), (a4, .inl (y 0, 1092, .inl dy)), (a5, .inl (y 0, 156, .inl kp)), (a6, .inl (y 2, 2, .inl ik))] zh)) 0 0 (va_A [(a0, .inr (5, [.int rf, .ref a1, .int sz, .ref a2, .ref a3, .ref a4, .int ac, .ref a5, .ref a6, .int sp, .int ou])), (a1, .inl (y 0, 120, .inl tx)), (a2, .inl (y 0, 78, .inl nw)), (a3, .inl (y 0, 78, .inl tr)), (a4, .inl (y 0, 1092, .inl dy)), (a5, .inl (y 0, 156, .inl kp)), (a6, .inl (y 2, 2, .inl ik))] zh) := by
  refine Met.ofW (cc := cX6_about) (maxL := 2) (ret := (some .int)) (by decide) rfl ?_
  intro p e s m args below meth c s₁ B hml hv
  obtain ⟨rfl, hsz, hP, hE, hD⟩ := hv
  have hx := B.exec
  have hb := B.bytes
  have hr := B.returns
  have hts := atoms_spec (ws := wsX6_about) B.pre
  have hown : s.vm.findClass RX6 = some m.cls := findClass_of_methodNamed B.named
  have hlocks := B.notSynchronized
  have w_0 := hts (.constantLong RX6 134 (11)) (List.mem_cons_of_mem _ (List.mem_append_left _ (List.mem_of_getElem? (i := 0) rfl)))
  have w_1 := hts (.fieldLink RX6 13 "GapLinesModel" "now" "[I") (List.mem_cons_of_mem _ (List.mem_append_left _ (List.mem_of_getElem? (i := 1) rfl)))
  have hi6 : ∀ w ∈ u_ws RX6 TX6 11, w ∈ wsX6_about := fun w h => (List.mem_cons_of_mem _ (List.mem_append_right _ h))
  subst hsz
  have hD := hD.self (sz := s.heap.size)
  generalize hAe : va_A [(a0, .inr (5, [.int rf, .ref a1, .int sz, .ref a2, .ref a3, .ref a4, .int ac, .ref a5, .ref a6, .int sp, .int ou])), (a1, .inl (y 0, 120, .inl tx)), (a2, .inl (y 0, 78, .inl nw)), (a3, .inl (y 0, 78, .inl tr)), (a4, .inl (y 0, 1092, .inl dy)), (a5, .inl (y 0, 156, .inl kp)), (a6, .inl (y 2, 2, .inl ik))] s.heap.size = A at hD ⊢
  have hA : ∀ q : Nat, s.heap.size ≤ q → A q := fun q h => by rw [← hAe]; exact Or.inr h
  have hS : va_S A s.heap s.heap [] := va_S.rf
  have hl := lv_entry ([.ref a0, .int p0]) (n := 2) (Nat.le_of_ble_eq_true rfl)
  rw [lg_entry_eq]
  generalize (lg_sl ([.ref a0, .int p0]) ++ List.replicate (2 - (lg_sl ([.ref a0, .int p0])).length) Slot.unset).toArray = ls at hl ⊢
  have hl : lv_has ls 2 [(0, .ref a0), (1, .int p0)] := hl
  have hF := f_X6_about_s rf sz ac sp ou tx nw tr dy kp ik p0
  refine lv_aload_n hx hb dX6_about_0 rfl (lv_at hl 0 rfl) ?_
  refine lv_iload_n hx hb dX6_about_1 rfl (lv_at hl 1 rfl) ?_
  refine lv_i2l (v := p0.toInt64) hx hb dX6_about_2 rfl ?_
  refine lv_lconst (v := 0) hx hb dX6_about_3 (by decide) ?_
  refine lv_ldc2 (v := 11) hx hb hown w_0 dX6_about_4 ?_
  refine xs_calli (va_runS (As := [.long p0.toInt64, .long 0, .long 11]) (rest := [.ref a0]) ⟨hx, hb, hml, hown, hts⟩ (c_X6_in l D y s.heap.size p0.toInt64 0 11) (va_cwS 3 hts gX6_about_X6_in rfl rfl rfl hd_X6_in ⟨Nat.le_of_ble_eq_true rfl, Nat.le_of_ble_eq_true rfl⟩) (gS hE (hP.sub [] rfl) (hD.sub [] (by decide) rfl)) rfl rfl hl.1 rfl (lv_room (Nat.le_of_ble_eq_true rfl)) dX6_about_7 ⟨Nat.le_of_ble_eq_true rfl, Nat.le_of_ble_eq_true rfl⟩) (fun v2 h1 => ?_)
  have hF := hF.trans (gLet_e h1)
  refine lv_if_eq (tgt := 17) hx hb dX6_about_10 (by decide) (fun c_3 => ?_) (fun c_3 => ?_)
  · have hF := hF.trans (if_pos c_3)
    refine lv_iconst (v := 1) hx hb dX6_about_17 (by decide) ?_
    refine xw_calli (va_runV (As := [.int 1]) (rest := []) ⟨hx, hb, hml, hown, hts⟩ (c_X6_refused l D y a0 a1 a2 a3 a4 a5 a6 s.heap.size rf sz ac sp ou 1) (cwV 1 hts gX6_about_X6_refused rfl rfl rfl hd_X6_refused ⟨Nat.le_of_ble_eq_true rfl, Nat.le_of_ble_eq_true rfl⟩) (gV (q := (RX6, TX6, 11)) hE (hP.sub [0] rfl) (hD.sub [0] (by decide) rfl) 0 rfl rfl) rfl rfl hl.1 rfl (lv_room (Nat.le_of_ble_eq_true rfl)) dX6_about_18 ⟨Nat.le_of_ble_eq_true rfl, Nat.le_of_ble_eq_true rfl⟩) hP hD hS hA [0] rfl (by decide) (fun _ => rfl) (fun v6 u5 H locs h4 hP hD hS => ?_)
    have h4 := (rfd1 rf sz ac sp ou).symm.trans h4
    obtain ⟨rfl, rfl⟩ := Prod.mk.inj h4
    have hP : va_P D vwCl [(a0, .inr (5, [.int 1, .ref a1, .int sz, .ref a2, .ref a3, .ref a4, .int ac, .ref a5, .ref a6, .int sp, .int ou])), (a1, .inl (y 0, 120, .inl tx)), (a2, .inl (y 0, 78, .inl nw)), (a3, .inl (y 0, 78, .inl tr)), (a4, .inl (y 0, 1092, .inl dy)), (a5, .inl (y 0, 156, .inl kp)), (a6, .inl (y 2, 2, .inl ik))] H := hP
    have hD : va_D A [(a0, .inr (5, [.int 1, .ref a1, .int sz, .ref a2, .ref a3, .ref a4, .int ac, .ref a5, .ref a6, .int sp, .int ou])), (a1, .inl (y 0, 120, .inl tx)), (a2, .inl (y 0, 78, .inl nw)), (a3, .inl (y 0, 78, .inl tr)), (a4, .inl (y 0, 1092, .inl dy)), (a5, .inl (y 0, 156, .inl kp)), (a6, .inl (y 2, 2, .inl ik))] := hD
    refine lv_if_eq (tgt := 26) hx hb dX6_about_21 (by decide) (fun c_7 => absurd c_7 (by decide)) (fun c_7 => ?_)
    refine lv_iconst (v := 0) hx hb dX6_about_24 (by decide) ?_
    exact W.iret (v := 0) hx hb hr (fun t ht hW => ⟨⟨0, ⟨1, sz, ac, sp, ou, tx, nw, tr, dy, kp, ik⟩, rfl, hF, ⟨by rw [ht]; exact hP, hD⟩⟩, hS.F ht⟩) hS.2.2 dX6_about_25
  · have hF := hF.trans (if_neg c_3)
    refine lv_iconst (v := 0) hx hb dX6_about_13 (by decide) ?_
    refine lv_goto (tgt := 18) hx hb dX6_about_14 (by decide) ?_
    refine xw_calli (va_runV (As := [.int 0]) (rest := []) ⟨hx, hb, hml, hown, hts⟩ (c_X6_refused l D y a0 a1 a2 a3 a4 a5 a6 s.heap.size rf sz ac sp ou 0) (cwV 1 hts gX6_about_X6_refused rfl rfl rfl hd_X6_refused ⟨Nat.le_of_ble_eq_true rfl, Nat.le_of_ble_eq_true rfl⟩) (gV (q := (RX6, TX6, 11)) hE (hP.sub [0] rfl) (hD.sub [0] (by decide) rfl) 0 rfl rfl) rfl rfl hl.1 rfl (lv_room (Nat.le_of_ble_eq_true rfl)) dX6_about_18 ⟨Nat.le_of_ble_eq_true rfl, Nat.le_of_ble_eq_true rfl⟩) hP hD hS hA [0] rfl (by decide) (fun _ => rfl) (fun v10 u9 H locs h8 hP hD hS => ?_)
    have h8 := (rfd0 rf sz ac sp ou).symm.trans h8
    obtain ⟨rfl, rfl⟩ := Prod.mk.inj h8
    have hP : va_P D vwCl [(a0, .inr (5, [.int 0, .ref a1, .int sz, .ref a2, .ref a3, .ref a4, .int ac, .ref a5, .ref a6, .int sp, .int ou])), (a1, .inl (y 0, 120, .inl tx)), (a2, .inl (y 0, 78, .inl nw)), (a3, .inl (y 0, 78, .inl tr)), (a4, .inl (y 0, 1092, .inl dy)), (a5, .inl (y 0, 156, .inl kp)), (a6, .inl (y 2, 2, .inl ik))] H := hP
    have hD : va_D A [(a0, .inr (5, [.int 0, .ref a1, .int sz, .ref a2, .ref a3, .ref a4, .int ac, .ref a5, .ref a6, .int sp, .int ou])), (a1, .inl (y 0, 120, .inl tx)), (a2, .inl (y 0, 78, .inl nw)), (a3, .inl (y 0, 78, .inl tr)), (a4, .inl (y 0, 1092, .inl dy)), (a5, .inl (y 0, 156, .inl kp)), (a6, .inl (y 2, 2, .inl ik))] := hD
    refine lv_if_eq (tgt := 26) hx hb dX6_about_21 (by decide) (fun c_11 => ?_) (fun c_11 => absurd (by decide) c_11)
    refine lv_aload_n hx hb dX6_about_26 rfl (lv_at hl 0 rfl) ?_
    refine va_get (D := D) (ci := 5) (v := .ref a2) (C := RX6) (T := TX6) (N := 11) hx hb hts hi6 hown hE.1 hP 0 rfl rfl 3 (by decide) w_1 (fun _ h9 => h9) rfl dX6_about_27 ?_
    refine lv_iconst (v := 0) hx hb dX6_about_30 (by decide) ?_
    refine xa_iald (k := 0) (v := nw 0) hx hb hE.1 hP 2 0 rfl rfl (xin (by decide)) rfl rfl dX6_about_31 ?_
    refine lv_if_ne (tgt := 37) hx hb dX6_about_32 (by decide) (fun c_12 => ?_) (fun c_12 => ?_)
    · have hF := hF.trans (if_neg c_12)
      refine lv_iload_n hx hb dX6_about_37 rfl (lv_at hl 1 rfl) ?_
      by_cases c_13 : p0 = 0
      · have hF := hF.trans (if_pos c_13)
        refine lv_tableIn (off := 46) (tgt := 84) hx hb dX6_about_38 (by rw [c_13]; decide) (by rw [c_13]; decide) (by rw [c_13]; rfl) (by decide) ?_
        refine lv_aload_n hx hb dX6_about_84 rfl (lv_at hl 0 rfl) ?_
        refine va_get (D := D) (ci := 5) (v := .ref a2) (C := RX6) (T := TX6) (N := 11) hx hb hts hi6 hown hE.1 hP 0 rfl rfl 3 (by decide) w_1 (fun _ h9 => h9) rfl dX6_about_85 ?_
        refine lv_iconst (v := 0) hx hb dX6_about_88 (by decide) ?_
        refine xa_iald (k := 0) (v := nw 0) hx hb hE.1 hP 2 0 rfl rfl (xin (by decide)) rfl rfl dX6_about_89 ?_
        exact W.iret (v := (nw 0)) hx hb hr (fun t ht hW => ⟨⟨(nw 0), ⟨0, sz, ac, sp, ou, tx, nw, tr, dy, kp, ik⟩, rfl, hF, ⟨by rw [ht]; exact hP, hD⟩⟩, hS.F ht⟩) hS.2.2 dX6_about_90
      · have hF := hF.trans (if_neg c_13)
        by_cases c_14 : p0 = 1
        · have hF := hF.trans (if_pos c_14)
          refine lv_tableIn (off := 53) (tgt := 91) hx hb dX6_about_38 (by rw [c_14]; decide) (by rw [c_14]; decide) (by rw [c_14]; rfl) (by decide) ?_
          refine lv_aload_n hx hb dX6_about_91 rfl (lv_at hl 0 rfl) ?_
          refine va_get (D := D) (ci := 5) (v := .ref a2) (C := RX6) (T := TX6) (N := 11) hx hb hts hi6 hown hE.1 hP 0 rfl rfl 3 (by decide) w_1 (fun _ h9 => h9) rfl dX6_about_92 ?_
          refine lv_iload_n hx hb dX6_about_95 rfl (lv_at hl 1 rfl) ?_
          refine lv_iconst (v := 1) hx hb dX6_about_96 (by decide) ?_
          refine lv_iadd hx hb dX6_about_97 ?_
          refine xa_iald (k := (p0 + 1).toNatClampNeg) (v := nw ((p0 + 1).toNatClampNeg)) hx hb hE.1 hP 2 0 rfl rfl (by rw [c_14]; exact xin (by decide)) rfl rfl dX6_about_98 ?_
          exact W.iret (v := (nw ((p0 + 1).toNatClampNeg))) hx hb hr (fun t ht hW => ⟨⟨(nw ((p0 + 1).toNatClampNeg)), ⟨0, sz, ac, sp, ou, tx, nw, tr, dy, kp, ik⟩, rfl, hF, ⟨by rw [ht]; exact hP, hD⟩⟩, hS.F ht⟩) hS.2.2 dX6_about_99
        · have hF := hF.trans (if_neg c_14)
          by_cases c_15 : p0 = 2
          · have hF := hF.trans (if_pos c_15)
            refine lv_tableIn (off := 53) (tgt := 91) hx hb dX6_about_38 (by rw [c_15]; decide) (by rw [c_15]; decide) (by rw [c_15]; rfl) (by decide) ?_
            refine lv_aload_n hx hb dX6_about_91 rfl (lv_at hl 0 rfl) ?_
            refine va_get (D := D) (ci := 5) (v := .ref a2) (C := RX6) (T := TX6) (N := 11) hx hb hts hi6 hown hE.1 hP 0 rfl rfl 3 (by decide) w_1 (fun _ h9 => h9) rfl dX6_about_92 ?_
            refine lv_iload_n hx hb dX6_about_95 rfl (lv_at hl 1 rfl) ?_
            refine lv_iconst (v := 1) hx hb dX6_about_96 (by decide) ?_
            refine lv_iadd hx hb dX6_about_97 ?_
            refine xa_iald (k := (p0 + 1).toNatClampNeg) (v := nw ((p0 + 1).toNatClampNeg)) hx hb hE.1 hP 2 0 rfl rfl (by rw [c_15]; exact xin (by decide)) rfl rfl dX6_about_98 ?_
            exact W.iret (v := (nw ((p0 + 1).toNatClampNeg))) hx hb hr (fun t ht hW => ⟨⟨(nw ((p0 + 1).toNatClampNeg)), ⟨0, sz, ac, sp, ou, tx, nw, tr, dy, kp, ik⟩, rfl, hF, ⟨by rw [ht]; exact hP, hD⟩⟩, hS.F ht⟩) hS.2.2 dX6_about_99
          · have hF := hF.trans (if_neg c_15)
            by_cases c_16 : p0 = 3
            · have hF := hF.trans (if_pos c_16)
              refine lv_tableIn (off := 53) (tgt := 91) hx hb dX6_about_38 (by rw [c_16]; decide) (by rw [c_16]; decide) (by rw [c_16]; rfl) (by decide) ?_
              refine lv_aload_n hx hb dX6_about_91 rfl (lv_at hl 0 rfl) ?_
              refine va_get (D := D) (ci := 5) (v := .ref a2) (C := RX6) (T := TX6) (N := 11) hx hb hts hi6 hown hE.1 hP 0 rfl rfl 3 (by decide) w_1 (fun _ h9 => h9) rfl dX6_about_92 ?_
              refine lv_iload_n hx hb dX6_about_95 rfl (lv_at hl 1 rfl) ?_
              refine lv_iconst (v := 1) hx hb dX6_about_96 (by decide) ?_
              refine lv_iadd hx hb dX6_about_97 ?_
              refine xa_iald (k := (p0 + 1).toNatClampNeg) (v := nw ((p0 + 1).toNatClampNeg)) hx hb hE.1 hP 2 0 rfl rfl (by rw [c_16]; exact xin (by decide)) rfl rfl dX6_about_98 ?_
              exact W.iret (v := (nw ((p0 + 1).toNatClampNeg))) hx hb hr (fun t ht hW => ⟨⟨(nw ((p0 + 1).toNatClampNeg)), ⟨0, sz, ac, sp, ou, tx, nw, tr, dy, kp, ik⟩, rfl, hF, ⟨by rw [ht]; exact hP, hD⟩⟩, hS.F ht⟩) hS.2.2 dX6_about_99
            · have hF := hF.trans (if_neg c_16)
              by_cases c_17 : p0 = 4
              · have hF := hF.trans (if_pos c_17)
                refine lv_tableIn (off := 53) (tgt := 91) hx hb dX6_about_38 (by rw [c_17]; decide) (by rw [c_17]; decide) (by rw [c_17]; rfl) (by decide) ?_
                refine lv_aload_n hx hb dX6_about_91 rfl (lv_at hl 0 rfl) ?_
                refine va_get (D := D) (ci := 5) (v := .ref a2) (C := RX6) (T := TX6) (N := 11) hx hb hts hi6 hown hE.1 hP 0 rfl rfl 3 (by decide) w_1 (fun _ h9 => h9) rfl dX6_about_92 ?_
                refine lv_iload_n hx hb dX6_about_95 rfl (lv_at hl 1 rfl) ?_
                refine lv_iconst (v := 1) hx hb dX6_about_96 (by decide) ?_
                refine lv_iadd hx hb dX6_about_97 ?_
                refine xa_iald (k := (p0 + 1).toNatClampNeg) (v := nw ((p0 + 1).toNatClampNeg)) hx hb hE.1 hP 2 0 rfl rfl (by rw [c_17]; exact xin (by decide)) rfl rfl dX6_about_98 ?_
                exact W.iret (v := (nw ((p0 + 1).toNatClampNeg))) hx hb hr (fun t ht hW => ⟨⟨(nw ((p0 + 1).toNatClampNeg)), ⟨0, sz, ac, sp, ou, tx, nw, tr, dy, kp, ik⟩, rfl, hF, ⟨by rw [ht]; exact hP, hD⟩⟩, hS.F ht⟩) hS.2.2 dX6_about_99
              · have hF := hF.trans (if_neg c_17)
                by_cases c_18 : p0 = 5
                · have hF := hF.trans (if_pos c_18)
                  refine lv_tableIn (off := 53) (tgt := 91) hx hb dX6_about_38 (by rw [c_18]; decide) (by rw [c_18]; decide) (by rw [c_18]; rfl) (by decide) ?_
                  refine lv_aload_n hx hb dX6_about_91 rfl (lv_at hl 0 rfl) ?_
                  refine va_get (D := D) (ci := 5) (v := .ref a2) (C := RX6) (T := TX6) (N := 11) hx hb hts hi6 hown hE.1 hP 0 rfl rfl 3 (by decide) w_1 (fun _ h9 => h9) rfl dX6_about_92 ?_
                  refine lv_iload_n hx hb dX6_about_95 rfl (lv_at hl 1 rfl) ?_
                  refine lv_iconst (v := 1) hx hb dX6_about_96 (by decide) ?_
                  refine lv_iadd hx hb dX6_about_97 ?_
                  refine xa_iald (k := (p0 + 1).toNatClampNeg) (v := nw ((p0 + 1).toNatClampNeg)) hx hb hE.1 hP 2 0 rfl rfl (by rw [c_18]; exact xin (by decide)) rfl rfl dX6_about_98 ?_
                  exact W.iret (v := (nw ((p0 + 1).toNatClampNeg))) hx hb hr (fun t ht hW => ⟨⟨(nw ((p0 + 1).toNatClampNeg)), ⟨0, sz, ac, sp, ou, tx, nw, tr, dy, kp, ik⟩, rfl, hF, ⟨by rw [ht]; exact hP, hD⟩⟩, hS.F ht⟩) hS.2.2 dX6_about_99
                · have hF := hF.trans (if_neg c_18)
                  by_cases c_19 : p0 = 6
                  · have hF := hF.trans (if_pos c_19)
                    refine lv_tableIn (off := 62) (tgt := 100) hx hb dX6_about_38 (by rw [c_19]; decide) (by rw [c_19]; decide) (by rw [c_19]; rfl) (by decide) ?_
                    refine lv_aload_n hx hb dX6_about_100 rfl (lv_at hl 0 rfl) ?_
                    refine va_get (D := D) (ci := 5) (v := .ref a2) (C := RX6) (T := TX6) (N := 11) hx hb hts hi6 hown hE.1 hP 0 rfl rfl 3 (by decide) w_1 (fun _ h9 => h9) rfl dX6_about_101 ?_
                    refine xs_calli (va_runS (As := [.ref a2]) (rest := []) ⟨hx, hb, hml, hown, hts⟩ (c_X6_greatest l D y a2 H.size nw hm.2.2.2.1) (va_cwS 1 hts gX6_about_X6_greatest rfl rfl rfl hd_X6_greatest ⟨Nat.le_of_ble_eq_true rfl, Nat.le_of_ble_eq_true rfl⟩) (gS hE (hP.sub [2] rfl) (hD.sub [2] (by decide) rfl)) rfl rfl hl.1 rfl (lv_room (Nat.le_of_ble_eq_true rfl)) dX6_about_104 ⟨Nat.le_of_ble_eq_true rfl, Nat.le_of_ble_eq_true rfl⟩) (fun v21 h20 => ?_)
                    have hF := hF.trans (gLet_e h20)
                    exact W.iret (v := v21) hx hb hr (fun t ht hW => ⟨⟨v21, ⟨0, sz, ac, sp, ou, tx, nw, tr, dy, kp, ik⟩, rfl, hF, ⟨by rw [ht]; exact hP, hD⟩⟩, hS.F ht⟩) hS.2.2 dX6_about_107
                  · have hF := hF.trans (if_neg c_19)
                    by_cases c_22 : p0 = 7
                    · have hF := hF.trans (if_pos c_22)
                      refine lv_tableIn (off := 70) (tgt := 108) hx hb dX6_about_38 (by rw [c_22]; decide) (by rw [c_22]; decide) (by rw [c_22]; rfl) (by decide) ?_
                      refine lv_aload_n hx hb dX6_about_108 rfl (lv_at hl 0 rfl) ?_
                      refine va_get (D := D) (ci := 5) (v := .ref a2) (C := RX6) (T := TX6) (N := 11) hx hb hts hi6 hown hE.1 hP 0 rfl rfl 3 (by decide) w_1 (fun _ h9 => h9) rfl dX6_about_109 ?_
                      refine xs_calli (va_runS (As := [.ref a2]) (rest := []) ⟨hx, hb, hml, hown, hts⟩ (c_X6_least l D y a2 H.size nw hm.2.2.2.1) (va_cwS 1 hts gX6_about_X6_least rfl rfl rfl hd_X6_least ⟨Nat.le_of_ble_eq_true rfl, Nat.le_of_ble_eq_true rfl⟩) (gS hE (hP.sub [2] rfl) (hD.sub [2] (by decide) rfl)) rfl rfl hl.1 rfl (lv_room (Nat.le_of_ble_eq_true rfl)) dX6_about_112 ⟨Nat.le_of_ble_eq_true rfl, Nat.le_of_ble_eq_true rfl⟩) (fun v24 h23 => ?_)
                      have hF := hF.trans (gLet_e h23)
                      exact W.iret (v := v24) hx hb hr (fun t ht hW => ⟨⟨v24, ⟨0, sz, ac, sp, ou, tx, nw, tr, dy, kp, ik⟩, rfl, hF, ⟨by rw [ht]; exact hP, hD⟩⟩, hS.F ht⟩) hS.2.2 dX6_about_115
                    · have hF := hF.trans (if_neg c_22)
                      refine lv_tableOut (tgt := 116) hx hb dX6_about_38 (by have q := And.intro trivial trivial; have q0 := sw_ne c_13 (n := 0) (by decide); have q1 := sw_ne c_14 (n := 1) (by decide); have q2 := sw_ne c_15 (n := 2) (by decide); have q3 := sw_ne c_16 (n := 3) (by decide); have q4 := sw_ne c_17 (n := 4) (by decide); have q5 := sw_ne c_18 (n := 5) (by decide); have q6 := sw_ne c_19 (n := 6) (by decide); have q7 := sw_ne c_22 (n := 7) (by decide); omega) (by decide) ?_
                      refine lv_aload_n hx hb dX6_about_116 rfl (lv_at hl 0 rfl) ?_
                      refine va_get (D := D) (ci := 5) (v := .ref a2) (C := RX6) (T := TX6) (N := 11) hx hb hts hi6 hown hE.1 hP 0 rfl rfl 3 (by decide) w_1 (fun _ h9 => h9) rfl dX6_about_117 ?_
                      refine lv_iload_n hx hb dX6_about_120 rfl (lv_at hl 1 rfl) ?_
                      refine lv_iconst (v := 1) hx hb dX6_about_121 (by decide) ?_
                      refine lv_isub hx hb dX6_about_122 ?_
                      refine xa_iald (k := (p0 - 1).toNatClampNeg) (v := nw ((p0 - 1).toNatClampNeg)) hx hb hE.1 hP 2 0 rfl rfl (ab_in h1 (by assumption) (by assumption)) rfl rfl dX6_about_123 ?_
                      exact W.iret (v := (nw ((p0 - 1).toNatClampNeg))) hx hb hr (fun t ht hW => ⟨⟨(nw ((p0 - 1).toNatClampNeg)), ⟨0, sz, ac, sp, ou, tx, nw, tr, dy, kp, ik⟩, rfl, hF, ⟨by rw [ht]; exact hP, hD⟩⟩, hS.F ht⟩) hS.2.2 dX6_about_124
    · have hF := hF.trans (if_pos c_12)
      refine lv_iconst (v := 0) hx hb dX6_about_35 (by decide) ?_
      exact W.iret (v := 0) hx hb hr (fun t ht hW => ⟨⟨0, ⟨0, sz, ac, sp, ou, tx, nw, tr, dy, kp, ik⟩, rfl, hF, ⟨by rw [ht]; exact hP, hD⟩⟩, hS.F ht⟩) hS.2.2 dX6_about_36

def f_X6_read (rf : Int32) (sz : Int32) (ac : Int32) (sp : Int32) (ou : Int32) (tx : Nat → Int32) (nw : gR) (tr : gR) (dy : Nat → Int32) (kp : Nat → Int32) (ik : Nat → Int32) (p0 : Int32) : Int32 × Int32 × Int32 × Int32 × Int32 × Int32 × (Nat → Int32) × gR × gR × (Nat → Int32) × (Nat → Int32) × (Nat → Int32) :=
    gLet (f_X6_isLine nw p0) (fun (v2 : Int32) =>
    if v2 = 0 then
      (0, 1, sz, ac, sp, ou, tx, nw, tr, dy, kp, ik)
    else
      ((nw ((13 + p0).toNatClampNeg)), 0, sz, ac, sp, ou, tx, nw, tr, dy, kp, ik))
theorem f_X6_read_s (rf : Int32) (sz : Int32) (ac : Int32) (sp : Int32) (ou : Int32) (tx : Nat → Int32) (nw : gR) (tr : gR) (dy : Nat → Int32) (kp : Nat → Int32) (ik : Nat → Int32) (p0 : Int32) : f_X6_read rf sz ac sp ou tx nw tr dy kp ik p0 =
    (gLet (f_X6_isLine nw p0) (fun (v2 : Int32) =>
    if v2 = 0 then
      (0, 1, sz, ac, sp, ou, tx, nw, tr, dy, kp, ik)
    else
      ((nw ((13 + p0).toNatClampNeg)), 0, sz, ac, sp, ou, tx, nw, tr, dy, kp, ik))) := rfl
theorem hd_X6_read : yX6_read.cls = RX6 ∧ yX6_read.cls ≠ "java/lang/invoke/MethodHandle" ∧ yX6_read.cls ≠ "java/lang/invoke/VarHandle" ∧ (parseMethodDescriptor yX6_read.desc).map (fun d => d.parameters.length) = some 1 := by decide +kernel
set_option maxHeartbeats 4000000 in
set_option maxRecDepth 100000 in
theorem c_X6_read (l : Launch) (D : va_G) (y : Nat → ClassId) (a0 a1 a2 a3 a4 a5 a6 : Nat) (zh : Nat) (rf : Int32) (sz : Int32) (ac : Int32) (sp : Int32) (ou : Int32) (tx : Nat → Int32) (nw : gR) (tr : gR) (dy : Nat → Int32) (kp : Nat → Int32) (ik : Nat → Int32) (p0 : Int32) (hm : okMd sz ac nw) : Met l yX6_read wsX6_read ({ frames := 2, cells := 0, slots := 0, locals := 46 }) (gP D y [.ref a0, .int p0] zh [(a0, .inr (5, [.int rf, .ref a1, .int sz, .ref a2, .ref a3, .ref a4, .int ac, .ref a5, .ref a6, .int sp, .int ou])), (a1, .inl (y 0, 120, .inl tx)), (a2, .inl (y 0, 78, .inl nw)), (a3, .inl (y 0, 78, .inl tr)), (a4, .inl (y 0, 1092, .inl dy)), (a5, .inl (y 0, 156, .inl kp)), (a6, .inl (y 2, 2, .inl ik))]) (va_Qi (fun (v : Int32) (u : Int32 × Int32 × Int32 × Int32 × Int32 × (Nat → Int32) × gR × gR × (Nat → Int32) × (Nat → Int32) × (Nat → Int32)) => f_X6_read rf sz ac sp ou tx nw tr dy kp ik p0 = (v, u)) (fun (u : Int32 × Int32 × Int32 × Int32 × Int32 × (Nat → Int32) × gR × gR × (Nat → Int32) × (Nat → Int32) × (Nat → Int32)) t => va_P D vwCl [(a0, .inr (5, [.int u.1, .ref a1, .int u.2.1, .ref a2, .ref a3, .ref a4, .int u.2.2.1, .ref a5, .ref a6, .int u.2.2.2.1, .int u.2.2.2.2.1])), (a1, .inl (y 0, 120, .inl u.2.2.2.2.2.1)), (a2, .inl (y 0, 78, .inl u.2.2.2.2.2.2.1)), (a3, .inl (y 0, 78, .inl u.2.2.2.2.2.2.2.1)), (a4, .inl (y 0, 1092, .inl u.2.2.2.2.2.2.2.2.1)), (a5, .inl (y 0, 156, .inl u.2.2.2.2.2.2.2.2.2.1)), (a6, .inl (y 2, 2, .inl u.2.2.2.2.2.2.2.2.2.2))] t.heap ∧ va_D (va_A [(a0, .inr (5, [.int rf, .ref a1, .int sz, .ref a2, .ref a3, .ref a4, .int ac, .ref a5, .ref a6, .int sp, .int ou])), (a1, .inl (y 0, 120, .inl tx)), (a2, .inl (y 0, 78, .inl nw)), (a3, .inl (y 0, 78, .inl tr)), (a4, .inl (y 0, 1092, .inl dy)), (a5, .inl (y 0, 156, .inl kp)), (a6, .inl (y 2, 2, .inl ik))] zh) [(a0, .inr (5, [.int u.1, .ref a1, .int u.2.1, .ref a2, .ref a3, .ref a4, .int u.2.2.1, .ref a5, .ref a6, .int u.2.2.2.1, .int u.2.2.2.2.1])), (a1, .inl (y 0, 120, .inl u.2.2.2.2.2.1)), (a2, .inl (y 0, 78, .inl u.2.2.2.2.2.2.1)), (a3, .inl (y 0, 78, .inl u.2.2.2.2.2.2.2.1)), (a4, .inl (y 0, 1092, .inl u.2.2.2.2.2.2.2.2.1)), (a5, .inl (y 0, 156, .inl u.2.2.2.2.2.2.2.2.2.1)), (a6, .inl (y 2, 2, .inl u.2.2.2.2.2.2.2.2.2.2))]) (va_A [(a0, .inr (5, [.int rf, .ref a1, .int sz, .ref a2, .ref a3, .ref a4, .int ac, .ref a5, .ref a6, .int sp, .int ou])), (a1, .inl (y 0, 120, .inl tx)), (a2, .inl (y 0, 78, .inl nw)), (a3, .inl (y 0, 78, .inl tr)), (a4, .inl (y 0, 1092, .inl dy)), (a5, .inl (y 0, 156, .inl kp)), (a6, .inl (y 2, 2, .inl ik))] zh)) 0 0 (va_A [(a0, .inr (5, [.int rf, .ref a1, .int sz, .ref a2, .ref a3, .ref a4, .int ac, .ref a5, .ref a6, .int sp, .int ou])), (a1, .inl (y 0, 120, .inl tx)), (a2, .inl (y 0, 78, .inl nw)), (a3, .inl (y 0, 78, .inl tr)), (a4, .inl (y 0, 1092, .inl dy)), (a5, .inl (y 0, 156, .inl kp)), (a6, .inl (y 2, 2, .inl ik))] zh) := by
  refine Met.ofW (cc := cX6_read) (maxL := 2) (ret := (some .int)) (by decide) rfl ?_
  intro p e s m args below meth c s₁ B hml hv
  obtain ⟨rfl, hsz, hP, hE, hD⟩ := hv
  have hx := B.exec
  have hb := B.bytes
  have hr := B.returns
  have hts := atoms_spec (ws := wsX6_read) B.pre
  have hown : s.vm.findClass RX6 = some m.cls := findClass_of_methodNamed B.named
  have hlocks := B.notSynchronized
  have w_0 := hts (.fieldLink RX6 13 "GapLinesModel" "now" "[I") (List.mem_cons_of_mem _ (List.mem_append_left _ (List.mem_of_getElem? (i := 0) rfl)))
  have hi6 : ∀ w ∈ u_ws RX6 TX6 11, w ∈ wsX6_read := fun w h => (List.mem_cons_of_mem _ (List.mem_append_right _ h))
  subst hsz
  have hD := hD.self (sz := s.heap.size)
  generalize hAe : va_A [(a0, .inr (5, [.int rf, .ref a1, .int sz, .ref a2, .ref a3, .ref a4, .int ac, .ref a5, .ref a6, .int sp, .int ou])), (a1, .inl (y 0, 120, .inl tx)), (a2, .inl (y 0, 78, .inl nw)), (a3, .inl (y 0, 78, .inl tr)), (a4, .inl (y 0, 1092, .inl dy)), (a5, .inl (y 0, 156, .inl kp)), (a6, .inl (y 2, 2, .inl ik))] s.heap.size = A at hD ⊢
  have hA : ∀ q : Nat, s.heap.size ≤ q → A q := fun q h => by rw [← hAe]; exact Or.inr h
  have hS : va_S A s.heap s.heap [] := va_S.rf
  have hl := lv_entry ([.ref a0, .int p0]) (n := 2) (Nat.le_of_ble_eq_true rfl)
  rw [lg_entry_eq]
  generalize (lg_sl ([.ref a0, .int p0]) ++ List.replicate (2 - (lg_sl ([.ref a0, .int p0])).length) Slot.unset).toArray = ls at hl ⊢
  have hl : lv_has ls 2 [(0, .ref a0), (1, .int p0)] := hl
  have hF := f_X6_read_s rf sz ac sp ou tx nw tr dy kp ik p0
  refine lv_aload_n hx hb dX6_read_0 rfl (lv_at hl 0 rfl) ?_
  refine lv_aload_n hx hb dX6_read_1 rfl (lv_at hl 0 rfl) ?_
  refine va_get (D := D) (ci := 5) (v := .ref a2) (C := RX6) (T := TX6) (N := 11) hx hb hts hi6 hown hE.1 hP 0 rfl rfl 3 (by decide) w_0 (fun _ h9 => h9) rfl dX6_read_2 ?_
  refine lv_iload_n hx hb dX6_read_5 rfl (lv_at hl 1 rfl) ?_
  refine xs_calli (va_runS (As := [.ref a2, .int p0]) (rest := [.ref a0]) ⟨hx, hb, hml, hown, hts⟩ (c_X6_isLine l D y a2 s.heap.size nw p0) (va_cwS 2 hts gX6_read_X6_isLine rfl rfl rfl hd_X6_isLine ⟨Nat.le_of_ble_eq_true rfl, Nat.le_of_ble_eq_true rfl⟩) (gS hE (hP.sub [2] rfl) (hD.sub [2] (by decide) rfl)) rfl rfl hl.1 rfl (lv_room (Nat.le_of_ble_eq_true rfl)) dX6_read_6 ⟨Nat.le_of_ble_eq_true rfl, Nat.le_of_ble_eq_true rfl⟩) (fun v2 h1 => ?_)
  have hF := hF.trans (gLet_e h1)
  refine lv_if_eq (tgt := 16) hx hb dX6_read_9 (by decide) (fun c_3 => ?_) (fun c_3 => ?_)
  · have hF := hF.trans (if_pos c_3)
    refine lv_iconst (v := 1) hx hb dX6_read_16 (by decide) ?_
    refine xw_calli (va_runV (As := [.int 1]) (rest := []) ⟨hx, hb, hml, hown, hts⟩ (c_X6_refused l D y a0 a1 a2 a3 a4 a5 a6 s.heap.size rf sz ac sp ou 1) (cwV 1 hts gX6_read_X6_refused rfl rfl rfl hd_X6_refused ⟨Nat.le_of_ble_eq_true rfl, Nat.le_of_ble_eq_true rfl⟩) (gV (q := (RX6, TX6, 11)) hE (hP.sub [0] rfl) (hD.sub [0] (by decide) rfl) 0 rfl rfl) rfl rfl hl.1 rfl (lv_room (Nat.le_of_ble_eq_true rfl)) dX6_read_17 ⟨Nat.le_of_ble_eq_true rfl, Nat.le_of_ble_eq_true rfl⟩) hP hD hS hA [0] rfl (by decide) (fun _ => rfl) (fun v6 u5 H locs h4 hP hD hS => ?_)
    have h4 := (rfd1 rf sz ac sp ou).symm.trans h4
    obtain ⟨rfl, rfl⟩ := Prod.mk.inj h4
    have hP : va_P D vwCl [(a0, .inr (5, [.int 1, .ref a1, .int sz, .ref a2, .ref a3, .ref a4, .int ac, .ref a5, .ref a6, .int sp, .int ou])), (a1, .inl (y 0, 120, .inl tx)), (a2, .inl (y 0, 78, .inl nw)), (a3, .inl (y 0, 78, .inl tr)), (a4, .inl (y 0, 1092, .inl dy)), (a5, .inl (y 0, 156, .inl kp)), (a6, .inl (y 2, 2, .inl ik))] H := hP
    have hD : va_D A [(a0, .inr (5, [.int 1, .ref a1, .int sz, .ref a2, .ref a3, .ref a4, .int ac, .ref a5, .ref a6, .int sp, .int ou])), (a1, .inl (y 0, 120, .inl tx)), (a2, .inl (y 0, 78, .inl nw)), (a3, .inl (y 0, 78, .inl tr)), (a4, .inl (y 0, 1092, .inl dy)), (a5, .inl (y 0, 156, .inl kp)), (a6, .inl (y 2, 2, .inl ik))] := hD
    refine lv_if_eq (tgt := 25) hx hb dX6_read_20 (by decide) (fun c_7 => absurd c_7 (by decide)) (fun c_7 => ?_)
    refine lv_iconst (v := 0) hx hb dX6_read_23 (by decide) ?_
    exact W.iret (v := 0) hx hb hr (fun t ht hW => ⟨⟨0, ⟨1, sz, ac, sp, ou, tx, nw, tr, dy, kp, ik⟩, rfl, hF, ⟨by rw [ht]; exact hP, hD⟩⟩, hS.F ht⟩) hS.2.2 dX6_read_24
  · have hF := hF.trans (if_neg c_3)
    refine lv_iconst (v := 0) hx hb dX6_read_12 (by decide) ?_
    refine lv_goto (tgt := 17) hx hb dX6_read_13 (by decide) ?_
    refine xw_calli (va_runV (As := [.int 0]) (rest := []) ⟨hx, hb, hml, hown, hts⟩ (c_X6_refused l D y a0 a1 a2 a3 a4 a5 a6 s.heap.size rf sz ac sp ou 0) (cwV 1 hts gX6_read_X6_refused rfl rfl rfl hd_X6_refused ⟨Nat.le_of_ble_eq_true rfl, Nat.le_of_ble_eq_true rfl⟩) (gV (q := (RX6, TX6, 11)) hE (hP.sub [0] rfl) (hD.sub [0] (by decide) rfl) 0 rfl rfl) rfl rfl hl.1 rfl (lv_room (Nat.le_of_ble_eq_true rfl)) dX6_read_17 ⟨Nat.le_of_ble_eq_true rfl, Nat.le_of_ble_eq_true rfl⟩) hP hD hS hA [0] rfl (by decide) (fun _ => rfl) (fun v10 u9 H locs h8 hP hD hS => ?_)
    have h8 := (rfd0 rf sz ac sp ou).symm.trans h8
    obtain ⟨rfl, rfl⟩ := Prod.mk.inj h8
    have hP : va_P D vwCl [(a0, .inr (5, [.int 0, .ref a1, .int sz, .ref a2, .ref a3, .ref a4, .int ac, .ref a5, .ref a6, .int sp, .int ou])), (a1, .inl (y 0, 120, .inl tx)), (a2, .inl (y 0, 78, .inl nw)), (a3, .inl (y 0, 78, .inl tr)), (a4, .inl (y 0, 1092, .inl dy)), (a5, .inl (y 0, 156, .inl kp)), (a6, .inl (y 2, 2, .inl ik))] H := hP
    have hD : va_D A [(a0, .inr (5, [.int 0, .ref a1, .int sz, .ref a2, .ref a3, .ref a4, .int ac, .ref a5, .ref a6, .int sp, .int ou])), (a1, .inl (y 0, 120, .inl tx)), (a2, .inl (y 0, 78, .inl nw)), (a3, .inl (y 0, 78, .inl tr)), (a4, .inl (y 0, 1092, .inl dy)), (a5, .inl (y 0, 156, .inl kp)), (a6, .inl (y 2, 2, .inl ik))] := hD
    refine lv_if_eq (tgt := 25) hx hb dX6_read_20 (by decide) (fun c_11 => ?_) (fun c_11 => absurd (by decide) c_11)
    refine lv_aload_n hx hb dX6_read_25 rfl (lv_at hl 0 rfl) ?_
    refine va_get (D := D) (ci := 5) (v := .ref a2) (C := RX6) (T := TX6) (N := 11) hx hb hts hi6 hown hE.1 hP 0 rfl rfl 3 (by decide) w_0 (fun _ h9 => h9) rfl dX6_read_26 ?_
    refine lv_bipush (v := 13) hx hb dX6_read_29 (by decide) ?_
    refine lv_iload_n hx hb dX6_read_31 rfl (lv_at hl 1 rfl) ?_
    refine lv_iadd hx hb dX6_read_32 ?_
    refine xa_iald (k := (13 + p0).toNatClampNeg) (v := nw ((13 + p0).toNatClampNeg)) hx hb hE.1 hP 2 0 rfl rfl (in13 (il_okL (r := nw) (l := p0) h1 (by assumption) hm.2.2.1).1 (by have := (il_okL (r := nw) (l := p0) h1 (by assumption) hm.2.2.1).2; have := hm.2.2.2.1; omega)) rfl rfl dX6_read_33 ?_
    exact W.iret (v := (nw ((13 + p0).toNatClampNeg))) hx hb hr (fun t ht hW => ⟨⟨(nw ((13 + p0).toNatClampNeg)), ⟨0, sz, ac, sp, ou, tx, nw, tr, dy, kp, ik⟩, rfl, hF, ⟨by rw [ht]; exact hP, hD⟩⟩, hS.F ht⟩) hS.2.2 dX6_read_34

def f_X6_place (rf : Int32) (sz : Int32) (ac : Int32) (sp : Int32) (ou : Int32) (tx : Nat → Int32) (nw : gR) (tr : gR) (dy : Nat → Int32) (kp : Nat → Int32) (ik : Nat → Int32) (p0 : Int32) : Int32 × Int32 × Int32 × Int32 × Int32 × Int32 × (Nat → Int32) × gR × gR × (Nat → Int32) × (Nat → Int32) × (Nat → Int32) :=
    gLet (f_X6_isLine nw p0) (fun (v2 : Int32) =>
    if v2 = 0 then
      (0, 1, sz, ac, sp, ou, tx, nw, tr, dy, kp, ik)
    else
      gLet (f_X6_placeOf nw p0) (fun (v13 : Int32) =>
        (v13, 0, sz, ac, sp, ou, tx, nw, tr, dy, kp, ik)))
theorem f_X6_place_s (rf : Int32) (sz : Int32) (ac : Int32) (sp : Int32) (ou : Int32) (tx : Nat → Int32) (nw : gR) (tr : gR) (dy : Nat → Int32) (kp : Nat → Int32) (ik : Nat → Int32) (p0 : Int32) : f_X6_place rf sz ac sp ou tx nw tr dy kp ik p0 =
    (gLet (f_X6_isLine nw p0) (fun (v2 : Int32) =>
    if v2 = 0 then
      (0, 1, sz, ac, sp, ou, tx, nw, tr, dy, kp, ik)
    else
      gLet (f_X6_placeOf nw p0) (fun (v13 : Int32) =>
        (v13, 0, sz, ac, sp, ou, tx, nw, tr, dy, kp, ik)))) := rfl
theorem hd_X6_place : yX6_place.cls = RX6 ∧ yX6_place.cls ≠ "java/lang/invoke/MethodHandle" ∧ yX6_place.cls ≠ "java/lang/invoke/VarHandle" ∧ (parseMethodDescriptor yX6_place.desc).map (fun d => d.parameters.length) = some 1 := by decide +kernel
set_option maxHeartbeats 4000000 in
set_option maxRecDepth 100000 in
theorem c_X6_place (l : Launch) (D : va_G) (y : Nat → ClassId) (a0 a1 a2 a3 a4 a5 a6 : Nat) (zh : Nat) (rf : Int32) (sz : Int32) (ac : Int32) (sp : Int32) (ou : Int32) (tx : Nat → Int32) (nw : gR) (tr : gR) (dy : Nat → Int32) (kp : Nat → Int32) (ik : Nat → Int32) (p0 : Int32) (hm : okMd sz ac nw) : Met l yX6_place wsX6_place ({ frames := 2, cells := 0, slots := 0, locals := 46 }) (gP D y [.ref a0, .int p0] zh [(a0, .inr (5, [.int rf, .ref a1, .int sz, .ref a2, .ref a3, .ref a4, .int ac, .ref a5, .ref a6, .int sp, .int ou])), (a1, .inl (y 0, 120, .inl tx)), (a2, .inl (y 0, 78, .inl nw)), (a3, .inl (y 0, 78, .inl tr)), (a4, .inl (y 0, 1092, .inl dy)), (a5, .inl (y 0, 156, .inl kp)), (a6, .inl (y 2, 2, .inl ik))]) (va_Qi (fun (v : Int32) (u : Int32 × Int32 × Int32 × Int32 × Int32 × (Nat → Int32) × gR × gR × (Nat → Int32) × (Nat → Int32) × (Nat → Int32)) => f_X6_place rf sz ac sp ou tx nw tr dy kp ik p0 = (v, u)) (fun (u : Int32 × Int32 × Int32 × Int32 × Int32 × (Nat → Int32) × gR × gR × (Nat → Int32) × (Nat → Int32) × (Nat → Int32)) t => va_P D vwCl [(a0, .inr (5, [.int u.1, .ref a1, .int u.2.1, .ref a2, .ref a3, .ref a4, .int u.2.2.1, .ref a5, .ref a6, .int u.2.2.2.1, .int u.2.2.2.2.1])), (a1, .inl (y 0, 120, .inl u.2.2.2.2.2.1)), (a2, .inl (y 0, 78, .inl u.2.2.2.2.2.2.1)), (a3, .inl (y 0, 78, .inl u.2.2.2.2.2.2.2.1)), (a4, .inl (y 0, 1092, .inl u.2.2.2.2.2.2.2.2.1)), (a5, .inl (y 0, 156, .inl u.2.2.2.2.2.2.2.2.2.1)), (a6, .inl (y 2, 2, .inl u.2.2.2.2.2.2.2.2.2.2))] t.heap ∧ va_D (va_A [(a0, .inr (5, [.int rf, .ref a1, .int sz, .ref a2, .ref a3, .ref a4, .int ac, .ref a5, .ref a6, .int sp, .int ou])), (a1, .inl (y 0, 120, .inl tx)), (a2, .inl (y 0, 78, .inl nw)), (a3, .inl (y 0, 78, .inl tr)), (a4, .inl (y 0, 1092, .inl dy)), (a5, .inl (y 0, 156, .inl kp)), (a6, .inl (y 2, 2, .inl ik))] zh) [(a0, .inr (5, [.int u.1, .ref a1, .int u.2.1, .ref a2, .ref a3, .ref a4, .int u.2.2.1, .ref a5, .ref a6, .int u.2.2.2.1, .int u.2.2.2.2.1])), (a1, .inl (y 0, 120, .inl u.2.2.2.2.2.1)), (a2, .inl (y 0, 78, .inl u.2.2.2.2.2.2.1)), (a3, .inl (y 0, 78, .inl u.2.2.2.2.2.2.2.1)), (a4, .inl (y 0, 1092, .inl u.2.2.2.2.2.2.2.2.1)), (a5, .inl (y 0, 156, .inl u.2.2.2.2.2.2.2.2.2.1)), (a6, .inl (y 2, 2, .inl u.2.2.2.2.2.2.2.2.2.2))]) (va_A [(a0, .inr (5, [.int rf, .ref a1, .int sz, .ref a2, .ref a3, .ref a4, .int ac, .ref a5, .ref a6, .int sp, .int ou])), (a1, .inl (y 0, 120, .inl tx)), (a2, .inl (y 0, 78, .inl nw)), (a3, .inl (y 0, 78, .inl tr)), (a4, .inl (y 0, 1092, .inl dy)), (a5, .inl (y 0, 156, .inl kp)), (a6, .inl (y 2, 2, .inl ik))] zh)) 0 0 (va_A [(a0, .inr (5, [.int rf, .ref a1, .int sz, .ref a2, .ref a3, .ref a4, .int ac, .ref a5, .ref a6, .int sp, .int ou])), (a1, .inl (y 0, 120, .inl tx)), (a2, .inl (y 0, 78, .inl nw)), (a3, .inl (y 0, 78, .inl tr)), (a4, .inl (y 0, 1092, .inl dy)), (a5, .inl (y 0, 156, .inl kp)), (a6, .inl (y 2, 2, .inl ik))] zh) := by
  refine Met.ofW (cc := cX6_place) (maxL := 2) (ret := (some .int)) (by decide) rfl ?_
  intro p e s m args below meth c s₁ B hml hv
  obtain ⟨rfl, hsz, hP, hE, hD⟩ := hv
  have hx := B.exec
  have hb := B.bytes
  have hr := B.returns
  have hts := atoms_spec (ws := wsX6_place) B.pre
  have hown : s.vm.findClass RX6 = some m.cls := findClass_of_methodNamed B.named
  have hlocks := B.notSynchronized
  have w_0 := hts (.fieldLink RX6 13 "GapLinesModel" "now" "[I") (List.mem_cons_of_mem _ (List.mem_append_left _ (List.mem_of_getElem? (i := 0) rfl)))
  have hi6 : ∀ w ∈ u_ws RX6 TX6 11, w ∈ wsX6_place := fun w h => (List.mem_cons_of_mem _ (List.mem_append_right _ h))
  subst hsz
  have hD := hD.self (sz := s.heap.size)
  generalize hAe : va_A [(a0, .inr (5, [.int rf, .ref a1, .int sz, .ref a2, .ref a3, .ref a4, .int ac, .ref a5, .ref a6, .int sp, .int ou])), (a1, .inl (y 0, 120, .inl tx)), (a2, .inl (y 0, 78, .inl nw)), (a3, .inl (y 0, 78, .inl tr)), (a4, .inl (y 0, 1092, .inl dy)), (a5, .inl (y 0, 156, .inl kp)), (a6, .inl (y 2, 2, .inl ik))] s.heap.size = A at hD ⊢
  have hA : ∀ q : Nat, s.heap.size ≤ q → A q := fun q h => by rw [← hAe]; exact Or.inr h
  have hS : va_S A s.heap s.heap [] := va_S.rf
  have hl := lv_entry ([.ref a0, .int p0]) (n := 2) (Nat.le_of_ble_eq_true rfl)
  rw [lg_entry_eq]
  generalize (lg_sl ([.ref a0, .int p0]) ++ List.replicate (2 - (lg_sl ([.ref a0, .int p0])).length) Slot.unset).toArray = ls at hl ⊢
  have hl : lv_has ls 2 [(0, .ref a0), (1, .int p0)] := hl
  have hF := f_X6_place_s rf sz ac sp ou tx nw tr dy kp ik p0
  refine lv_aload_n hx hb dX6_place_0 rfl (lv_at hl 0 rfl) ?_
  refine lv_aload_n hx hb dX6_place_1 rfl (lv_at hl 0 rfl) ?_
  refine va_get (D := D) (ci := 5) (v := .ref a2) (C := RX6) (T := TX6) (N := 11) hx hb hts hi6 hown hE.1 hP 0 rfl rfl 3 (by decide) w_0 (fun _ h9 => h9) rfl dX6_place_2 ?_
  refine lv_iload_n hx hb dX6_place_5 rfl (lv_at hl 1 rfl) ?_
  refine xs_calli (va_runS (As := [.ref a2, .int p0]) (rest := [.ref a0]) ⟨hx, hb, hml, hown, hts⟩ (c_X6_isLine l D y a2 s.heap.size nw p0) (va_cwS 2 hts gX6_place_X6_isLine rfl rfl rfl hd_X6_isLine ⟨Nat.le_of_ble_eq_true rfl, Nat.le_of_ble_eq_true rfl⟩) (gS hE (hP.sub [2] rfl) (hD.sub [2] (by decide) rfl)) rfl rfl hl.1 rfl (lv_room (Nat.le_of_ble_eq_true rfl)) dX6_place_6 ⟨Nat.le_of_ble_eq_true rfl, Nat.le_of_ble_eq_true rfl⟩) (fun v2 h1 => ?_)
  have hF := hF.trans (gLet_e h1)
  refine lv_if_eq (tgt := 16) hx hb dX6_place_9 (by decide) (fun c_3 => ?_) (fun c_3 => ?_)
  · have hF := hF.trans (if_pos c_3)
    refine lv_iconst (v := 1) hx hb dX6_place_16 (by decide) ?_
    refine xw_calli (va_runV (As := [.int 1]) (rest := []) ⟨hx, hb, hml, hown, hts⟩ (c_X6_refused l D y a0 a1 a2 a3 a4 a5 a6 s.heap.size rf sz ac sp ou 1) (cwV 1 hts gX6_place_X6_refused rfl rfl rfl hd_X6_refused ⟨Nat.le_of_ble_eq_true rfl, Nat.le_of_ble_eq_true rfl⟩) (gV (q := (RX6, TX6, 11)) hE (hP.sub [0] rfl) (hD.sub [0] (by decide) rfl) 0 rfl rfl) rfl rfl hl.1 rfl (lv_room (Nat.le_of_ble_eq_true rfl)) dX6_place_17 ⟨Nat.le_of_ble_eq_true rfl, Nat.le_of_ble_eq_true rfl⟩) hP hD hS hA [0] rfl (by decide) (fun _ => rfl) (fun v6 u5 H locs h4 hP hD hS => ?_)
    have h4 := (rfd1 rf sz ac sp ou).symm.trans h4
    obtain ⟨rfl, rfl⟩ := Prod.mk.inj h4
    have hP : va_P D vwCl [(a0, .inr (5, [.int 1, .ref a1, .int sz, .ref a2, .ref a3, .ref a4, .int ac, .ref a5, .ref a6, .int sp, .int ou])), (a1, .inl (y 0, 120, .inl tx)), (a2, .inl (y 0, 78, .inl nw)), (a3, .inl (y 0, 78, .inl tr)), (a4, .inl (y 0, 1092, .inl dy)), (a5, .inl (y 0, 156, .inl kp)), (a6, .inl (y 2, 2, .inl ik))] H := hP
    have hD : va_D A [(a0, .inr (5, [.int 1, .ref a1, .int sz, .ref a2, .ref a3, .ref a4, .int ac, .ref a5, .ref a6, .int sp, .int ou])), (a1, .inl (y 0, 120, .inl tx)), (a2, .inl (y 0, 78, .inl nw)), (a3, .inl (y 0, 78, .inl tr)), (a4, .inl (y 0, 1092, .inl dy)), (a5, .inl (y 0, 156, .inl kp)), (a6, .inl (y 2, 2, .inl ik))] := hD
    refine lv_if_eq (tgt := 25) hx hb dX6_place_20 (by decide) (fun c_7 => absurd c_7 (by decide)) (fun c_7 => ?_)
    refine lv_iconst (v := 0) hx hb dX6_place_23 (by decide) ?_
    exact W.iret (v := 0) hx hb hr (fun t ht hW => ⟨⟨0, ⟨1, sz, ac, sp, ou, tx, nw, tr, dy, kp, ik⟩, rfl, hF, ⟨by rw [ht]; exact hP, hD⟩⟩, hS.F ht⟩) hS.2.2 dX6_place_24
  · have hF := hF.trans (if_neg c_3)
    refine lv_iconst (v := 0) hx hb dX6_place_12 (by decide) ?_
    refine lv_goto (tgt := 17) hx hb dX6_place_13 (by decide) ?_
    refine xw_calli (va_runV (As := [.int 0]) (rest := []) ⟨hx, hb, hml, hown, hts⟩ (c_X6_refused l D y a0 a1 a2 a3 a4 a5 a6 s.heap.size rf sz ac sp ou 0) (cwV 1 hts gX6_place_X6_refused rfl rfl rfl hd_X6_refused ⟨Nat.le_of_ble_eq_true rfl, Nat.le_of_ble_eq_true rfl⟩) (gV (q := (RX6, TX6, 11)) hE (hP.sub [0] rfl) (hD.sub [0] (by decide) rfl) 0 rfl rfl) rfl rfl hl.1 rfl (lv_room (Nat.le_of_ble_eq_true rfl)) dX6_place_17 ⟨Nat.le_of_ble_eq_true rfl, Nat.le_of_ble_eq_true rfl⟩) hP hD hS hA [0] rfl (by decide) (fun _ => rfl) (fun v10 u9 H locs h8 hP hD hS => ?_)
    have h8 := (rfd0 rf sz ac sp ou).symm.trans h8
    obtain ⟨rfl, rfl⟩ := Prod.mk.inj h8
    have hP : va_P D vwCl [(a0, .inr (5, [.int 0, .ref a1, .int sz, .ref a2, .ref a3, .ref a4, .int ac, .ref a5, .ref a6, .int sp, .int ou])), (a1, .inl (y 0, 120, .inl tx)), (a2, .inl (y 0, 78, .inl nw)), (a3, .inl (y 0, 78, .inl tr)), (a4, .inl (y 0, 1092, .inl dy)), (a5, .inl (y 0, 156, .inl kp)), (a6, .inl (y 2, 2, .inl ik))] H := hP
    have hD : va_D A [(a0, .inr (5, [.int 0, .ref a1, .int sz, .ref a2, .ref a3, .ref a4, .int ac, .ref a5, .ref a6, .int sp, .int ou])), (a1, .inl (y 0, 120, .inl tx)), (a2, .inl (y 0, 78, .inl nw)), (a3, .inl (y 0, 78, .inl tr)), (a4, .inl (y 0, 1092, .inl dy)), (a5, .inl (y 0, 156, .inl kp)), (a6, .inl (y 2, 2, .inl ik))] := hD
    refine lv_if_eq (tgt := 25) hx hb dX6_place_20 (by decide) (fun c_11 => ?_) (fun c_11 => absurd (by decide) c_11)
    refine lv_aload_n hx hb dX6_place_25 rfl (lv_at hl 0 rfl) ?_
    refine va_get (D := D) (ci := 5) (v := .ref a2) (C := RX6) (T := TX6) (N := 11) hx hb hts hi6 hown hE.1 hP 0 rfl rfl 3 (by decide) w_0 (fun _ h9 => h9) rfl dX6_place_26 ?_
    refine lv_iload_n hx hb dX6_place_29 rfl (lv_at hl 1 rfl) ?_
    refine xs_calli (va_runS (As := [.ref a2, .int p0]) (rest := []) ⟨hx, hb, hml, hown, hts⟩ (c_X6_placeOf l D y a2 H.size nw p0 (okM_ne (okM_of hm.2.2 (il_okL (r := nw) (l := p0) h1 (by assumption) hm.2.2.1)))) (va_cwS 2 hts gX6_place_X6_placeOf rfl rfl rfl hd_X6_placeOf ⟨Nat.le_of_ble_eq_true rfl, Nat.le_of_ble_eq_true rfl⟩) (gS hE (hP.sub [2] rfl) (hD.sub [2] (by decide) rfl)) rfl rfl hl.1 rfl (lv_room (Nat.le_of_ble_eq_true rfl)) dX6_place_30 ⟨Nat.le_of_ble_eq_true rfl, Nat.le_of_ble_eq_true rfl⟩) (fun v13 h12 => ?_)
    have hF := hF.trans (gLet_e h12)
    exact W.iret (v := v13) hx hb hr (fun t ht hW => ⟨⟨v13, ⟨0, sz, ac, sp, ou, tx, nw, tr, dy, kp, ik⟩, rfl, hF, ⟨by rw [ht]; exact hP, hD⟩⟩, hS.F ht⟩) hS.2.2 dX6_place_33

def f_X6_line_L27 (sz : Int32) (ac : Int32) (sp : Int32) (ou : Int32) (tx : Nat → Int32) (nw : gR) (tr : gR) (dy : Nat → Int32) (kp : Nat → Int32) (ik : Nat → Int32) (p0 : Int32) : Nat → Int32 → Int32 → Int32 × Int32 × Int32 × Int32 × Int32 × Int32 × (Nat → Int32) × gR × gR × (Nat → Int32) × (Nat → Int32) × (Nat → Int32)
  | 0, _, rf_ => (0, rf_, sz, ac, sp, ou, tx, nw, tr, dy, kp, ik)
  | n + 1, x2, rf_ =>
    if (nw 0) ≤ x2 then
    ((-1), rf_, sz, ac, sp, ou, tx, nw, tr, dy, kp, ik)
  else
    gLet (f_X6_placeOf nw x2) (fun (v3 : Int32) =>
      if v3 = p0 then
        (x2, rf_, sz, ac, sp, ou, tx, nw, tr, dy, kp, ik)
      else
        f_X6_line_L27 sz ac sp ou tx nw tr dy kp ik p0 n (x2 + 1) rf_)
theorem f_X6_line_L27_s (sz : Int32) (ac : Int32) (sp : Int32) (ou : Int32) (tx : Nat → Int32) (nw : gR) (tr : gR) (dy : Nat → Int32) (kp : Nat → Int32) (ik : Nat → Int32) (p0 : Int32) (n : Nat) (x2 : Int32) (rf_ : Int32) : f_X6_line_L27 sz ac sp ou tx nw tr dy kp ik p0 (n + 1) x2 rf_ =
    (if (nw 0) ≤ x2 then
    ((-1), rf_, sz, ac, sp, ou, tx, nw, tr, dy, kp, ik)
  else
    gLet (f_X6_placeOf nw x2) (fun (v3 : Int32) =>
      if v3 = p0 then
        (x2, rf_, sz, ac, sp, ou, tx, nw, tr, dy, kp, ik)
      else
        f_X6_line_L27 sz ac sp ou tx nw tr dy kp ik p0 n (x2 + 1) rf_)) := rfl
def f_X6_line (rf : Int32) (sz : Int32) (ac : Int32) (sp : Int32) (ou : Int32) (tx : Nat → Int32) (nw : gR) (tr : gR) (dy : Nat → Int32) (kp : Nat → Int32) (ik : Nat → Int32) (p0 : Int32) : Int32 × Int32 × Int32 × Int32 × Int32 × Int32 × (Nat → Int32) × gR × gR × (Nat → Int32) × (Nat → Int32) × (Nat → Int32) :=
    gLet (f_X6_isPlace nw p0) (fun (v6 : Int32) =>
    if v6 = 0 then
      (0, 1, sz, ac, sp, ou, tx, nw, tr, dy, kp, ik)
    else
      f_X6_line_L27 sz ac sp ou tx nw tr dy kp ik p0 (((nw 0).toInt - (0 : Int32).toInt).toNat + 1) 0 0)
theorem f_X6_line_s (rf : Int32) (sz : Int32) (ac : Int32) (sp : Int32) (ou : Int32) (tx : Nat → Int32) (nw : gR) (tr : gR) (dy : Nat → Int32) (kp : Nat → Int32) (ik : Nat → Int32) (p0 : Int32) : f_X6_line rf sz ac sp ou tx nw tr dy kp ik p0 =
    (gLet (f_X6_isPlace nw p0) (fun (v6 : Int32) =>
    if v6 = 0 then
      (0, 1, sz, ac, sp, ou, tx, nw, tr, dy, kp, ik)
    else
      f_X6_line_L27 sz ac sp ou tx nw tr dy kp ik p0 (((nw 0).toInt - (0 : Int32).toInt).toNat + 1) 0 0)) := rfl
theorem hd_X6_line : yX6_line.cls = RX6 ∧ yX6_line.cls ≠ "java/lang/invoke/MethodHandle" ∧ yX6_line.cls ≠ "java/lang/invoke/VarHandle" ∧ (parseMethodDescriptor yX6_line.desc).map (fun d => d.parameters.length) = some 1 := by decide +kernel
set_option maxHeartbeats 4000000 in
set_option maxRecDepth 100000 in
theorem c_X6_line (l : Launch) (D : va_G) (y : Nat → ClassId) (a0 a1 a2 a3 a4 a5 a6 : Nat) (zh : Nat) (rf : Int32) (sz : Int32) (ac : Int32) (sp : Int32) (ou : Int32) (tx : Nat → Int32) (nw : gR) (tr : gR) (dy : Nat → Int32) (kp : Nat → Int32) (ik : Nat → Int32) (p0 : Int32) (hm : okMd sz ac nw) : Met l yX6_line wsX6_line ({ frames := 2, cells := 0, slots := 0, locals := 46 }) (gP D y [.ref a0, .int p0] zh [(a0, .inr (5, [.int rf, .ref a1, .int sz, .ref a2, .ref a3, .ref a4, .int ac, .ref a5, .ref a6, .int sp, .int ou])), (a1, .inl (y 0, 120, .inl tx)), (a2, .inl (y 0, 78, .inl nw)), (a3, .inl (y 0, 78, .inl tr)), (a4, .inl (y 0, 1092, .inl dy)), (a5, .inl (y 0, 156, .inl kp)), (a6, .inl (y 2, 2, .inl ik))]) (va_Qi (fun (v : Int32) (u : Int32 × Int32 × Int32 × Int32 × Int32 × (Nat → Int32) × gR × gR × (Nat → Int32) × (Nat → Int32) × (Nat → Int32)) => f_X6_line rf sz ac sp ou tx nw tr dy kp ik p0 = (v, u)) (fun (u : Int32 × Int32 × Int32 × Int32 × Int32 × (Nat → Int32) × gR × gR × (Nat → Int32) × (Nat → Int32) × (Nat → Int32)) t => va_P D vwCl [(a0, .inr (5, [.int u.1, .ref a1, .int u.2.1, .ref a2, .ref a3, .ref a4, .int u.2.2.1, .ref a5, .ref a6, .int u.2.2.2.1, .int u.2.2.2.2.1])), (a1, .inl (y 0, 120, .inl u.2.2.2.2.2.1)), (a2, .inl (y 0, 78, .inl u.2.2.2.2.2.2.1)), (a3, .inl (y 0, 78, .inl u.2.2.2.2.2.2.2.1)), (a4, .inl (y 0, 1092, .inl u.2.2.2.2.2.2.2.2.1)), (a5, .inl (y 0, 156, .inl u.2.2.2.2.2.2.2.2.2.1)), (a6, .inl (y 2, 2, .inl u.2.2.2.2.2.2.2.2.2.2))] t.heap ∧ va_D (va_A [(a0, .inr (5, [.int rf, .ref a1, .int sz, .ref a2, .ref a3, .ref a4, .int ac, .ref a5, .ref a6, .int sp, .int ou])), (a1, .inl (y 0, 120, .inl tx)), (a2, .inl (y 0, 78, .inl nw)), (a3, .inl (y 0, 78, .inl tr)), (a4, .inl (y 0, 1092, .inl dy)), (a5, .inl (y 0, 156, .inl kp)), (a6, .inl (y 2, 2, .inl ik))] zh) [(a0, .inr (5, [.int u.1, .ref a1, .int u.2.1, .ref a2, .ref a3, .ref a4, .int u.2.2.1, .ref a5, .ref a6, .int u.2.2.2.1, .int u.2.2.2.2.1])), (a1, .inl (y 0, 120, .inl u.2.2.2.2.2.1)), (a2, .inl (y 0, 78, .inl u.2.2.2.2.2.2.1)), (a3, .inl (y 0, 78, .inl u.2.2.2.2.2.2.2.1)), (a4, .inl (y 0, 1092, .inl u.2.2.2.2.2.2.2.2.1)), (a5, .inl (y 0, 156, .inl u.2.2.2.2.2.2.2.2.2.1)), (a6, .inl (y 2, 2, .inl u.2.2.2.2.2.2.2.2.2.2))]) (va_A [(a0, .inr (5, [.int rf, .ref a1, .int sz, .ref a2, .ref a3, .ref a4, .int ac, .ref a5, .ref a6, .int sp, .int ou])), (a1, .inl (y 0, 120, .inl tx)), (a2, .inl (y 0, 78, .inl nw)), (a3, .inl (y 0, 78, .inl tr)), (a4, .inl (y 0, 1092, .inl dy)), (a5, .inl (y 0, 156, .inl kp)), (a6, .inl (y 2, 2, .inl ik))] zh)) 0 0 (va_A [(a0, .inr (5, [.int rf, .ref a1, .int sz, .ref a2, .ref a3, .ref a4, .int ac, .ref a5, .ref a6, .int sp, .int ou])), (a1, .inl (y 0, 120, .inl tx)), (a2, .inl (y 0, 78, .inl nw)), (a3, .inl (y 0, 78, .inl tr)), (a4, .inl (y 0, 1092, .inl dy)), (a5, .inl (y 0, 156, .inl kp)), (a6, .inl (y 2, 2, .inl ik))] zh) := by
  refine Met.ofW (cc := cX6_line) (maxL := 3) (ret := (some .int)) (by decide) rfl ?_
  intro p e s m args below meth c s₁ B hml hv
  obtain ⟨rfl, hsz, hP, hE, hD⟩ := hv
  have hx := B.exec
  have hb := B.bytes
  have hr := B.returns
  have hts := atoms_spec (ws := wsX6_line) B.pre
  have hown : s.vm.findClass RX6 = some m.cls := findClass_of_methodNamed B.named
  have hlocks := B.notSynchronized
  have w_0 := hts (.fieldLink RX6 13 "GapLinesModel" "now" "[I") (List.mem_cons_of_mem _ (List.mem_append_left _ (List.mem_of_getElem? (i := 0) rfl)))
  have hi6 : ∀ w ∈ u_ws RX6 TX6 11, w ∈ wsX6_line := fun w h => (List.mem_cons_of_mem _ (List.mem_append_right _ h))
  subst hsz
  have hD := hD.self (sz := s.heap.size)
  generalize hAe : va_A [(a0, .inr (5, [.int rf, .ref a1, .int sz, .ref a2, .ref a3, .ref a4, .int ac, .ref a5, .ref a6, .int sp, .int ou])), (a1, .inl (y 0, 120, .inl tx)), (a2, .inl (y 0, 78, .inl nw)), (a3, .inl (y 0, 78, .inl tr)), (a4, .inl (y 0, 1092, .inl dy)), (a5, .inl (y 0, 156, .inl kp)), (a6, .inl (y 2, 2, .inl ik))] s.heap.size = A at hD ⊢
  have hA : ∀ q : Nat, s.heap.size ≤ q → A q := fun q h => by rw [← hAe]; exact Or.inr h
  have hS : va_S A s.heap s.heap [] := va_S.rf
  have hl := lv_entry ([.ref a0, .int p0]) (n := 3) (Nat.le_of_ble_eq_true rfl)
  rw [lg_entry_eq]
  generalize (lg_sl ([.ref a0, .int p0]) ++ List.replicate (3 - (lg_sl ([.ref a0, .int p0])).length) Slot.unset).toArray = ls at hl ⊢
  have hl : lv_has ls 3 [(0, .ref a0), (1, .int p0)] := hl
  have loop_27 : ∀ (n : Nat) (x2 : Int32) (rf_ : Int32) (hn0 : ¬ nw 0 = 0), ((nw 0).toInt - x2.toInt).toNat < n → f_X6_line rf sz ac sp ou tx nw tr dy kp ik p0 = f_X6_line_L27 sz ac sp ou tx nw tr dy kp ik p0 n x2 rf_ → ∀ (H : Heap) (locs : List Loc), va_P D vwCl [(a0, .inr (5, [.int rf_, .ref a1, .int sz, .ref a2, .ref a3, .ref a4, .int ac, .ref a5, .ref a6, .int sp, .int ou])), (a1, .inl (y 0, 120, .inl tx)), (a2, .inl (y 0, 78, .inl nw)), (a3, .inl (y 0, 78, .inl tr)), (a4, .inl (y 0, 1092, .inl dy)), (a5, .inl (y 0, 156, .inl kp)), (a6, .inl (y 2, 2, .inl ik))] H → va_D A [(a0, .inr (5, [.int rf_, .ref a1, .int sz, .ref a2, .ref a3, .ref a4, .int ac, .ref a5, .ref a6, .int sp, .int ou])), (a1, .inl (y 0, 120, .inl tx)), (a2, .inl (y 0, 78, .inl nw)), (a3, .inl (y 0, 78, .inl tr)), (a4, .inl (y 0, 1092, .inl dy)), (a5, .inl (y 0, 156, .inl kp)), (a6, .inl (y 2, 2, .inl ik))] → va_S A s.heap H locs → ∀ (ls : Array Slot), lv_has ls 3 [(0, .ref a0), (1, .int p0), (2, .int x2)] → W p l e (headSpec wsX6_line ({ frames := 2, cells := 0, slots := 0, locals := 46 })).room s m ([.ref a0, .int p0] : List Value).toArray below meth c H locs 0 0 (MQ below (va_Qi (fun (v : Int32) (u : Int32 × Int32 × Int32 × Int32 × Int32 × (Nat → Int32) × gR × gR × (Nat → Int32) × (Nat → Int32) × (Nat → Int32)) => f_X6_line rf sz ac sp ou tx nw tr dy kp ik p0 = (v, u)) (fun (u : Int32 × Int32 × Int32 × Int32 × Int32 × (Nat → Int32) × gR × gR × (Nat → Int32) × (Nat → Int32) × (Nat → Int32)) t => va_P D vwCl [(a0, .inr (5, [.int u.1, .ref a1, .int u.2.1, .ref a2, .ref a3, .ref a4, .int u.2.2.1, .ref a5, .ref a6, .int u.2.2.2.1, .int u.2.2.2.2.1])), (a1, .inl (y 0, 120, .inl u.2.2.2.2.2.1)), (a2, .inl (y 0, 78, .inl u.2.2.2.2.2.2.1)), (a3, .inl (y 0, 78, .inl u.2.2.2.2.2.2.2.1)), (a4, .inl (y 0, 1092, .inl u.2.2.2.2.2.2.2.2.1)), (a5, .inl (y 0, 156, .inl u.2.2.2.2.2.2.2.2.2.1)), (a6, .inl (y 2, 2, .inl u.2.2.2.2.2.2.2.2.2.2))] t.heap ∧ va_D (A) [(a0, .inr (5, [.int u.1, .ref a1, .int u.2.1, .ref a2, .ref a3, .ref a4, .int u.2.2.1, .ref a5, .ref a6, .int u.2.2.2.1, .int u.2.2.2.2.1])), (a1, .inl (y 0, 120, .inl u.2.2.2.2.2.1)), (a2, .inl (y 0, 78, .inl u.2.2.2.2.2.2.1)), (a3, .inl (y 0, 78, .inl u.2.2.2.2.2.2.2.1)), (a4, .inl (y 0, 1092, .inl u.2.2.2.2.2.2.2.2.1)), (a5, .inl (y 0, 156, .inl u.2.2.2.2.2.2.2.2.2.1)), (a6, .inl (y 2, 2, .inl u.2.2.2.2.2.2.2.2.2.2))]) A) ([.ref a0, .int p0] : List Value).toArray s 0 0 A) (F0 m 27 ls []) := by
    intro n
    induction n with
    | zero =>
      intro x2 rf_ hn0 hμ
      exact absurd hμ (Nat.not_lt_zero _)
    | succ n ih =>
      intro x2 rf_ hn0 hμ hF H locs hP hD hS ls hl
      have hF := hF.trans (f_X6_line_L27_s sz ac sp ou tx nw tr dy kp ik p0 n x2 rf_)
      refine lv_iload_n hx hb dX6_line_27 rfl (lv_at hl 2 rfl) ?_
      refine lv_aload_n hx hb dX6_line_28 rfl (lv_at hl 0 rfl) ?_
      refine va_get (D := D) (ci := 5) (v := .ref a2) (C := RX6) (T := TX6) (N := 11) hx hb hts hi6 hown hE.1 hP 0 rfl rfl 3 (by decide) w_0 (fun _ h9 => h9) rfl dX6_line_29 ?_
      refine lv_iconst (v := 0) hx hb dX6_line_32 (by decide) ?_
      refine xa_iald (k := 0) (v := nw 0) hx hb hE.1 hP 2 0 rfl rfl (xin (by decide)) rfl rfl dX6_line_33 ?_
      refine lv_icmp_ge (tgt := 57) hx hb dX6_line_34 (by decide) (fun c_1 => ?_) (fun c_1 => ?_)
      · have hF := hF.trans (if_pos c_1)
        refine lv_iconst (v := (-1)) hx hb dX6_line_57 (by decide) ?_
        exact W.iret (v := (-1)) hx hb hr (fun t ht hW => ⟨⟨(-1), ⟨rf_, sz, ac, sp, ou, tx, nw, tr, dy, kp, ik⟩, rfl, hF, ⟨by rw [ht]; exact hP, hD⟩⟩, hS.F ht⟩) hS.2.2 dX6_line_58
      · have hF := hF.trans (if_neg c_1)
        refine lv_aload_n hx hb dX6_line_37 rfl (lv_at hl 0 rfl) ?_
        refine va_get (D := D) (ci := 5) (v := .ref a2) (C := RX6) (T := TX6) (N := 11) hx hb hts hi6 hown hE.1 hP 0 rfl rfl 3 (by decide) w_0 (fun _ h9 => h9) rfl dX6_line_38 ?_
        refine lv_iload_n hx hb dX6_line_41 rfl (lv_at hl 2 rfl) ?_
        refine xs_calli (va_runS (As := [.ref a2, .int x2]) (rest := []) ⟨hx, hb, hml, hown, hts⟩ (c_X6_placeOf l D y a2 H.size nw x2 hn0) (va_cwS 2 hts gX6_line_X6_placeOf rfl rfl rfl hd_X6_placeOf ⟨Nat.le_of_ble_eq_true rfl, Nat.le_of_ble_eq_true rfl⟩) (gS hE (hP.sub [2] rfl) (hD.sub [2] (by decide) rfl)) rfl rfl hl.1 rfl (lv_room (Nat.le_of_ble_eq_true rfl)) dX6_line_42 ⟨Nat.le_of_ble_eq_true rfl, Nat.le_of_ble_eq_true rfl⟩) (fun v3 h2 => ?_)
        have hF := hF.trans (gLet_e h2)
        refine lv_iload_n hx hb dX6_line_45 rfl (lv_at hl 1 rfl) ?_
        refine lv_icmp_ne (tgt := 51) hx hb dX6_line_46 (by decide) (fun c_4 => ?_) (fun c_4 => ?_)
        · have hF := hF.trans (if_neg c_4)
          refine lv_iinc (v := (x2 + 1)) (lv' := [(2, .int (x2 + 1)), (0, .ref a0), (1, .int p0)]) hx hb dX6_line_51 hl (k := 2) rfl rfl (by decide) rfl (fun ls hl => ?_)
          refine lv_goto (tgt := 27) hx hb dX6_line_54 (by decide) ?_
          exact ih (x2 + 1) rf_ (hn0) (lp_up (by assumption) hμ) hF _ _ hP hD hS ls (lv_sub hl [1, 2, 0] rfl)
        · have hF := hF.trans (if_pos c_4)
          refine lv_iload_n hx hb dX6_line_49 rfl (lv_at hl 2 rfl) ?_
          exact W.iret (v := x2) hx hb hr (fun t ht hW => ⟨⟨x2, ⟨rf_, sz, ac, sp, ou, tx, nw, tr, dy, kp, ik⟩, rfl, hF, ⟨by rw [ht]; exact hP, hD⟩⟩, hS.F ht⟩) hS.2.2 dX6_line_50
  have hF := f_X6_line_s rf sz ac sp ou tx nw tr dy kp ik p0
  refine lv_aload_n hx hb dX6_line_0 rfl (lv_at hl 0 rfl) ?_
  refine lv_aload_n hx hb dX6_line_1 rfl (lv_at hl 0 rfl) ?_
  refine va_get (D := D) (ci := 5) (v := .ref a2) (C := RX6) (T := TX6) (N := 11) hx hb hts hi6 hown hE.1 hP 0 rfl rfl 3 (by decide) w_0 (fun _ h9 => h9) rfl dX6_line_2 ?_
  refine lv_iload_n hx hb dX6_line_5 rfl (lv_at hl 1 rfl) ?_
  refine xs_calli (va_runS (As := [.ref a2, .int p0]) (rest := [.ref a0]) ⟨hx, hb, hml, hown, hts⟩ (c_X6_isPlace l D y a2 s.heap.size nw p0) (va_cwS 2 hts gX6_line_X6_isPlace rfl rfl rfl hd_X6_isPlace ⟨Nat.le_of_ble_eq_true rfl, Nat.le_of_ble_eq_true rfl⟩) (gS hE (hP.sub [2] rfl) (hD.sub [2] (by decide) rfl)) rfl rfl hl.1 rfl (lv_room (Nat.le_of_ble_eq_true rfl)) dX6_line_6 ⟨Nat.le_of_ble_eq_true rfl, Nat.le_of_ble_eq_true rfl⟩) (fun v6 h5 => ?_)
  have hF := hF.trans (gLet_e h5)
  refine lv_if_eq (tgt := 16) hx hb dX6_line_9 (by decide) (fun c_7 => ?_) (fun c_7 => ?_)
  · have hF := hF.trans (if_pos c_7)
    refine lv_iconst (v := 1) hx hb dX6_line_16 (by decide) ?_
    refine xw_calli (va_runV (As := [.int 1]) (rest := []) ⟨hx, hb, hml, hown, hts⟩ (c_X6_refused l D y a0 a1 a2 a3 a4 a5 a6 s.heap.size rf sz ac sp ou 1) (cwV 1 hts gX6_line_X6_refused rfl rfl rfl hd_X6_refused ⟨Nat.le_of_ble_eq_true rfl, Nat.le_of_ble_eq_true rfl⟩) (gV (q := (RX6, TX6, 11)) hE (hP.sub [0] rfl) (hD.sub [0] (by decide) rfl) 0 rfl rfl) rfl rfl hl.1 rfl (lv_room (Nat.le_of_ble_eq_true rfl)) dX6_line_17 ⟨Nat.le_of_ble_eq_true rfl, Nat.le_of_ble_eq_true rfl⟩) hP hD hS hA [0] rfl (by decide) (fun _ => rfl) (fun v10 u9 H locs h8 hP hD hS => ?_)
    have h8 := (rfd1 rf sz ac sp ou).symm.trans h8
    obtain ⟨rfl, rfl⟩ := Prod.mk.inj h8
    have hP : va_P D vwCl [(a0, .inr (5, [.int 1, .ref a1, .int sz, .ref a2, .ref a3, .ref a4, .int ac, .ref a5, .ref a6, .int sp, .int ou])), (a1, .inl (y 0, 120, .inl tx)), (a2, .inl (y 0, 78, .inl nw)), (a3, .inl (y 0, 78, .inl tr)), (a4, .inl (y 0, 1092, .inl dy)), (a5, .inl (y 0, 156, .inl kp)), (a6, .inl (y 2, 2, .inl ik))] H := hP
    have hD : va_D A [(a0, .inr (5, [.int 1, .ref a1, .int sz, .ref a2, .ref a3, .ref a4, .int ac, .ref a5, .ref a6, .int sp, .int ou])), (a1, .inl (y 0, 120, .inl tx)), (a2, .inl (y 0, 78, .inl nw)), (a3, .inl (y 0, 78, .inl tr)), (a4, .inl (y 0, 1092, .inl dy)), (a5, .inl (y 0, 156, .inl kp)), (a6, .inl (y 2, 2, .inl ik))] := hD
    refine lv_if_eq (tgt := 25) hx hb dX6_line_20 (by decide) (fun c_11 => absurd c_11 (by decide)) (fun c_11 => ?_)
    refine lv_iconst (v := 0) hx hb dX6_line_23 (by decide) ?_
    exact W.iret (v := 0) hx hb hr (fun t ht hW => ⟨⟨0, ⟨1, sz, ac, sp, ou, tx, nw, tr, dy, kp, ik⟩, rfl, hF, ⟨by rw [ht]; exact hP, hD⟩⟩, hS.F ht⟩) hS.2.2 dX6_line_24
  · have hF := hF.trans (if_neg c_7)
    refine lv_iconst (v := 0) hx hb dX6_line_12 (by decide) ?_
    refine lv_goto (tgt := 17) hx hb dX6_line_13 (by decide) ?_
    refine xw_calli (va_runV (As := [.int 0]) (rest := []) ⟨hx, hb, hml, hown, hts⟩ (c_X6_refused l D y a0 a1 a2 a3 a4 a5 a6 s.heap.size rf sz ac sp ou 0) (cwV 1 hts gX6_line_X6_refused rfl rfl rfl hd_X6_refused ⟨Nat.le_of_ble_eq_true rfl, Nat.le_of_ble_eq_true rfl⟩) (gV (q := (RX6, TX6, 11)) hE (hP.sub [0] rfl) (hD.sub [0] (by decide) rfl) 0 rfl rfl) rfl rfl hl.1 rfl (lv_room (Nat.le_of_ble_eq_true rfl)) dX6_line_17 ⟨Nat.le_of_ble_eq_true rfl, Nat.le_of_ble_eq_true rfl⟩) hP hD hS hA [0] rfl (by decide) (fun _ => rfl) (fun v14 u13 H locs h12 hP hD hS => ?_)
    have h12 := (rfd0 rf sz ac sp ou).symm.trans h12
    obtain ⟨rfl, rfl⟩ := Prod.mk.inj h12
    have hP : va_P D vwCl [(a0, .inr (5, [.int 0, .ref a1, .int sz, .ref a2, .ref a3, .ref a4, .int ac, .ref a5, .ref a6, .int sp, .int ou])), (a1, .inl (y 0, 120, .inl tx)), (a2, .inl (y 0, 78, .inl nw)), (a3, .inl (y 0, 78, .inl tr)), (a4, .inl (y 0, 1092, .inl dy)), (a5, .inl (y 0, 156, .inl kp)), (a6, .inl (y 2, 2, .inl ik))] H := hP
    have hD : va_D A [(a0, .inr (5, [.int 0, .ref a1, .int sz, .ref a2, .ref a3, .ref a4, .int ac, .ref a5, .ref a6, .int sp, .int ou])), (a1, .inl (y 0, 120, .inl tx)), (a2, .inl (y 0, 78, .inl nw)), (a3, .inl (y 0, 78, .inl tr)), (a4, .inl (y 0, 1092, .inl dy)), (a5, .inl (y 0, 156, .inl kp)), (a6, .inl (y 2, 2, .inl ik))] := hD
    refine lv_if_eq (tgt := 25) hx hb dX6_line_20 (by decide) (fun c_15 => ?_) (fun c_15 => absurd (by decide) c_15)
    refine lv_iconst (v := 0) hx hb dX6_line_25 (by decide) ?_
    refine lv_istore_n (lv' := [(2, .int 0), (0, .ref a0), (1, .int p0)]) hx hb dX6_line_26 rfl hl (by decide) rfl (fun ls hl => ?_)
    exact loop_27 _ 0 0 ((ip_ne h5 (by assumption))) (Nat.lt_succ_self _) hF _ _ hP hD hS ls (lv_sub hl [1, 2, 0] rfl)

def f_X6_wear (rf : Int32) (sz : Int32) (ac : Int32) (sp : Int32) (ou : Int32) (tx : Nat → Int32) (nw : gR) (tr : gR) (dy : Nat → Int32) (kp : Nat → Int32) (ik : Nat → Int32) (p0 : Int32) : Int32 × Int32 × Int32 × Int32 × Int32 × Int32 × (Nat → Int32) × gR × gR × (Nat → Int32) × (Nat → Int32) × (Nat → Int32) :=
    gLet (f_X6_isPlace nw p0) (fun (v2 : Int32) =>
    if v2 = 0 then
      (0, 1, sz, ac, sp, ou, tx, nw, tr, dy, kp, ik)
    else
      ((nw ((45 + p0).toNatClampNeg)), 0, sz, ac, sp, ou, tx, nw, tr, dy, kp, ik))
theorem f_X6_wear_s (rf : Int32) (sz : Int32) (ac : Int32) (sp : Int32) (ou : Int32) (tx : Nat → Int32) (nw : gR) (tr : gR) (dy : Nat → Int32) (kp : Nat → Int32) (ik : Nat → Int32) (p0 : Int32) : f_X6_wear rf sz ac sp ou tx nw tr dy kp ik p0 =
    (gLet (f_X6_isPlace nw p0) (fun (v2 : Int32) =>
    if v2 = 0 then
      (0, 1, sz, ac, sp, ou, tx, nw, tr, dy, kp, ik)
    else
      ((nw ((45 + p0).toNatClampNeg)), 0, sz, ac, sp, ou, tx, nw, tr, dy, kp, ik))) := rfl
theorem hd_X6_wear : yX6_wear.cls = RX6 ∧ yX6_wear.cls ≠ "java/lang/invoke/MethodHandle" ∧ yX6_wear.cls ≠ "java/lang/invoke/VarHandle" ∧ (parseMethodDescriptor yX6_wear.desc).map (fun d => d.parameters.length) = some 1 := by decide +kernel
set_option maxHeartbeats 4000000 in
set_option maxRecDepth 100000 in
theorem c_X6_wear (l : Launch) (D : va_G) (y : Nat → ClassId) (a0 a1 a2 a3 a4 a5 a6 : Nat) (zh : Nat) (rf : Int32) (sz : Int32) (ac : Int32) (sp : Int32) (ou : Int32) (tx : Nat → Int32) (nw : gR) (tr : gR) (dy : Nat → Int32) (kp : Nat → Int32) (ik : Nat → Int32) (p0 : Int32) (hm : okMd sz ac nw) : Met l yX6_wear wsX6_wear ({ frames := 2, cells := 0, slots := 0, locals := 46 }) (gP D y [.ref a0, .int p0] zh [(a0, .inr (5, [.int rf, .ref a1, .int sz, .ref a2, .ref a3, .ref a4, .int ac, .ref a5, .ref a6, .int sp, .int ou])), (a1, .inl (y 0, 120, .inl tx)), (a2, .inl (y 0, 78, .inl nw)), (a3, .inl (y 0, 78, .inl tr)), (a4, .inl (y 0, 1092, .inl dy)), (a5, .inl (y 0, 156, .inl kp)), (a6, .inl (y 2, 2, .inl ik))]) (va_Qi (fun (v : Int32) (u : Int32 × Int32 × Int32 × Int32 × Int32 × (Nat → Int32) × gR × gR × (Nat → Int32) × (Nat → Int32) × (Nat → Int32)) => f_X6_wear rf sz ac sp ou tx nw tr dy kp ik p0 = (v, u)) (fun (u : Int32 × Int32 × Int32 × Int32 × Int32 × (Nat → Int32) × gR × gR × (Nat → Int32) × (Nat → Int32) × (Nat → Int32)) t => va_P D vwCl [(a0, .inr (5, [.int u.1, .ref a1, .int u.2.1, .ref a2, .ref a3, .ref a4, .int u.2.2.1, .ref a5, .ref a6, .int u.2.2.2.1, .int u.2.2.2.2.1])), (a1, .inl (y 0, 120, .inl u.2.2.2.2.2.1)), (a2, .inl (y 0, 78, .inl u.2.2.2.2.2.2.1)), (a3, .inl (y 0, 78, .inl u.2.2.2.2.2.2.2.1)), (a4, .inl (y 0, 1092, .inl u.2.2.2.2.2.2.2.2.1)), (a5, .inl (y 0, 156, .inl u.2.2.2.2.2.2.2.2.2.1)), (a6, .inl (y 2, 2, .inl u.2.2.2.2.2.2.2.2.2.2))] t.heap ∧ va_D (va_A [(a0, .inr (5, [.int rf, .ref a1, .int sz, .ref a2, .ref a3, .ref a4, .int ac, .ref a5, .ref a6, .int sp, .int ou])), (a1, .inl (y 0, 120, .inl tx)), (a2, .inl (y 0, 78, .inl nw)), (a3, .inl (y 0, 78, .inl tr)), (a4, .inl (y 0, 1092, .inl dy)), (a5, .inl (y 0, 156, .inl kp)), (a6, .inl (y 2, 2, .inl ik))] zh) [(a0, .inr (5, [.int u.1, .ref a1, .int u.2.1, .ref a2, .ref a3, .ref a4, .int u.2.2.1, .ref a5, .ref a6, .int u.2.2.2.1, .int u.2.2.2.2.1])), (a1, .inl (y 0, 120, .inl u.2.2.2.2.2.1)), (a2, .inl (y 0, 78, .inl u.2.2.2.2.2.2.1)), (a3, .inl (y 0, 78, .inl u.2.2.2.2.2.2.2.1)), (a4, .inl (y 0, 1092, .inl u.2.2.2.2.2.2.2.2.1)), (a5, .inl (y 0, 156, .inl u.2.2.2.2.2.2.2.2.2.1)), (a6, .inl (y 2, 2, .inl u.2.2.2.2.2.2.2.2.2.2))]) (va_A [(a0, .inr (5, [.int rf, .ref a1, .int sz, .ref a2, .ref a3, .ref a4, .int ac, .ref a5, .ref a6, .int sp, .int ou])), (a1, .inl (y 0, 120, .inl tx)), (a2, .inl (y 0, 78, .inl nw)), (a3, .inl (y 0, 78, .inl tr)), (a4, .inl (y 0, 1092, .inl dy)), (a5, .inl (y 0, 156, .inl kp)), (a6, .inl (y 2, 2, .inl ik))] zh)) 0 0 (va_A [(a0, .inr (5, [.int rf, .ref a1, .int sz, .ref a2, .ref a3, .ref a4, .int ac, .ref a5, .ref a6, .int sp, .int ou])), (a1, .inl (y 0, 120, .inl tx)), (a2, .inl (y 0, 78, .inl nw)), (a3, .inl (y 0, 78, .inl tr)), (a4, .inl (y 0, 1092, .inl dy)), (a5, .inl (y 0, 156, .inl kp)), (a6, .inl (y 2, 2, .inl ik))] zh) := by
  refine Met.ofW (cc := cX6_wear) (maxL := 2) (ret := (some .int)) (by decide) rfl ?_
  intro p e s m args below meth c s₁ B hml hv
  obtain ⟨rfl, hsz, hP, hE, hD⟩ := hv
  have hx := B.exec
  have hb := B.bytes
  have hr := B.returns
  have hts := atoms_spec (ws := wsX6_wear) B.pre
  have hown : s.vm.findClass RX6 = some m.cls := findClass_of_methodNamed B.named
  have hlocks := B.notSynchronized
  have w_0 := hts (.fieldLink RX6 13 "GapLinesModel" "now" "[I") (List.mem_cons_of_mem _ (List.mem_append_left _ (List.mem_of_getElem? (i := 0) rfl)))
  have hi6 : ∀ w ∈ u_ws RX6 TX6 11, w ∈ wsX6_wear := fun w h => (List.mem_cons_of_mem _ (List.mem_append_right _ h))
  subst hsz
  have hD := hD.self (sz := s.heap.size)
  generalize hAe : va_A [(a0, .inr (5, [.int rf, .ref a1, .int sz, .ref a2, .ref a3, .ref a4, .int ac, .ref a5, .ref a6, .int sp, .int ou])), (a1, .inl (y 0, 120, .inl tx)), (a2, .inl (y 0, 78, .inl nw)), (a3, .inl (y 0, 78, .inl tr)), (a4, .inl (y 0, 1092, .inl dy)), (a5, .inl (y 0, 156, .inl kp)), (a6, .inl (y 2, 2, .inl ik))] s.heap.size = A at hD ⊢
  have hA : ∀ q : Nat, s.heap.size ≤ q → A q := fun q h => by rw [← hAe]; exact Or.inr h
  have hS : va_S A s.heap s.heap [] := va_S.rf
  have hl := lv_entry ([.ref a0, .int p0]) (n := 2) (Nat.le_of_ble_eq_true rfl)
  rw [lg_entry_eq]
  generalize (lg_sl ([.ref a0, .int p0]) ++ List.replicate (2 - (lg_sl ([.ref a0, .int p0])).length) Slot.unset).toArray = ls at hl ⊢
  have hl : lv_has ls 2 [(0, .ref a0), (1, .int p0)] := hl
  have hF := f_X6_wear_s rf sz ac sp ou tx nw tr dy kp ik p0
  refine lv_aload_n hx hb dX6_wear_0 rfl (lv_at hl 0 rfl) ?_
  refine lv_aload_n hx hb dX6_wear_1 rfl (lv_at hl 0 rfl) ?_
  refine va_get (D := D) (ci := 5) (v := .ref a2) (C := RX6) (T := TX6) (N := 11) hx hb hts hi6 hown hE.1 hP 0 rfl rfl 3 (by decide) w_0 (fun _ h9 => h9) rfl dX6_wear_2 ?_
  refine lv_iload_n hx hb dX6_wear_5 rfl (lv_at hl 1 rfl) ?_
  refine xs_calli (va_runS (As := [.ref a2, .int p0]) (rest := [.ref a0]) ⟨hx, hb, hml, hown, hts⟩ (c_X6_isPlace l D y a2 s.heap.size nw p0) (va_cwS 2 hts gX6_wear_X6_isPlace rfl rfl rfl hd_X6_isPlace ⟨Nat.le_of_ble_eq_true rfl, Nat.le_of_ble_eq_true rfl⟩) (gS hE (hP.sub [2] rfl) (hD.sub [2] (by decide) rfl)) rfl rfl hl.1 rfl (lv_room (Nat.le_of_ble_eq_true rfl)) dX6_wear_6 ⟨Nat.le_of_ble_eq_true rfl, Nat.le_of_ble_eq_true rfl⟩) (fun v2 h1 => ?_)
  have hF := hF.trans (gLet_e h1)
  refine lv_if_eq (tgt := 16) hx hb dX6_wear_9 (by decide) (fun c_3 => ?_) (fun c_3 => ?_)
  · have hF := hF.trans (if_pos c_3)
    refine lv_iconst (v := 1) hx hb dX6_wear_16 (by decide) ?_
    refine xw_calli (va_runV (As := [.int 1]) (rest := []) ⟨hx, hb, hml, hown, hts⟩ (c_X6_refused l D y a0 a1 a2 a3 a4 a5 a6 s.heap.size rf sz ac sp ou 1) (cwV 1 hts gX6_wear_X6_refused rfl rfl rfl hd_X6_refused ⟨Nat.le_of_ble_eq_true rfl, Nat.le_of_ble_eq_true rfl⟩) (gV (q := (RX6, TX6, 11)) hE (hP.sub [0] rfl) (hD.sub [0] (by decide) rfl) 0 rfl rfl) rfl rfl hl.1 rfl (lv_room (Nat.le_of_ble_eq_true rfl)) dX6_wear_17 ⟨Nat.le_of_ble_eq_true rfl, Nat.le_of_ble_eq_true rfl⟩) hP hD hS hA [0] rfl (by decide) (fun _ => rfl) (fun v6 u5 H locs h4 hP hD hS => ?_)
    have h4 := (rfd1 rf sz ac sp ou).symm.trans h4
    obtain ⟨rfl, rfl⟩ := Prod.mk.inj h4
    have hP : va_P D vwCl [(a0, .inr (5, [.int 1, .ref a1, .int sz, .ref a2, .ref a3, .ref a4, .int ac, .ref a5, .ref a6, .int sp, .int ou])), (a1, .inl (y 0, 120, .inl tx)), (a2, .inl (y 0, 78, .inl nw)), (a3, .inl (y 0, 78, .inl tr)), (a4, .inl (y 0, 1092, .inl dy)), (a5, .inl (y 0, 156, .inl kp)), (a6, .inl (y 2, 2, .inl ik))] H := hP
    have hD : va_D A [(a0, .inr (5, [.int 1, .ref a1, .int sz, .ref a2, .ref a3, .ref a4, .int ac, .ref a5, .ref a6, .int sp, .int ou])), (a1, .inl (y 0, 120, .inl tx)), (a2, .inl (y 0, 78, .inl nw)), (a3, .inl (y 0, 78, .inl tr)), (a4, .inl (y 0, 1092, .inl dy)), (a5, .inl (y 0, 156, .inl kp)), (a6, .inl (y 2, 2, .inl ik))] := hD
    refine lv_if_eq (tgt := 25) hx hb dX6_wear_20 (by decide) (fun c_7 => absurd c_7 (by decide)) (fun c_7 => ?_)
    refine lv_iconst (v := 0) hx hb dX6_wear_23 (by decide) ?_
    exact W.iret (v := 0) hx hb hr (fun t ht hW => ⟨⟨0, ⟨1, sz, ac, sp, ou, tx, nw, tr, dy, kp, ik⟩, rfl, hF, ⟨by rw [ht]; exact hP, hD⟩⟩, hS.F ht⟩) hS.2.2 dX6_wear_24
  · have hF := hF.trans (if_neg c_3)
    refine lv_iconst (v := 0) hx hb dX6_wear_12 (by decide) ?_
    refine lv_goto (tgt := 17) hx hb dX6_wear_13 (by decide) ?_
    refine xw_calli (va_runV (As := [.int 0]) (rest := []) ⟨hx, hb, hml, hown, hts⟩ (c_X6_refused l D y a0 a1 a2 a3 a4 a5 a6 s.heap.size rf sz ac sp ou 0) (cwV 1 hts gX6_wear_X6_refused rfl rfl rfl hd_X6_refused ⟨Nat.le_of_ble_eq_true rfl, Nat.le_of_ble_eq_true rfl⟩) (gV (q := (RX6, TX6, 11)) hE (hP.sub [0] rfl) (hD.sub [0] (by decide) rfl) 0 rfl rfl) rfl rfl hl.1 rfl (lv_room (Nat.le_of_ble_eq_true rfl)) dX6_wear_17 ⟨Nat.le_of_ble_eq_true rfl, Nat.le_of_ble_eq_true rfl⟩) hP hD hS hA [0] rfl (by decide) (fun _ => rfl) (fun v10 u9 H locs h8 hP hD hS => ?_)
    have h8 := (rfd0 rf sz ac sp ou).symm.trans h8
    obtain ⟨rfl, rfl⟩ := Prod.mk.inj h8
    have hP : va_P D vwCl [(a0, .inr (5, [.int 0, .ref a1, .int sz, .ref a2, .ref a3, .ref a4, .int ac, .ref a5, .ref a6, .int sp, .int ou])), (a1, .inl (y 0, 120, .inl tx)), (a2, .inl (y 0, 78, .inl nw)), (a3, .inl (y 0, 78, .inl tr)), (a4, .inl (y 0, 1092, .inl dy)), (a5, .inl (y 0, 156, .inl kp)), (a6, .inl (y 2, 2, .inl ik))] H := hP
    have hD : va_D A [(a0, .inr (5, [.int 0, .ref a1, .int sz, .ref a2, .ref a3, .ref a4, .int ac, .ref a5, .ref a6, .int sp, .int ou])), (a1, .inl (y 0, 120, .inl tx)), (a2, .inl (y 0, 78, .inl nw)), (a3, .inl (y 0, 78, .inl tr)), (a4, .inl (y 0, 1092, .inl dy)), (a5, .inl (y 0, 156, .inl kp)), (a6, .inl (y 2, 2, .inl ik))] := hD
    refine lv_if_eq (tgt := 25) hx hb dX6_wear_20 (by decide) (fun c_11 => ?_) (fun c_11 => absurd (by decide) c_11)
    refine lv_aload_n hx hb dX6_wear_25 rfl (lv_at hl 0 rfl) ?_
    refine va_get (D := D) (ci := 5) (v := .ref a2) (C := RX6) (T := TX6) (N := 11) hx hb hts hi6 hown hE.1 hP 0 rfl rfl 3 (by decide) w_0 (fun _ h9 => h9) rfl dX6_wear_26 ?_
    refine lv_bipush (v := 45) hx hb dX6_wear_29 (by decide) ?_
    refine lv_iload_n hx hb dX6_wear_31 rfl (lv_at hl 1 rfl) ?_
    refine lv_iadd hx hb dX6_wear_32 ?_
    refine xa_iald (k := (45 + p0).toNatClampNeg) (v := nw ((45 + p0).toNatClampNeg)) hx hb hE.1 hP 2 0 rfl rfl (in45 (ip_okP h1 (by assumption) hm.2.2)) rfl rfl dX6_wear_33 ?_
    exact W.iret (v := (nw ((45 + p0).toNatClampNeg))) hx hb hr (fun t ht hW => ⟨⟨(nw ((45 + p0).toNatClampNeg)), ⟨0, sz, ac, sp, ou, tx, nw, tr, dy, kp, ik⟩, rfl, hF, ⟨by rw [ht]; exact hP, hD⟩⟩, hS.F ht⟩) hS.2.2 dX6_wear_34

def f_X6_setting (rf : Int32) (sz : Int32) (ac : Int32) (sp : Int32) (ou : Int32) (tx : Nat → Int32) (nw : gR) (tr : gR) (dy : Nat → Int32) (kp : Nat → Int32) (ik : Nat → Int32) (p0 : Int32) : Int32 × Int32 × Int32 × Int32 × Int32 × Int32 × (Nat → Int32) × gR × gR × (Nat → Int32) × (Nat → Int32) × (Nat → Int32) :=
    gLet (f_X6_in p0.toInt64 0 1) (fun (v2 : Int32) =>
    if v2 = 0 then
      (0, 1, sz, ac, sp, ou, tx, nw, tr, dy, kp, ik)
    else
      ((nw ((11 + p0).toNatClampNeg)), 0, sz, ac, sp, ou, tx, nw, tr, dy, kp, ik))
theorem f_X6_setting_s (rf : Int32) (sz : Int32) (ac : Int32) (sp : Int32) (ou : Int32) (tx : Nat → Int32) (nw : gR) (tr : gR) (dy : Nat → Int32) (kp : Nat → Int32) (ik : Nat → Int32) (p0 : Int32) : f_X6_setting rf sz ac sp ou tx nw tr dy kp ik p0 =
    (gLet (f_X6_in p0.toInt64 0 1) (fun (v2 : Int32) =>
    if v2 = 0 then
      (0, 1, sz, ac, sp, ou, tx, nw, tr, dy, kp, ik)
    else
      ((nw ((11 + p0).toNatClampNeg)), 0, sz, ac, sp, ou, tx, nw, tr, dy, kp, ik))) := rfl
theorem hd_X6_setting : yX6_setting.cls = RX6 ∧ yX6_setting.cls ≠ "java/lang/invoke/MethodHandle" ∧ yX6_setting.cls ≠ "java/lang/invoke/VarHandle" ∧ (parseMethodDescriptor yX6_setting.desc).map (fun d => d.parameters.length) = some 1 := by decide +kernel
set_option maxHeartbeats 4000000 in
set_option maxRecDepth 100000 in
theorem c_X6_setting (l : Launch) (D : va_G) (y : Nat → ClassId) (a0 a1 a2 a3 a4 a5 a6 : Nat) (zh : Nat) (rf : Int32) (sz : Int32) (ac : Int32) (sp : Int32) (ou : Int32) (tx : Nat → Int32) (nw : gR) (tr : gR) (dy : Nat → Int32) (kp : Nat → Int32) (ik : Nat → Int32) (p0 : Int32) (hm : okMd sz ac nw) : Met l yX6_setting wsX6_setting ({ frames := 1, cells := 0, slots := 0, locals := 25 }) (gP D y [.ref a0, .int p0] zh [(a0, .inr (5, [.int rf, .ref a1, .int sz, .ref a2, .ref a3, .ref a4, .int ac, .ref a5, .ref a6, .int sp, .int ou])), (a1, .inl (y 0, 120, .inl tx)), (a2, .inl (y 0, 78, .inl nw)), (a3, .inl (y 0, 78, .inl tr)), (a4, .inl (y 0, 1092, .inl dy)), (a5, .inl (y 0, 156, .inl kp)), (a6, .inl (y 2, 2, .inl ik))]) (va_Qi (fun (v : Int32) (u : Int32 × Int32 × Int32 × Int32 × Int32 × (Nat → Int32) × gR × gR × (Nat → Int32) × (Nat → Int32) × (Nat → Int32)) => f_X6_setting rf sz ac sp ou tx nw tr dy kp ik p0 = (v, u)) (fun (u : Int32 × Int32 × Int32 × Int32 × Int32 × (Nat → Int32) × gR × gR × (Nat → Int32) × (Nat → Int32) × (Nat → Int32)) t => va_P D vwCl [(a0, .inr (5, [.int u.1, .ref a1, .int u.2.1, .ref a2, .ref a3, .ref a4, .int u.2.2.1, .ref a5, .ref a6, .int u.2.2.2.1, .int u.2.2.2.2.1])), (a1, .inl (y 0, 120, .inl u.2.2.2.2.2.1)), (a2, .inl (y 0, 78, .inl u.2.2.2.2.2.2.1)), (a3, .inl (y 0, 78, .inl u.2.2.2.2.2.2.2.1)), (a4, .inl (y 0, 1092, .inl u.2.2.2.2.2.2.2.2.1)), (a5, .inl (y 0, 156, .inl u.2.2.2.2.2.2.2.2.2.1)), (a6, .inl (y 2, 2, .inl u.2.2.2.2.2.2.2.2.2.2))] t.heap ∧ va_D (va_A [(a0, .inr (5, [.int rf, .ref a1, .int sz, .ref a2, .ref a3, .ref a4, .int ac, .ref a5, .ref a6, .int sp, .int ou])), (a1, .inl (y 0, 120, .inl tx)), (a2, .inl (y 0, 78, .inl nw)), (a3, .inl (y 0, 78, .inl tr)), (a4, .inl (y 0, 1092, .inl dy)), (a5, .inl (y 0, 156, .inl kp)), (a6, .inl (y 2, 2, .inl ik))] zh) [(a0, .inr (5, [.int u.1, .ref a1, .int u.2.1, .ref a2, .ref a3, .ref a4, .int u.2.2.1, .ref a5, .ref a6, .int u.2.2.2.1, .int u.2.2.2.2.1])), (a1, .inl (y 0, 120, .inl u.2.2.2.2.2.1)), (a2, .inl (y 0, 78, .inl u.2.2.2.2.2.2.1)), (a3, .inl (y 0, 78, .inl u.2.2.2.2.2.2.2.1)), (a4, .inl (y 0, 1092, .inl u.2.2.2.2.2.2.2.2.1)), (a5, .inl (y 0, 156, .inl u.2.2.2.2.2.2.2.2.2.1)), (a6, .inl (y 2, 2, .inl u.2.2.2.2.2.2.2.2.2.2))]) (va_A [(a0, .inr (5, [.int rf, .ref a1, .int sz, .ref a2, .ref a3, .ref a4, .int ac, .ref a5, .ref a6, .int sp, .int ou])), (a1, .inl (y 0, 120, .inl tx)), (a2, .inl (y 0, 78, .inl nw)), (a3, .inl (y 0, 78, .inl tr)), (a4, .inl (y 0, 1092, .inl dy)), (a5, .inl (y 0, 156, .inl kp)), (a6, .inl (y 2, 2, .inl ik))] zh)) 0 0 (va_A [(a0, .inr (5, [.int rf, .ref a1, .int sz, .ref a2, .ref a3, .ref a4, .int ac, .ref a5, .ref a6, .int sp, .int ou])), (a1, .inl (y 0, 120, .inl tx)), (a2, .inl (y 0, 78, .inl nw)), (a3, .inl (y 0, 78, .inl tr)), (a4, .inl (y 0, 1092, .inl dy)), (a5, .inl (y 0, 156, .inl kp)), (a6, .inl (y 2, 2, .inl ik))] zh) := by
  refine Met.ofW (cc := cX6_setting) (maxL := 2) (ret := (some .int)) (by decide) rfl ?_
  intro p e s m args below meth c s₁ B hml hv
  obtain ⟨rfl, hsz, hP, hE, hD⟩ := hv
  have hx := B.exec
  have hb := B.bytes
  have hr := B.returns
  have hts := atoms_spec (ws := wsX6_setting) B.pre
  have hown : s.vm.findClass RX6 = some m.cls := findClass_of_methodNamed B.named
  have hlocks := B.notSynchronized
  have w_0 := hts (.fieldLink RX6 13 "GapLinesModel" "now" "[I") (List.mem_cons_of_mem _ (List.mem_append_left _ (List.mem_of_getElem? (i := 0) rfl)))
  have hi6 : ∀ w ∈ u_ws RX6 TX6 11, w ∈ wsX6_setting := fun w h => (List.mem_cons_of_mem _ (List.mem_append_right _ h))
  subst hsz
  have hD := hD.self (sz := s.heap.size)
  generalize hAe : va_A [(a0, .inr (5, [.int rf, .ref a1, .int sz, .ref a2, .ref a3, .ref a4, .int ac, .ref a5, .ref a6, .int sp, .int ou])), (a1, .inl (y 0, 120, .inl tx)), (a2, .inl (y 0, 78, .inl nw)), (a3, .inl (y 0, 78, .inl tr)), (a4, .inl (y 0, 1092, .inl dy)), (a5, .inl (y 0, 156, .inl kp)), (a6, .inl (y 2, 2, .inl ik))] s.heap.size = A at hD ⊢
  have hA : ∀ q : Nat, s.heap.size ≤ q → A q := fun q h => by rw [← hAe]; exact Or.inr h
  have hS : va_S A s.heap s.heap [] := va_S.rf
  have hl := lv_entry ([.ref a0, .int p0]) (n := 2) (Nat.le_of_ble_eq_true rfl)
  rw [lg_entry_eq]
  generalize (lg_sl ([.ref a0, .int p0]) ++ List.replicate (2 - (lg_sl ([.ref a0, .int p0])).length) Slot.unset).toArray = ls at hl ⊢
  have hl : lv_has ls 2 [(0, .ref a0), (1, .int p0)] := hl
  have hF := f_X6_setting_s rf sz ac sp ou tx nw tr dy kp ik p0
  refine lv_aload_n hx hb dX6_setting_0 rfl (lv_at hl 0 rfl) ?_
  refine lv_iload_n hx hb dX6_setting_1 rfl (lv_at hl 1 rfl) ?_
  refine lv_i2l (v := p0.toInt64) hx hb dX6_setting_2 rfl ?_
  refine lv_lconst (v := 0) hx hb dX6_setting_3 (by decide) ?_
  refine lv_lconst (v := 1) hx hb dX6_setting_4 (by decide) ?_
  refine xs_calli (va_runS (As := [.long p0.toInt64, .long 0, .long 1]) (rest := [.ref a0]) ⟨hx, hb, hml, hown, hts⟩ (c_X6_in l D y s.heap.size p0.toInt64 0 1) (va_cwS 3 hts gX6_setting_X6_in rfl rfl rfl hd_X6_in ⟨Nat.le_of_ble_eq_true rfl, Nat.le_of_ble_eq_true rfl⟩) (gS hE (hP.sub [] rfl) (hD.sub [] (by decide) rfl)) rfl rfl hl.1 rfl (lv_room (Nat.le_of_ble_eq_true rfl)) dX6_setting_5 ⟨Nat.le_of_ble_eq_true rfl, Nat.le_of_ble_eq_true rfl⟩) (fun v2 h1 => ?_)
  have hF := hF.trans (gLet_e h1)
  refine lv_if_eq (tgt := 15) hx hb dX6_setting_8 (by decide) (fun c_3 => ?_) (fun c_3 => ?_)
  · have hF := hF.trans (if_pos c_3)
    refine lv_iconst (v := 1) hx hb dX6_setting_15 (by decide) ?_
    refine xw_calli (va_runV (As := [.int 1]) (rest := []) ⟨hx, hb, hml, hown, hts⟩ (c_X6_refused l D y a0 a1 a2 a3 a4 a5 a6 s.heap.size rf sz ac sp ou 1) (cwV 1 hts gX6_setting_X6_refused rfl rfl rfl hd_X6_refused ⟨Nat.le_of_ble_eq_true rfl, Nat.le_of_ble_eq_true rfl⟩) (gV (q := (RX6, TX6, 11)) hE (hP.sub [0] rfl) (hD.sub [0] (by decide) rfl) 0 rfl rfl) rfl rfl hl.1 rfl (lv_room (Nat.le_of_ble_eq_true rfl)) dX6_setting_16 ⟨Nat.le_of_ble_eq_true rfl, Nat.le_of_ble_eq_true rfl⟩) hP hD hS hA [0] rfl (by decide) (fun _ => rfl) (fun v6 u5 H locs h4 hP hD hS => ?_)
    have h4 := (rfd1 rf sz ac sp ou).symm.trans h4
    obtain ⟨rfl, rfl⟩ := Prod.mk.inj h4
    have hP : va_P D vwCl [(a0, .inr (5, [.int 1, .ref a1, .int sz, .ref a2, .ref a3, .ref a4, .int ac, .ref a5, .ref a6, .int sp, .int ou])), (a1, .inl (y 0, 120, .inl tx)), (a2, .inl (y 0, 78, .inl nw)), (a3, .inl (y 0, 78, .inl tr)), (a4, .inl (y 0, 1092, .inl dy)), (a5, .inl (y 0, 156, .inl kp)), (a6, .inl (y 2, 2, .inl ik))] H := hP
    have hD : va_D A [(a0, .inr (5, [.int 1, .ref a1, .int sz, .ref a2, .ref a3, .ref a4, .int ac, .ref a5, .ref a6, .int sp, .int ou])), (a1, .inl (y 0, 120, .inl tx)), (a2, .inl (y 0, 78, .inl nw)), (a3, .inl (y 0, 78, .inl tr)), (a4, .inl (y 0, 1092, .inl dy)), (a5, .inl (y 0, 156, .inl kp)), (a6, .inl (y 2, 2, .inl ik))] := hD
    refine lv_if_eq (tgt := 24) hx hb dX6_setting_19 (by decide) (fun c_7 => absurd c_7 (by decide)) (fun c_7 => ?_)
    refine lv_iconst (v := 0) hx hb dX6_setting_22 (by decide) ?_
    exact W.iret (v := 0) hx hb hr (fun t ht hW => ⟨⟨0, ⟨1, sz, ac, sp, ou, tx, nw, tr, dy, kp, ik⟩, rfl, hF, ⟨by rw [ht]; exact hP, hD⟩⟩, hS.F ht⟩) hS.2.2 dX6_setting_23
  · have hF := hF.trans (if_neg c_3)
    refine lv_iconst (v := 0) hx hb dX6_setting_11 (by decide) ?_
    refine lv_goto (tgt := 16) hx hb dX6_setting_12 (by decide) ?_
    refine xw_calli (va_runV (As := [.int 0]) (rest := []) ⟨hx, hb, hml, hown, hts⟩ (c_X6_refused l D y a0 a1 a2 a3 a4 a5 a6 s.heap.size rf sz ac sp ou 0) (cwV 1 hts gX6_setting_X6_refused rfl rfl rfl hd_X6_refused ⟨Nat.le_of_ble_eq_true rfl, Nat.le_of_ble_eq_true rfl⟩) (gV (q := (RX6, TX6, 11)) hE (hP.sub [0] rfl) (hD.sub [0] (by decide) rfl) 0 rfl rfl) rfl rfl hl.1 rfl (lv_room (Nat.le_of_ble_eq_true rfl)) dX6_setting_16 ⟨Nat.le_of_ble_eq_true rfl, Nat.le_of_ble_eq_true rfl⟩) hP hD hS hA [0] rfl (by decide) (fun _ => rfl) (fun v10 u9 H locs h8 hP hD hS => ?_)
    have h8 := (rfd0 rf sz ac sp ou).symm.trans h8
    obtain ⟨rfl, rfl⟩ := Prod.mk.inj h8
    have hP : va_P D vwCl [(a0, .inr (5, [.int 0, .ref a1, .int sz, .ref a2, .ref a3, .ref a4, .int ac, .ref a5, .ref a6, .int sp, .int ou])), (a1, .inl (y 0, 120, .inl tx)), (a2, .inl (y 0, 78, .inl nw)), (a3, .inl (y 0, 78, .inl tr)), (a4, .inl (y 0, 1092, .inl dy)), (a5, .inl (y 0, 156, .inl kp)), (a6, .inl (y 2, 2, .inl ik))] H := hP
    have hD : va_D A [(a0, .inr (5, [.int 0, .ref a1, .int sz, .ref a2, .ref a3, .ref a4, .int ac, .ref a5, .ref a6, .int sp, .int ou])), (a1, .inl (y 0, 120, .inl tx)), (a2, .inl (y 0, 78, .inl nw)), (a3, .inl (y 0, 78, .inl tr)), (a4, .inl (y 0, 1092, .inl dy)), (a5, .inl (y 0, 156, .inl kp)), (a6, .inl (y 2, 2, .inl ik))] := hD
    refine lv_if_eq (tgt := 24) hx hb dX6_setting_19 (by decide) (fun c_11 => ?_) (fun c_11 => absurd (by decide) c_11)
    refine lv_aload_n hx hb dX6_setting_24 rfl (lv_at hl 0 rfl) ?_
    refine va_get (D := D) (ci := 5) (v := .ref a2) (C := RX6) (T := TX6) (N := 11) hx hb hts hi6 hown hE.1 hP 0 rfl rfl 3 (by decide) w_0 (fun _ h9 => h9) rfl dX6_setting_25 ?_
    refine lv_bipush (v := 11) hx hb dX6_setting_28 (by decide) ?_
    refine lv_iload_n hx hb dX6_setting_30 rfl (lv_at hl 1 rfl) ?_
    refine lv_iadd hx hb dX6_setting_31 ?_
    refine xa_iald (k := (11 + p0).toNatClampNeg) (v := nw ((11 + p0).toNatClampNeg)) hx hb hE.1 hP 2 0 rfl rfl (ix11 (in01 h1 (by assumption))) rfl rfl dX6_setting_32 ?_
    exact W.iret (v := (nw ((11 + p0).toNatClampNeg))) hx hb hr (fun t ht hW => ⟨⟨(nw ((11 + p0).toNatClampNeg)), ⟨0, sz, ac, sp, ou, tx, nw, tr, dy, kp, ik⟩, rfl, hF, ⟨by rw [ht]; exact hP, hD⟩⟩, hS.F ht⟩) hS.2.2 dX6_setting_33

def f_X6_make (rf : Int32) (sz : Int32) (ac : Int32) (sp : Int32) (ou : Int32) (tx : Nat → Int32) (nw : gR) (tr : gR) (dy : Nat → Int32) (kp : Nat → Int32) (ik : Nat → Int32) (p0 : Int32) (p1 : Int32) (p2 : Int32) : Int32 × Int32 × Int32 × Int32 × Int32 × Int32 × (Nat → Int32) × gR × gR × (Nat → Int32) × (Nat → Int32) × (Nat → Int32) :=
    gLet (f_X6_canMake p0 p1 p2) (fun (v2 : Int32) =>
    if v2 = 0 then
      (0, 1, sz, ac, sp, ou, tx, nw, tr, dy, kp, ik)
    else
      gLet (f_X6_remember 0 sz ac sp ou nw dy) (fun (u13 : Int32 × (Nat → Int32)) =>
        gLet (f_X6_makeOn nw p0 p1 p2) (fun (q17 : Int32 × gR) =>
          (q17.1, 0, sz, u13.1, sp, ou, tx, q17.2, tr, u13.2, kp, ik))))
theorem f_X6_make_s (rf : Int32) (sz : Int32) (ac : Int32) (sp : Int32) (ou : Int32) (tx : Nat → Int32) (nw : gR) (tr : gR) (dy : Nat → Int32) (kp : Nat → Int32) (ik : Nat → Int32) (p0 : Int32) (p1 : Int32) (p2 : Int32) : f_X6_make rf sz ac sp ou tx nw tr dy kp ik p0 p1 p2 =
    (gLet (f_X6_canMake p0 p1 p2) (fun (v2 : Int32) =>
    if v2 = 0 then
      (0, 1, sz, ac, sp, ou, tx, nw, tr, dy, kp, ik)
    else
      gLet (f_X6_remember 0 sz ac sp ou nw dy) (fun (u13 : Int32 × (Nat → Int32)) =>
        gLet (f_X6_makeOn nw p0 p1 p2) (fun (q17 : Int32 × gR) =>
          (q17.1, 0, sz, u13.1, sp, ou, tx, q17.2, tr, u13.2, kp, ik))))) := rfl
theorem hd_X6_make : yX6_make.cls = RX6 ∧ yX6_make.cls ≠ "java/lang/invoke/MethodHandle" ∧ yX6_make.cls ≠ "java/lang/invoke/VarHandle" ∧ (parseMethodDescriptor yX6_make.desc).map (fun d => d.parameters.length) = some 3 := by decide +kernel
set_option maxHeartbeats 4000000 in
set_option maxRecDepth 100000 in
theorem c_X6_make (l : Launch) (D : va_G) (y : Nat → ClassId) (a0 a1 a2 a3 a4 a5 a6 : Nat) (zh : Nat) (rf : Int32) (sz : Int32) (ac : Int32) (sp : Int32) (ou : Int32) (tx : Nat → Int32) (nw : gR) (tr : gR) (dy : Nat → Int32) (kp : Nat → Int32) (ik : Nat → Int32) (p0 : Int32) (p1 : Int32) (p2 : Int32) (hm : okMd sz ac nw) : Met l yX6_make wsX6_make ({ frames := 3, cells := 0, slots := 0, locals := 71 }) (gP D y [.ref a0, .int p0, .int p1, .int p2] zh [(a0, .inr (5, [.int rf, .ref a1, .int sz, .ref a2, .ref a3, .ref a4, .int ac, .ref a5, .ref a6, .int sp, .int ou])), (a1, .inl (y 0, 120, .inl tx)), (a2, .inl (y 0, 78, .inl nw)), (a3, .inl (y 0, 78, .inl tr)), (a4, .inl (y 0, 1092, .inl dy)), (a5, .inl (y 0, 156, .inl kp)), (a6, .inl (y 2, 2, .inl ik))]) (va_Qi (fun (v : Int32) (u : Int32 × Int32 × Int32 × Int32 × Int32 × (Nat → Int32) × gR × gR × (Nat → Int32) × (Nat → Int32) × (Nat → Int32)) => f_X6_make rf sz ac sp ou tx nw tr dy kp ik p0 p1 p2 = (v, u)) (fun (u : Int32 × Int32 × Int32 × Int32 × Int32 × (Nat → Int32) × gR × gR × (Nat → Int32) × (Nat → Int32) × (Nat → Int32)) t => va_P D vwCl [(a0, .inr (5, [.int u.1, .ref a1, .int u.2.1, .ref a2, .ref a3, .ref a4, .int u.2.2.1, .ref a5, .ref a6, .int u.2.2.2.1, .int u.2.2.2.2.1])), (a1, .inl (y 0, 120, .inl u.2.2.2.2.2.1)), (a2, .inl (y 0, 78, .inl u.2.2.2.2.2.2.1)), (a3, .inl (y 0, 78, .inl u.2.2.2.2.2.2.2.1)), (a4, .inl (y 0, 1092, .inl u.2.2.2.2.2.2.2.2.1)), (a5, .inl (y 0, 156, .inl u.2.2.2.2.2.2.2.2.2.1)), (a6, .inl (y 2, 2, .inl u.2.2.2.2.2.2.2.2.2.2))] t.heap ∧ va_D (va_A [(a0, .inr (5, [.int rf, .ref a1, .int sz, .ref a2, .ref a3, .ref a4, .int ac, .ref a5, .ref a6, .int sp, .int ou])), (a1, .inl (y 0, 120, .inl tx)), (a2, .inl (y 0, 78, .inl nw)), (a3, .inl (y 0, 78, .inl tr)), (a4, .inl (y 0, 1092, .inl dy)), (a5, .inl (y 0, 156, .inl kp)), (a6, .inl (y 2, 2, .inl ik))] zh) [(a0, .inr (5, [.int u.1, .ref a1, .int u.2.1, .ref a2, .ref a3, .ref a4, .int u.2.2.1, .ref a5, .ref a6, .int u.2.2.2.1, .int u.2.2.2.2.1])), (a1, .inl (y 0, 120, .inl u.2.2.2.2.2.1)), (a2, .inl (y 0, 78, .inl u.2.2.2.2.2.2.1)), (a3, .inl (y 0, 78, .inl u.2.2.2.2.2.2.2.1)), (a4, .inl (y 0, 1092, .inl u.2.2.2.2.2.2.2.2.1)), (a5, .inl (y 0, 156, .inl u.2.2.2.2.2.2.2.2.2.1)), (a6, .inl (y 2, 2, .inl u.2.2.2.2.2.2.2.2.2.2))]) (va_A [(a0, .inr (5, [.int rf, .ref a1, .int sz, .ref a2, .ref a3, .ref a4, .int ac, .ref a5, .ref a6, .int sp, .int ou])), (a1, .inl (y 0, 120, .inl tx)), (a2, .inl (y 0, 78, .inl nw)), (a3, .inl (y 0, 78, .inl tr)), (a4, .inl (y 0, 1092, .inl dy)), (a5, .inl (y 0, 156, .inl kp)), (a6, .inl (y 2, 2, .inl ik))] zh)) 0 0 (va_A [(a0, .inr (5, [.int rf, .ref a1, .int sz, .ref a2, .ref a3, .ref a4, .int ac, .ref a5, .ref a6, .int sp, .int ou])), (a1, .inl (y 0, 120, .inl tx)), (a2, .inl (y 0, 78, .inl nw)), (a3, .inl (y 0, 78, .inl tr)), (a4, .inl (y 0, 1092, .inl dy)), (a5, .inl (y 0, 156, .inl kp)), (a6, .inl (y 2, 2, .inl ik))] zh) := by
  refine Met.ofW (cc := cX6_make) (maxL := 4) (ret := (some .int)) (by decide) rfl ?_
  intro p e s m args below meth c s₁ B hml hv
  obtain ⟨rfl, hsz, hP, hE, hD⟩ := hv
  have hx := B.exec
  have hb := B.bytes
  have hr := B.returns
  have hts := atoms_spec (ws := wsX6_make) B.pre
  have hown : s.vm.findClass RX6 = some m.cls := findClass_of_methodNamed B.named
  have hlocks := B.notSynchronized
  have w_0 := hts (.fieldLink RX6 13 "GapLinesModel" "now" "[I") (List.mem_cons_of_mem _ (List.mem_append_left _ (List.mem_append_left _ (List.mem_of_getElem? (i := 0) rfl))))
  have hi6 : ∀ w ∈ u_ws RX6 TX6 11, w ∈ wsX6_make := fun w h => (List.mem_cons_of_mem _ (List.mem_append_right _ h))
  subst hsz
  have hD := hD.self (sz := s.heap.size)
  generalize hAe : va_A [(a0, .inr (5, [.int rf, .ref a1, .int sz, .ref a2, .ref a3, .ref a4, .int ac, .ref a5, .ref a6, .int sp, .int ou])), (a1, .inl (y 0, 120, .inl tx)), (a2, .inl (y 0, 78, .inl nw)), (a3, .inl (y 0, 78, .inl tr)), (a4, .inl (y 0, 1092, .inl dy)), (a5, .inl (y 0, 156, .inl kp)), (a6, .inl (y 2, 2, .inl ik))] s.heap.size = A at hD ⊢
  have hA : ∀ q : Nat, s.heap.size ≤ q → A q := fun q h => by rw [← hAe]; exact Or.inr h
  have hS : va_S A s.heap s.heap [] := va_S.rf
  have hl := lv_entry ([.ref a0, .int p0, .int p1, .int p2]) (n := 4) (Nat.le_of_ble_eq_true rfl)
  rw [lg_entry_eq]
  generalize (lg_sl ([.ref a0, .int p0, .int p1, .int p2]) ++ List.replicate (4 - (lg_sl ([.ref a0, .int p0, .int p1, .int p2])).length) Slot.unset).toArray = ls at hl ⊢
  have hl : lv_has ls 4 [(0, .ref a0), (1, .int p0), (2, .int p1), (3, .int p2)] := hl
  have hF := f_X6_make_s rf sz ac sp ou tx nw tr dy kp ik p0 p1 p2
  refine lv_aload_n hx hb dX6_make_0 rfl (lv_at hl 0 rfl) ?_
  refine lv_iload_n hx hb dX6_make_1 rfl (lv_at hl 1 rfl) ?_
  refine lv_iload_n hx hb dX6_make_2 rfl (lv_at hl 2 rfl) ?_
  refine lv_iload_n hx hb dX6_make_3 rfl (lv_at hl 3 rfl) ?_
  refine xs_calli (va_runS (As := [.int p0, .int p1, .int p2]) (rest := [.ref a0]) ⟨hx, hb, hml, hown, hts⟩ (c_X6_canMake l D y s.heap.size p0 p1 p2) (va_cwS 3 hts gX6_make_X6_canMake rfl rfl rfl hd_X6_canMake ⟨Nat.le_of_ble_eq_true rfl, Nat.le_of_ble_eq_true rfl⟩) (gS hE (hP.sub [] rfl) (hD.sub [] (by decide) rfl)) rfl rfl hl.1 rfl (lv_room (Nat.le_of_ble_eq_true rfl)) dX6_make_4 ⟨Nat.le_of_ble_eq_true rfl, Nat.le_of_ble_eq_true rfl⟩) (fun v2 h1 => ?_)
  have hF := hF.trans (gLet_e h1)
  refine lv_if_eq (tgt := 14) hx hb dX6_make_7 (by decide) (fun c_3 => ?_) (fun c_3 => ?_)
  · have hF := hF.trans (if_pos c_3)
    refine lv_iconst (v := 1) hx hb dX6_make_14 (by decide) ?_
    refine xw_calli (va_runV (As := [.int 1]) (rest := []) ⟨hx, hb, hml, hown, hts⟩ (c_X6_refused l D y a0 a1 a2 a3 a4 a5 a6 s.heap.size rf sz ac sp ou 1) (cwV 1 hts gX6_make_X6_refused rfl rfl rfl hd_X6_refused ⟨Nat.le_of_ble_eq_true rfl, Nat.le_of_ble_eq_true rfl⟩) (gV (q := (RX6, TX6, 11)) hE (hP.sub [0] rfl) (hD.sub [0] (by decide) rfl) 0 rfl rfl) rfl rfl hl.1 rfl (lv_room (Nat.le_of_ble_eq_true rfl)) dX6_make_15 ⟨Nat.le_of_ble_eq_true rfl, Nat.le_of_ble_eq_true rfl⟩) hP hD hS hA [0] rfl (by decide) (fun _ => rfl) (fun v6 u5 H locs h4 hP hD hS => ?_)
    have h4 := (rfd1 rf sz ac sp ou).symm.trans h4
    obtain ⟨rfl, rfl⟩ := Prod.mk.inj h4
    have hP : va_P D vwCl [(a0, .inr (5, [.int 1, .ref a1, .int sz, .ref a2, .ref a3, .ref a4, .int ac, .ref a5, .ref a6, .int sp, .int ou])), (a1, .inl (y 0, 120, .inl tx)), (a2, .inl (y 0, 78, .inl nw)), (a3, .inl (y 0, 78, .inl tr)), (a4, .inl (y 0, 1092, .inl dy)), (a5, .inl (y 0, 156, .inl kp)), (a6, .inl (y 2, 2, .inl ik))] H := hP
    have hD : va_D A [(a0, .inr (5, [.int 1, .ref a1, .int sz, .ref a2, .ref a3, .ref a4, .int ac, .ref a5, .ref a6, .int sp, .int ou])), (a1, .inl (y 0, 120, .inl tx)), (a2, .inl (y 0, 78, .inl nw)), (a3, .inl (y 0, 78, .inl tr)), (a4, .inl (y 0, 1092, .inl dy)), (a5, .inl (y 0, 156, .inl kp)), (a6, .inl (y 2, 2, .inl ik))] := hD
    refine lv_if_eq (tgt := 23) hx hb dX6_make_18 (by decide) (fun c_7 => absurd c_7 (by decide)) (fun c_7 => ?_)
    refine lv_iconst (v := 0) hx hb dX6_make_21 (by decide) ?_
    exact W.iret (v := 0) hx hb hr (fun t ht hW => ⟨⟨0, ⟨1, sz, ac, sp, ou, tx, nw, tr, dy, kp, ik⟩, rfl, hF, ⟨by rw [ht]; exact hP, hD⟩⟩, hS.F ht⟩) hS.2.2 dX6_make_22
  · have hF := hF.trans (if_neg c_3)
    refine lv_iconst (v := 0) hx hb dX6_make_10 (by decide) ?_
    refine lv_goto (tgt := 15) hx hb dX6_make_11 (by decide) ?_
    refine xw_calli (va_runV (As := [.int 0]) (rest := []) ⟨hx, hb, hml, hown, hts⟩ (c_X6_refused l D y a0 a1 a2 a3 a4 a5 a6 s.heap.size rf sz ac sp ou 0) (cwV 1 hts gX6_make_X6_refused rfl rfl rfl hd_X6_refused ⟨Nat.le_of_ble_eq_true rfl, Nat.le_of_ble_eq_true rfl⟩) (gV (q := (RX6, TX6, 11)) hE (hP.sub [0] rfl) (hD.sub [0] (by decide) rfl) 0 rfl rfl) rfl rfl hl.1 rfl (lv_room (Nat.le_of_ble_eq_true rfl)) dX6_make_15 ⟨Nat.le_of_ble_eq_true rfl, Nat.le_of_ble_eq_true rfl⟩) hP hD hS hA [0] rfl (by decide) (fun _ => rfl) (fun v10 u9 H locs h8 hP hD hS => ?_)
    have h8 := (rfd0 rf sz ac sp ou).symm.trans h8
    obtain ⟨rfl, rfl⟩ := Prod.mk.inj h8
    have hP : va_P D vwCl [(a0, .inr (5, [.int 0, .ref a1, .int sz, .ref a2, .ref a3, .ref a4, .int ac, .ref a5, .ref a6, .int sp, .int ou])), (a1, .inl (y 0, 120, .inl tx)), (a2, .inl (y 0, 78, .inl nw)), (a3, .inl (y 0, 78, .inl tr)), (a4, .inl (y 0, 1092, .inl dy)), (a5, .inl (y 0, 156, .inl kp)), (a6, .inl (y 2, 2, .inl ik))] H := hP
    have hD : va_D A [(a0, .inr (5, [.int 0, .ref a1, .int sz, .ref a2, .ref a3, .ref a4, .int ac, .ref a5, .ref a6, .int sp, .int ou])), (a1, .inl (y 0, 120, .inl tx)), (a2, .inl (y 0, 78, .inl nw)), (a3, .inl (y 0, 78, .inl tr)), (a4, .inl (y 0, 1092, .inl dy)), (a5, .inl (y 0, 156, .inl kp)), (a6, .inl (y 2, 2, .inl ik))] := hD
    refine lv_if_eq (tgt := 23) hx hb dX6_make_18 (by decide) (fun c_11 => ?_) (fun c_11 => absurd (by decide) c_11)
    refine lv_aload_n hx hb dX6_make_23 rfl (lv_at hl 0 rfl) ?_
    refine xw_callv (va_runV (As := []) (rest := []) ⟨hx, hb, hml, hown, hts⟩ (c_X6_remember l D y a0 a1 a2 a3 a4 a5 a6 H.size 0 sz ac sp ou nw dy hm.2.1) (cwV 0 hts gX6_make_X6_remember rfl rfl rfl hd_X6_remember ⟨Nat.le_of_ble_eq_true rfl, Nat.le_of_ble_eq_true rfl⟩) (gV (q := (RX6, TX6, 11)) hE (hP.sub [0, 2, 4] rfl) (hD.sub [0, 2, 4] (by decide) rfl) 0 rfl rfl) rfl rfl hl.1 rfl (lv_room (Nat.le_of_ble_eq_true rfl)) dX6_make_24 ⟨Nat.le_of_ble_eq_true rfl, Nat.le_of_ble_eq_true rfl⟩) hP hD hS hA [0, 2, 4] rfl (by decide) (fun _ => rfl) (fun u13 H locs h12 hP hD hS => ?_)
    have hF := hF.trans (gLet_e h12)
    have hP : va_P D vwCl [(a0, .inr (5, [.int 0, .ref a1, .int sz, .ref a2, .ref a3, .ref a4, .int u13.1, .ref a5, .ref a6, .int sp, .int ou])), (a1, .inl (y 0, 120, .inl tx)), (a2, .inl (y 0, 78, .inl nw)), (a3, .inl (y 0, 78, .inl tr)), (a4, .inl (y 0, 1092, .inl u13.2)), (a5, .inl (y 0, 156, .inl kp)), (a6, .inl (y 2, 2, .inl ik))] H := hP
    have hD : va_D A [(a0, .inr (5, [.int 0, .ref a1, .int sz, .ref a2, .ref a3, .ref a4, .int u13.1, .ref a5, .ref a6, .int sp, .int ou])), (a1, .inl (y 0, 120, .inl tx)), (a2, .inl (y 0, 78, .inl nw)), (a3, .inl (y 0, 78, .inl tr)), (a4, .inl (y 0, 1092, .inl u13.2)), (a5, .inl (y 0, 156, .inl kp)), (a6, .inl (y 2, 2, .inl ik))] := hD
    refine lv_aload_n hx hb dX6_make_27 rfl (lv_at hl 0 rfl) ?_
    refine va_get (D := D) (ci := 5) (v := .ref a2) (C := RX6) (T := TX6) (N := 11) hx hb hts hi6 hown hE.1 hP 0 rfl rfl 3 (by decide) w_0 (fun _ h9 => h9) rfl dX6_make_28 ?_
    refine lv_iload_n hx hb dX6_make_31 rfl (lv_at hl 1 rfl) ?_
    refine lv_iload_n hx hb dX6_make_32 rfl (lv_at hl 2 rfl) ?_
    refine lv_iload_n hx hb dX6_make_33 rfl (lv_at hl 3 rfl) ?_
    refine xw_calli (va_runS (As := [.ref a2, .int p0, .int p1, .int p2]) (rest := []) ⟨hx, hb, hml, hown, hts⟩ (c_X6_makeOn l D y a2 H.size nw p0 p1 p2 (cm_n0 h1 (by assumption))) (va_cwS 4 hts gX6_make_X6_makeOn rfl rfl rfl hd_X6_makeOn ⟨Nat.le_of_ble_eq_true rfl, Nat.le_of_ble_eq_true rfl⟩) (gS hE (hP.sub [2] rfl) (hD.sub [2] (by decide) rfl)) rfl rfl hl.1 rfl (lv_room (Nat.le_of_ble_eq_true rfl)) dX6_make_34 ⟨Nat.le_of_ble_eq_true rfl, Nat.le_of_ble_eq_true rfl⟩) hP hD hS hA [2] rfl (by decide) (fun _ => rfl) (fun v16 u15 H locs h14 hP hD hS => ?_)
    obtain ⟨q17, eq17⟩ : ∃ z : Int32 × gR, f_X6_makeOn nw p0 p1 p2 = z := ⟨_, rfl⟩
    obtain ⟨rfl, rfl⟩ : q17.1 = v16 ∧ q17.2 = u15 := ⟨by rw [← eq17, h14], by rw [← eq17, h14]⟩
    have hF := hF.trans (gLet_e eq17)
    have hP : va_P D vwCl [(a0, .inr (5, [.int 0, .ref a1, .int sz, .ref a2, .ref a3, .ref a4, .int u13.1, .ref a5, .ref a6, .int sp, .int ou])), (a1, .inl (y 0, 120, .inl tx)), (a2, .inl (y 0, 78, .inl q17.2)), (a3, .inl (y 0, 78, .inl tr)), (a4, .inl (y 0, 1092, .inl u13.2)), (a5, .inl (y 0, 156, .inl kp)), (a6, .inl (y 2, 2, .inl ik))] H := hP
    have hD : va_D A [(a0, .inr (5, [.int 0, .ref a1, .int sz, .ref a2, .ref a3, .ref a4, .int u13.1, .ref a5, .ref a6, .int sp, .int ou])), (a1, .inl (y 0, 120, .inl tx)), (a2, .inl (y 0, 78, .inl q17.2)), (a3, .inl (y 0, 78, .inl tr)), (a4, .inl (y 0, 1092, .inl u13.2)), (a5, .inl (y 0, 156, .inl kp)), (a6, .inl (y 2, 2, .inl ik))] := hD
    exact W.iret (v := q17.1) hx hb hr (fun t ht hW => ⟨⟨q17.1, ⟨0, sz, u13.1, sp, ou, tx, q17.2, tr, u13.2, kp, ik⟩, rfl, hF, ⟨by rw [ht]; exact hP, hD⟩⟩, hS.F ht⟩) hS.2.2 dX6_make_37

def f_X6_write (rf : Int32) (sz : Int32) (ac : Int32) (sp : Int32) (ou : Int32) (tx : Nat → Int32) (nw : gR) (tr : gR) (dy : Nat → Int32) (kp : Nat → Int32) (ik : Nat → Int32) (p0 : Int32) (p1 : Int32) : Int32 × Int32 × Int32 × Int32 × Int32 × Int32 × (Nat → Int32) × gR × gR × (Nat → Int32) × (Nat → Int32) × (Nat → Int32) :=
    gLet (f_X6_isLine nw p0) (fun (v2 : Int32) =>
    if v2 = 0 then
      (0, 1, sz, ac, sp, ou, tx, nw, tr, dy, kp, ik)
    else
      gLet (f_X6_isValue p1) (fun (v5 : Int32) =>
        if v5 = 0 then
          (0, 2, sz, ac, sp, ou, tx, nw, tr, dy, kp, ik)
        else
          gLet (f_X6_canWrite nw p0) (fun (v8 : Int32) =>
            if v8 = 0 then
              (0, 3, sz, ac, sp, ou, tx, nw, tr, dy, kp, ik)
            else
              gLet (f_X6_remember 0 sz ac sp ou nw dy) (fun (u19 : Int32 × (Nat → Int32)) =>
                gLet (f_X6_writeOn nw p0 p1) (fun (q23 : Int32 × gR) =>
                  (q23.1, 0, sz, u19.1, sp, ou, tx, q23.2, tr, u19.2, kp, ik))))))
theorem f_X6_write_s (rf : Int32) (sz : Int32) (ac : Int32) (sp : Int32) (ou : Int32) (tx : Nat → Int32) (nw : gR) (tr : gR) (dy : Nat → Int32) (kp : Nat → Int32) (ik : Nat → Int32) (p0 : Int32) (p1 : Int32) : f_X6_write rf sz ac sp ou tx nw tr dy kp ik p0 p1 =
    (gLet (f_X6_isLine nw p0) (fun (v2 : Int32) =>
    if v2 = 0 then
      (0, 1, sz, ac, sp, ou, tx, nw, tr, dy, kp, ik)
    else
      gLet (f_X6_isValue p1) (fun (v5 : Int32) =>
        if v5 = 0 then
          (0, 2, sz, ac, sp, ou, tx, nw, tr, dy, kp, ik)
        else
          gLet (f_X6_canWrite nw p0) (fun (v8 : Int32) =>
            if v8 = 0 then
              (0, 3, sz, ac, sp, ou, tx, nw, tr, dy, kp, ik)
            else
              gLet (f_X6_remember 0 sz ac sp ou nw dy) (fun (u19 : Int32 × (Nat → Int32)) =>
                gLet (f_X6_writeOn nw p0 p1) (fun (q23 : Int32 × gR) =>
                  (q23.1, 0, sz, u19.1, sp, ou, tx, q23.2, tr, u19.2, kp, ik))))))) := rfl
theorem hd_X6_write : yX6_write.cls = RX6 ∧ yX6_write.cls ≠ "java/lang/invoke/MethodHandle" ∧ yX6_write.cls ≠ "java/lang/invoke/VarHandle" ∧ (parseMethodDescriptor yX6_write.desc).map (fun d => d.parameters.length) = some 2 := by decide +kernel
set_option maxHeartbeats 4000000 in
set_option maxRecDepth 100000 in
theorem c_X6_write (l : Launch) (D : va_G) (y : Nat → ClassId) (a0 a1 a2 a3 a4 a5 a6 : Nat) (zh : Nat) (rf : Int32) (sz : Int32) (ac : Int32) (sp : Int32) (ou : Int32) (tx : Nat → Int32) (nw : gR) (tr : gR) (dy : Nat → Int32) (kp : Nat → Int32) (ik : Nat → Int32) (p0 : Int32) (p1 : Int32) (hm : okMd sz ac nw) : Met l yX6_write wsX6_write ({ frames := 3, cells := 0, slots := 0, locals := 68 }) (gP D y [.ref a0, .int p0, .int p1] zh [(a0, .inr (5, [.int rf, .ref a1, .int sz, .ref a2, .ref a3, .ref a4, .int ac, .ref a5, .ref a6, .int sp, .int ou])), (a1, .inl (y 0, 120, .inl tx)), (a2, .inl (y 0, 78, .inl nw)), (a3, .inl (y 0, 78, .inl tr)), (a4, .inl (y 0, 1092, .inl dy)), (a5, .inl (y 0, 156, .inl kp)), (a6, .inl (y 2, 2, .inl ik))]) (va_Qi (fun (v : Int32) (u : Int32 × Int32 × Int32 × Int32 × Int32 × (Nat → Int32) × gR × gR × (Nat → Int32) × (Nat → Int32) × (Nat → Int32)) => f_X6_write rf sz ac sp ou tx nw tr dy kp ik p0 p1 = (v, u)) (fun (u : Int32 × Int32 × Int32 × Int32 × Int32 × (Nat → Int32) × gR × gR × (Nat → Int32) × (Nat → Int32) × (Nat → Int32)) t => va_P D vwCl [(a0, .inr (5, [.int u.1, .ref a1, .int u.2.1, .ref a2, .ref a3, .ref a4, .int u.2.2.1, .ref a5, .ref a6, .int u.2.2.2.1, .int u.2.2.2.2.1])), (a1, .inl (y 0, 120, .inl u.2.2.2.2.2.1)), (a2, .inl (y 0, 78, .inl u.2.2.2.2.2.2.1)), (a3, .inl (y 0, 78, .inl u.2.2.2.2.2.2.2.1)), (a4, .inl (y 0, 1092, .inl u.2.2.2.2.2.2.2.2.1)), (a5, .inl (y 0, 156, .inl u.2.2.2.2.2.2.2.2.2.1)), (a6, .inl (y 2, 2, .inl u.2.2.2.2.2.2.2.2.2.2))] t.heap ∧ va_D (va_A [(a0, .inr (5, [.int rf, .ref a1, .int sz, .ref a2, .ref a3, .ref a4, .int ac, .ref a5, .ref a6, .int sp, .int ou])), (a1, .inl (y 0, 120, .inl tx)), (a2, .inl (y 0, 78, .inl nw)), (a3, .inl (y 0, 78, .inl tr)), (a4, .inl (y 0, 1092, .inl dy)), (a5, .inl (y 0, 156, .inl kp)), (a6, .inl (y 2, 2, .inl ik))] zh) [(a0, .inr (5, [.int u.1, .ref a1, .int u.2.1, .ref a2, .ref a3, .ref a4, .int u.2.2.1, .ref a5, .ref a6, .int u.2.2.2.1, .int u.2.2.2.2.1])), (a1, .inl (y 0, 120, .inl u.2.2.2.2.2.1)), (a2, .inl (y 0, 78, .inl u.2.2.2.2.2.2.1)), (a3, .inl (y 0, 78, .inl u.2.2.2.2.2.2.2.1)), (a4, .inl (y 0, 1092, .inl u.2.2.2.2.2.2.2.2.1)), (a5, .inl (y 0, 156, .inl u.2.2.2.2.2.2.2.2.2.1)), (a6, .inl (y 2, 2, .inl u.2.2.2.2.2.2.2.2.2.2))]) (va_A [(a0, .inr (5, [.int rf, .ref a1, .int sz, .ref a2, .ref a3, .ref a4, .int ac, .ref a5, .ref a6, .int sp, .int ou])), (a1, .inl (y 0, 120, .inl tx)), (a2, .inl (y 0, 78, .inl nw)), (a3, .inl (y 0, 78, .inl tr)), (a4, .inl (y 0, 1092, .inl dy)), (a5, .inl (y 0, 156, .inl kp)), (a6, .inl (y 2, 2, .inl ik))] zh)) 0 0 (va_A [(a0, .inr (5, [.int rf, .ref a1, .int sz, .ref a2, .ref a3, .ref a4, .int ac, .ref a5, .ref a6, .int sp, .int ou])), (a1, .inl (y 0, 120, .inl tx)), (a2, .inl (y 0, 78, .inl nw)), (a3, .inl (y 0, 78, .inl tr)), (a4, .inl (y 0, 1092, .inl dy)), (a5, .inl (y 0, 156, .inl kp)), (a6, .inl (y 2, 2, .inl ik))] zh) := by
  refine Met.ofW (cc := cX6_write) (maxL := 3) (ret := (some .int)) (by decide) rfl ?_
  intro p e s m args below meth c s₁ B hml hv
  obtain ⟨rfl, hsz, hP, hE, hD⟩ := hv
  have hx := B.exec
  have hb := B.bytes
  have hr := B.returns
  have hts := atoms_spec (ws := wsX6_write) B.pre
  have hown : s.vm.findClass RX6 = some m.cls := findClass_of_methodNamed B.named
  have hlocks := B.notSynchronized
  have w_0 := hts (.fieldLink RX6 13 "GapLinesModel" "now" "[I") (List.mem_cons_of_mem _ (List.mem_append_left _ (List.mem_append_left _ (List.mem_of_getElem? (i := 0) rfl))))
  have hi6 : ∀ w ∈ u_ws RX6 TX6 11, w ∈ wsX6_write := fun w h => (List.mem_cons_of_mem _ (List.mem_append_right _ h))
  subst hsz
  have hD := hD.self (sz := s.heap.size)
  generalize hAe : va_A [(a0, .inr (5, [.int rf, .ref a1, .int sz, .ref a2, .ref a3, .ref a4, .int ac, .ref a5, .ref a6, .int sp, .int ou])), (a1, .inl (y 0, 120, .inl tx)), (a2, .inl (y 0, 78, .inl nw)), (a3, .inl (y 0, 78, .inl tr)), (a4, .inl (y 0, 1092, .inl dy)), (a5, .inl (y 0, 156, .inl kp)), (a6, .inl (y 2, 2, .inl ik))] s.heap.size = A at hD ⊢
  have hA : ∀ q : Nat, s.heap.size ≤ q → A q := fun q h => by rw [← hAe]; exact Or.inr h
  have hS : va_S A s.heap s.heap [] := va_S.rf
  have hl := lv_entry ([.ref a0, .int p0, .int p1]) (n := 3) (Nat.le_of_ble_eq_true rfl)
  rw [lg_entry_eq]
  generalize (lg_sl ([.ref a0, .int p0, .int p1]) ++ List.replicate (3 - (lg_sl ([.ref a0, .int p0, .int p1])).length) Slot.unset).toArray = ls at hl ⊢
  have hl : lv_has ls 3 [(0, .ref a0), (1, .int p0), (2, .int p1)] := hl
  have hF := f_X6_write_s rf sz ac sp ou tx nw tr dy kp ik p0 p1
  refine lv_aload_n hx hb dX6_write_0 rfl (lv_at hl 0 rfl) ?_
  refine lv_aload_n hx hb dX6_write_1 rfl (lv_at hl 0 rfl) ?_
  refine va_get (D := D) (ci := 5) (v := .ref a2) (C := RX6) (T := TX6) (N := 11) hx hb hts hi6 hown hE.1 hP 0 rfl rfl 3 (by decide) w_0 (fun _ h9 => h9) rfl dX6_write_2 ?_
  refine lv_iload_n hx hb dX6_write_5 rfl (lv_at hl 1 rfl) ?_
  refine xs_calli (va_runS (As := [.ref a2, .int p0]) (rest := [.ref a0]) ⟨hx, hb, hml, hown, hts⟩ (c_X6_isLine l D y a2 s.heap.size nw p0) (va_cwS 2 hts gX6_write_X6_isLine rfl rfl rfl hd_X6_isLine ⟨Nat.le_of_ble_eq_true rfl, Nat.le_of_ble_eq_true rfl⟩) (gS hE (hP.sub [2] rfl) (hD.sub [2] (by decide) rfl)) rfl rfl hl.1 rfl (lv_room (Nat.le_of_ble_eq_true rfl)) dX6_write_6 ⟨Nat.le_of_ble_eq_true rfl, Nat.le_of_ble_eq_true rfl⟩) (fun v2 h1 => ?_)
  have hF := hF.trans (gLet_e h1)
  refine lv_if_ne (tgt := 16) hx hb dX6_write_9 (by decide) (fun c_3 => ?_) (fun c_3 => ?_)
  · have hF := hF.trans (if_neg c_3)
    refine lv_iload_n hx hb dX6_write_16 rfl (lv_at hl 2 rfl) ?_
    refine xs_calli (va_runS (As := [.int p1]) (rest := [.ref a0]) ⟨hx, hb, hml, hown, hts⟩ (c_X6_isValue l D y s.heap.size p1) (va_cwS 1 hts gX6_write_X6_isValue rfl rfl rfl hd_X6_isValue ⟨Nat.le_of_ble_eq_true rfl, Nat.le_of_ble_eq_true rfl⟩) (gS hE (hP.sub [] rfl) (hD.sub [] (by decide) rfl)) rfl rfl hl.1 rfl (lv_room (Nat.le_of_ble_eq_true rfl)) dX6_write_17 ⟨Nat.le_of_ble_eq_true rfl, Nat.le_of_ble_eq_true rfl⟩) (fun v5 h4 => ?_)
    have hF := hF.trans (gLet_e h4)
    refine lv_if_ne (tgt := 27) hx hb dX6_write_20 (by decide) (fun c_6 => ?_) (fun c_6 => ?_)
    · have hF := hF.trans (if_neg c_6)
      refine lv_aload_n hx hb dX6_write_27 rfl (lv_at hl 0 rfl) ?_
      refine va_get (D := D) (ci := 5) (v := .ref a2) (C := RX6) (T := TX6) (N := 11) hx hb hts hi6 hown hE.1 hP 0 rfl rfl 3 (by decide) w_0 (fun _ h9 => h9) rfl dX6_write_28 ?_
      refine lv_iload_n hx hb dX6_write_31 rfl (lv_at hl 1 rfl) ?_
      refine xs_calli (va_runS (As := [.ref a2, .int p0]) (rest := [.ref a0]) ⟨hx, hb, hml, hown, hts⟩ (c_X6_canWrite l D y a2 s.heap.size nw p0) (va_cwS 2 hts gX6_write_X6_canWrite rfl rfl rfl hd_X6_canWrite ⟨Nat.le_of_ble_eq_true rfl, Nat.le_of_ble_eq_true rfl⟩) (gS hE (hP.sub [2] rfl) (hD.sub [2] (by decide) rfl)) rfl rfl hl.1 rfl (lv_room (Nat.le_of_ble_eq_true rfl)) dX6_write_32 ⟨Nat.le_of_ble_eq_true rfl, Nat.le_of_ble_eq_true rfl⟩) (fun v8 h7 => ?_)
      have hF := hF.trans (gLet_e h7)
      refine lv_if_eq (tgt := 42) hx hb dX6_write_35 (by decide) (fun c_9 => ?_) (fun c_9 => ?_)
      · have hF := hF.trans (if_pos c_9)
        refine lv_iconst (v := 3) hx hb dX6_write_42 (by decide) ?_
        refine xw_calli (va_runV (As := [.int 3]) (rest := []) ⟨hx, hb, hml, hown, hts⟩ (c_X6_refused l D y a0 a1 a2 a3 a4 a5 a6 s.heap.size rf sz ac sp ou 3) (cwV 1 hts gX6_write_X6_refused rfl rfl rfl hd_X6_refused ⟨Nat.le_of_ble_eq_true rfl, Nat.le_of_ble_eq_true rfl⟩) (gV (q := (RX6, TX6, 11)) hE (hP.sub [0] rfl) (hD.sub [0] (by decide) rfl) 0 rfl rfl) rfl rfl hl.1 rfl (lv_room (Nat.le_of_ble_eq_true rfl)) dX6_write_43 ⟨Nat.le_of_ble_eq_true rfl, Nat.le_of_ble_eq_true rfl⟩) hP hD hS hA [0] rfl (by decide) (fun _ => rfl) (fun v12 u11 H locs h10 hP hD hS => ?_)
        have h10 := (rfd3 rf sz ac sp ou).symm.trans h10
        obtain ⟨rfl, rfl⟩ := Prod.mk.inj h10
        have hP : va_P D vwCl [(a0, .inr (5, [.int 3, .ref a1, .int sz, .ref a2, .ref a3, .ref a4, .int ac, .ref a5, .ref a6, .int sp, .int ou])), (a1, .inl (y 0, 120, .inl tx)), (a2, .inl (y 0, 78, .inl nw)), (a3, .inl (y 0, 78, .inl tr)), (a4, .inl (y 0, 1092, .inl dy)), (a5, .inl (y 0, 156, .inl kp)), (a6, .inl (y 2, 2, .inl ik))] H := hP
        have hD : va_D A [(a0, .inr (5, [.int 3, .ref a1, .int sz, .ref a2, .ref a3, .ref a4, .int ac, .ref a5, .ref a6, .int sp, .int ou])), (a1, .inl (y 0, 120, .inl tx)), (a2, .inl (y 0, 78, .inl nw)), (a3, .inl (y 0, 78, .inl tr)), (a4, .inl (y 0, 1092, .inl dy)), (a5, .inl (y 0, 156, .inl kp)), (a6, .inl (y 2, 2, .inl ik))] := hD
        refine lv_if_eq (tgt := 51) hx hb dX6_write_46 (by decide) (fun c_13 => absurd c_13 (by decide)) (fun c_13 => ?_)
        refine lv_iconst (v := 0) hx hb dX6_write_49 (by decide) ?_
        exact W.iret (v := 0) hx hb hr (fun t ht hW => ⟨⟨0, ⟨3, sz, ac, sp, ou, tx, nw, tr, dy, kp, ik⟩, rfl, hF, ⟨by rw [ht]; exact hP, hD⟩⟩, hS.F ht⟩) hS.2.2 dX6_write_50
      · have hF := hF.trans (if_neg c_9)
        refine lv_iconst (v := 0) hx hb dX6_write_38 (by decide) ?_
        refine lv_goto (tgt := 43) hx hb dX6_write_39 (by decide) ?_
        refine xw_calli (va_runV (As := [.int 0]) (rest := []) ⟨hx, hb, hml, hown, hts⟩ (c_X6_refused l D y a0 a1 a2 a3 a4 a5 a6 s.heap.size rf sz ac sp ou 0) (cwV 1 hts gX6_write_X6_refused rfl rfl rfl hd_X6_refused ⟨Nat.le_of_ble_eq_true rfl, Nat.le_of_ble_eq_true rfl⟩) (gV (q := (RX6, TX6, 11)) hE (hP.sub [0] rfl) (hD.sub [0] (by decide) rfl) 0 rfl rfl) rfl rfl hl.1 rfl (lv_room (Nat.le_of_ble_eq_true rfl)) dX6_write_43 ⟨Nat.le_of_ble_eq_true rfl, Nat.le_of_ble_eq_true rfl⟩) hP hD hS hA [0] rfl (by decide) (fun _ => rfl) (fun v16 u15 H locs h14 hP hD hS => ?_)
        have h14 := (rfd0 rf sz ac sp ou).symm.trans h14
        obtain ⟨rfl, rfl⟩ := Prod.mk.inj h14
        have hP : va_P D vwCl [(a0, .inr (5, [.int 0, .ref a1, .int sz, .ref a2, .ref a3, .ref a4, .int ac, .ref a5, .ref a6, .int sp, .int ou])), (a1, .inl (y 0, 120, .inl tx)), (a2, .inl (y 0, 78, .inl nw)), (a3, .inl (y 0, 78, .inl tr)), (a4, .inl (y 0, 1092, .inl dy)), (a5, .inl (y 0, 156, .inl kp)), (a6, .inl (y 2, 2, .inl ik))] H := hP
        have hD : va_D A [(a0, .inr (5, [.int 0, .ref a1, .int sz, .ref a2, .ref a3, .ref a4, .int ac, .ref a5, .ref a6, .int sp, .int ou])), (a1, .inl (y 0, 120, .inl tx)), (a2, .inl (y 0, 78, .inl nw)), (a3, .inl (y 0, 78, .inl tr)), (a4, .inl (y 0, 1092, .inl dy)), (a5, .inl (y 0, 156, .inl kp)), (a6, .inl (y 2, 2, .inl ik))] := hD
        refine lv_if_eq (tgt := 51) hx hb dX6_write_46 (by decide) (fun c_17 => ?_) (fun c_17 => absurd (by decide) c_17)
        refine lv_aload_n hx hb dX6_write_51 rfl (lv_at hl 0 rfl) ?_
        refine xw_callv (va_runV (As := []) (rest := []) ⟨hx, hb, hml, hown, hts⟩ (c_X6_remember l D y a0 a1 a2 a3 a4 a5 a6 H.size 0 sz ac sp ou nw dy hm.2.1) (cwV 0 hts gX6_write_X6_remember rfl rfl rfl hd_X6_remember ⟨Nat.le_of_ble_eq_true rfl, Nat.le_of_ble_eq_true rfl⟩) (gV (q := (RX6, TX6, 11)) hE (hP.sub [0, 2, 4] rfl) (hD.sub [0, 2, 4] (by decide) rfl) 0 rfl rfl) rfl rfl hl.1 rfl (lv_room (Nat.le_of_ble_eq_true rfl)) dX6_write_52 ⟨Nat.le_of_ble_eq_true rfl, Nat.le_of_ble_eq_true rfl⟩) hP hD hS hA [0, 2, 4] rfl (by decide) (fun _ => rfl) (fun u19 H locs h18 hP hD hS => ?_)
        have hF := hF.trans (gLet_e h18)
        have hP : va_P D vwCl [(a0, .inr (5, [.int 0, .ref a1, .int sz, .ref a2, .ref a3, .ref a4, .int u19.1, .ref a5, .ref a6, .int sp, .int ou])), (a1, .inl (y 0, 120, .inl tx)), (a2, .inl (y 0, 78, .inl nw)), (a3, .inl (y 0, 78, .inl tr)), (a4, .inl (y 0, 1092, .inl u19.2)), (a5, .inl (y 0, 156, .inl kp)), (a6, .inl (y 2, 2, .inl ik))] H := hP
        have hD : va_D A [(a0, .inr (5, [.int 0, .ref a1, .int sz, .ref a2, .ref a3, .ref a4, .int u19.1, .ref a5, .ref a6, .int sp, .int ou])), (a1, .inl (y 0, 120, .inl tx)), (a2, .inl (y 0, 78, .inl nw)), (a3, .inl (y 0, 78, .inl tr)), (a4, .inl (y 0, 1092, .inl u19.2)), (a5, .inl (y 0, 156, .inl kp)), (a6, .inl (y 2, 2, .inl ik))] := hD
        refine lv_aload_n hx hb dX6_write_55 rfl (lv_at hl 0 rfl) ?_
        refine va_get (D := D) (ci := 5) (v := .ref a2) (C := RX6) (T := TX6) (N := 11) hx hb hts hi6 hown hE.1 hP 0 rfl rfl 3 (by decide) w_0 (fun _ h9 => h9) rfl dX6_write_56 ?_
        refine lv_iload_n hx hb dX6_write_59 rfl (lv_at hl 1 rfl) ?_
        refine lv_iload_n hx hb dX6_write_60 rfl (lv_at hl 2 rfl) ?_
        refine xw_calli (va_runS (As := [.ref a2, .int p0, .int p1]) (rest := []) ⟨hx, hb, hml, hown, hts⟩ (c_X6_writeOn l D y a2 H.size nw p0 p1 (okM_of hm.2.2 (il_okL (r := nw) (l := p0) h1 (by assumption) hm.2.2.1)) (il_okL (r := nw) (l := p0) h1 (by assumption) hm.2.2.1)) (va_cwS 3 hts gX6_write_X6_writeOn rfl rfl rfl hd_X6_writeOn ⟨Nat.le_of_ble_eq_true rfl, Nat.le_of_ble_eq_true rfl⟩) (gS hE (hP.sub [2] rfl) (hD.sub [2] (by decide) rfl)) rfl rfl hl.1 rfl (lv_room (Nat.le_of_ble_eq_true rfl)) dX6_write_61 ⟨Nat.le_of_ble_eq_true rfl, Nat.le_of_ble_eq_true rfl⟩) hP hD hS hA [2] rfl (by decide) (fun _ => rfl) (fun v22 u21 H locs h20 hP hD hS => ?_)
        obtain ⟨q23, eq23⟩ : ∃ z : Int32 × gR, f_X6_writeOn nw p0 p1 = z := ⟨_, rfl⟩
        obtain ⟨rfl, rfl⟩ : q23.1 = v22 ∧ q23.2 = u21 := ⟨by rw [← eq23, h20], by rw [← eq23, h20]⟩
        have hF := hF.trans (gLet_e eq23)
        have hP : va_P D vwCl [(a0, .inr (5, [.int 0, .ref a1, .int sz, .ref a2, .ref a3, .ref a4, .int u19.1, .ref a5, .ref a6, .int sp, .int ou])), (a1, .inl (y 0, 120, .inl tx)), (a2, .inl (y 0, 78, .inl q23.2)), (a3, .inl (y 0, 78, .inl tr)), (a4, .inl (y 0, 1092, .inl u19.2)), (a5, .inl (y 0, 156, .inl kp)), (a6, .inl (y 2, 2, .inl ik))] H := hP
        have hD : va_D A [(a0, .inr (5, [.int 0, .ref a1, .int sz, .ref a2, .ref a3, .ref a4, .int u19.1, .ref a5, .ref a6, .int sp, .int ou])), (a1, .inl (y 0, 120, .inl tx)), (a2, .inl (y 0, 78, .inl q23.2)), (a3, .inl (y 0, 78, .inl tr)), (a4, .inl (y 0, 1092, .inl u19.2)), (a5, .inl (y 0, 156, .inl kp)), (a6, .inl (y 2, 2, .inl ik))] := hD
        exact W.iret (v := q23.1) hx hb hr (fun t ht hW => ⟨⟨q23.1, ⟨0, sz, u19.1, sp, ou, tx, q23.2, tr, u19.2, kp, ik⟩, rfl, hF, ⟨by rw [ht]; exact hP, hD⟩⟩, hS.F ht⟩) hS.2.2 dX6_write_64
    · have hF := hF.trans (if_pos c_6)
      refine lv_iconst (v := 2) hx hb dX6_write_23 (by decide) ?_
      refine lv_goto (tgt := 43) hx hb dX6_write_24 (by decide) ?_
      refine xw_calli (va_runV (As := [.int 2]) (rest := []) ⟨hx, hb, hml, hown, hts⟩ (c_X6_refused l D y a0 a1 a2 a3 a4 a5 a6 s.heap.size rf sz ac sp ou 2) (cwV 1 hts gX6_write_X6_refused rfl rfl rfl hd_X6_refused ⟨Nat.le_of_ble_eq_true rfl, Nat.le_of_ble_eq_true rfl⟩) (gV (q := (RX6, TX6, 11)) hE (hP.sub [0] rfl) (hD.sub [0] (by decide) rfl) 0 rfl rfl) rfl rfl hl.1 rfl (lv_room (Nat.le_of_ble_eq_true rfl)) dX6_write_43 ⟨Nat.le_of_ble_eq_true rfl, Nat.le_of_ble_eq_true rfl⟩) hP hD hS hA [0] rfl (by decide) (fun _ => rfl) (fun v26 u25 H locs h24 hP hD hS => ?_)
      have h24 := (rfd2 rf sz ac sp ou).symm.trans h24
      obtain ⟨rfl, rfl⟩ := Prod.mk.inj h24
      have hP : va_P D vwCl [(a0, .inr (5, [.int 2, .ref a1, .int sz, .ref a2, .ref a3, .ref a4, .int ac, .ref a5, .ref a6, .int sp, .int ou])), (a1, .inl (y 0, 120, .inl tx)), (a2, .inl (y 0, 78, .inl nw)), (a3, .inl (y 0, 78, .inl tr)), (a4, .inl (y 0, 1092, .inl dy)), (a5, .inl (y 0, 156, .inl kp)), (a6, .inl (y 2, 2, .inl ik))] H := hP
      have hD : va_D A [(a0, .inr (5, [.int 2, .ref a1, .int sz, .ref a2, .ref a3, .ref a4, .int ac, .ref a5, .ref a6, .int sp, .int ou])), (a1, .inl (y 0, 120, .inl tx)), (a2, .inl (y 0, 78, .inl nw)), (a3, .inl (y 0, 78, .inl tr)), (a4, .inl (y 0, 1092, .inl dy)), (a5, .inl (y 0, 156, .inl kp)), (a6, .inl (y 2, 2, .inl ik))] := hD
      refine lv_if_eq (tgt := 51) hx hb dX6_write_46 (by decide) (fun c_27 => absurd c_27 (by decide)) (fun c_27 => ?_)
      refine lv_iconst (v := 0) hx hb dX6_write_49 (by decide) ?_
      exact W.iret (v := 0) hx hb hr (fun t ht hW => ⟨⟨0, ⟨2, sz, ac, sp, ou, tx, nw, tr, dy, kp, ik⟩, rfl, hF, ⟨by rw [ht]; exact hP, hD⟩⟩, hS.F ht⟩) hS.2.2 dX6_write_50
  · have hF := hF.trans (if_pos c_3)
    refine lv_iconst (v := 1) hx hb dX6_write_12 (by decide) ?_
    refine lv_goto (tgt := 43) hx hb dX6_write_13 (by decide) ?_
    refine xw_calli (va_runV (As := [.int 1]) (rest := []) ⟨hx, hb, hml, hown, hts⟩ (c_X6_refused l D y a0 a1 a2 a3 a4 a5 a6 s.heap.size rf sz ac sp ou 1) (cwV 1 hts gX6_write_X6_refused rfl rfl rfl hd_X6_refused ⟨Nat.le_of_ble_eq_true rfl, Nat.le_of_ble_eq_true rfl⟩) (gV (q := (RX6, TX6, 11)) hE (hP.sub [0] rfl) (hD.sub [0] (by decide) rfl) 0 rfl rfl) rfl rfl hl.1 rfl (lv_room (Nat.le_of_ble_eq_true rfl)) dX6_write_43 ⟨Nat.le_of_ble_eq_true rfl, Nat.le_of_ble_eq_true rfl⟩) hP hD hS hA [0] rfl (by decide) (fun _ => rfl) (fun v30 u29 H locs h28 hP hD hS => ?_)
    have h28 := (rfd1 rf sz ac sp ou).symm.trans h28
    obtain ⟨rfl, rfl⟩ := Prod.mk.inj h28
    have hP : va_P D vwCl [(a0, .inr (5, [.int 1, .ref a1, .int sz, .ref a2, .ref a3, .ref a4, .int ac, .ref a5, .ref a6, .int sp, .int ou])), (a1, .inl (y 0, 120, .inl tx)), (a2, .inl (y 0, 78, .inl nw)), (a3, .inl (y 0, 78, .inl tr)), (a4, .inl (y 0, 1092, .inl dy)), (a5, .inl (y 0, 156, .inl kp)), (a6, .inl (y 2, 2, .inl ik))] H := hP
    have hD : va_D A [(a0, .inr (5, [.int 1, .ref a1, .int sz, .ref a2, .ref a3, .ref a4, .int ac, .ref a5, .ref a6, .int sp, .int ou])), (a1, .inl (y 0, 120, .inl tx)), (a2, .inl (y 0, 78, .inl nw)), (a3, .inl (y 0, 78, .inl tr)), (a4, .inl (y 0, 1092, .inl dy)), (a5, .inl (y 0, 156, .inl kp)), (a6, .inl (y 2, 2, .inl ik))] := hD
    refine lv_if_eq (tgt := 51) hx hb dX6_write_46 (by decide) (fun c_31 => absurd c_31 (by decide)) (fun c_31 => ?_)
    refine lv_iconst (v := 0) hx hb dX6_write_49 (by decide) ?_
    exact W.iret (v := 0) hx hb hr (fun t ht hW => ⟨⟨0, ⟨1, sz, ac, sp, ou, tx, nw, tr, dy, kp, ik⟩, rfl, hF, ⟨by rw [ht]; exact hP, hD⟩⟩, hS.F ht⟩) hS.2.2 dX6_write_50

def f_X6_hammer (rf : Int32) (sz : Int32) (ac : Int32) (sp : Int32) (ou : Int32) (tx : Nat → Int32) (nw : gR) (tr : gR) (dy : Nat → Int32) (kp : Nat → Int32) (ik : Nat → Int32) (p0 : Int32) (p1 : Int32) : Int32 × Int32 × Int32 × Int32 × Int32 × Int32 × (Nat → Int32) × gR × gR × (Nat → Int32) × (Nat → Int32) × (Nat → Int32) :=
    gLet (f_X6_isLine nw p0) (fun (v2 : Int32) =>
    if v2 = 0 then
      (0, 1, sz, ac, sp, ou, tx, nw, tr, dy, kp, ik)
    else
      gLet (f_X6_in p1.toInt64 1 500) (fun (v5 : Int32) =>
        if v5 = 0 then
          (0, 2, sz, ac, sp, ou, tx, nw, tr, dy, kp, ik)
        else
          gLet (f_X6_remember 0 sz ac sp ou nw dy) (fun (u16 : Int32 × (Nat → Int32)) =>
            gLet (f_X6_hammerOn nw p0 p1) (fun (q20 : Int32 × gR) =>
              (q20.1, 0, sz, u16.1, sp, ou, tx, q20.2, tr, u16.2, kp, ik)))))
theorem f_X6_hammer_s (rf : Int32) (sz : Int32) (ac : Int32) (sp : Int32) (ou : Int32) (tx : Nat → Int32) (nw : gR) (tr : gR) (dy : Nat → Int32) (kp : Nat → Int32) (ik : Nat → Int32) (p0 : Int32) (p1 : Int32) : f_X6_hammer rf sz ac sp ou tx nw tr dy kp ik p0 p1 =
    (gLet (f_X6_isLine nw p0) (fun (v2 : Int32) =>
    if v2 = 0 then
      (0, 1, sz, ac, sp, ou, tx, nw, tr, dy, kp, ik)
    else
      gLet (f_X6_in p1.toInt64 1 500) (fun (v5 : Int32) =>
        if v5 = 0 then
          (0, 2, sz, ac, sp, ou, tx, nw, tr, dy, kp, ik)
        else
          gLet (f_X6_remember 0 sz ac sp ou nw dy) (fun (u16 : Int32 × (Nat → Int32)) =>
            gLet (f_X6_hammerOn nw p0 p1) (fun (q20 : Int32 × gR) =>
              (q20.1, 0, sz, u16.1, sp, ou, tx, q20.2, tr, u16.2, kp, ik)))))) := rfl
theorem hd_X6_hammer : yX6_hammer.cls = RX6 ∧ yX6_hammer.cls ≠ "java/lang/invoke/MethodHandle" ∧ yX6_hammer.cls ≠ "java/lang/invoke/VarHandle" ∧ (parseMethodDescriptor yX6_hammer.desc).map (fun d => d.parameters.length) = some 2 := by decide +kernel
set_option maxHeartbeats 4000000 in
set_option maxRecDepth 100000 in
theorem c_X6_hammer (l : Launch) (D : va_G) (y : Nat → ClassId) (a0 a1 a2 a3 a4 a5 a6 : Nat) (zh : Nat) (rf : Int32) (sz : Int32) (ac : Int32) (sp : Int32) (ou : Int32) (tx : Nat → Int32) (nw : gR) (tr : gR) (dy : Nat → Int32) (kp : Nat → Int32) (ik : Nat → Int32) (p0 : Int32) (p1 : Int32) (hm : okMd sz ac nw) : Met l yX6_hammer wsX6_hammer ({ frames := 4, cells := 0, slots := 0, locals := 91 }) (gP D y [.ref a0, .int p0, .int p1] zh [(a0, .inr (5, [.int rf, .ref a1, .int sz, .ref a2, .ref a3, .ref a4, .int ac, .ref a5, .ref a6, .int sp, .int ou])), (a1, .inl (y 0, 120, .inl tx)), (a2, .inl (y 0, 78, .inl nw)), (a3, .inl (y 0, 78, .inl tr)), (a4, .inl (y 0, 1092, .inl dy)), (a5, .inl (y 0, 156, .inl kp)), (a6, .inl (y 2, 2, .inl ik))]) (va_Qi (fun (v : Int32) (u : Int32 × Int32 × Int32 × Int32 × Int32 × (Nat → Int32) × gR × gR × (Nat → Int32) × (Nat → Int32) × (Nat → Int32)) => f_X6_hammer rf sz ac sp ou tx nw tr dy kp ik p0 p1 = (v, u)) (fun (u : Int32 × Int32 × Int32 × Int32 × Int32 × (Nat → Int32) × gR × gR × (Nat → Int32) × (Nat → Int32) × (Nat → Int32)) t => va_P D vwCl [(a0, .inr (5, [.int u.1, .ref a1, .int u.2.1, .ref a2, .ref a3, .ref a4, .int u.2.2.1, .ref a5, .ref a6, .int u.2.2.2.1, .int u.2.2.2.2.1])), (a1, .inl (y 0, 120, .inl u.2.2.2.2.2.1)), (a2, .inl (y 0, 78, .inl u.2.2.2.2.2.2.1)), (a3, .inl (y 0, 78, .inl u.2.2.2.2.2.2.2.1)), (a4, .inl (y 0, 1092, .inl u.2.2.2.2.2.2.2.2.1)), (a5, .inl (y 0, 156, .inl u.2.2.2.2.2.2.2.2.2.1)), (a6, .inl (y 2, 2, .inl u.2.2.2.2.2.2.2.2.2.2))] t.heap ∧ va_D (va_A [(a0, .inr (5, [.int rf, .ref a1, .int sz, .ref a2, .ref a3, .ref a4, .int ac, .ref a5, .ref a6, .int sp, .int ou])), (a1, .inl (y 0, 120, .inl tx)), (a2, .inl (y 0, 78, .inl nw)), (a3, .inl (y 0, 78, .inl tr)), (a4, .inl (y 0, 1092, .inl dy)), (a5, .inl (y 0, 156, .inl kp)), (a6, .inl (y 2, 2, .inl ik))] zh) [(a0, .inr (5, [.int u.1, .ref a1, .int u.2.1, .ref a2, .ref a3, .ref a4, .int u.2.2.1, .ref a5, .ref a6, .int u.2.2.2.1, .int u.2.2.2.2.1])), (a1, .inl (y 0, 120, .inl u.2.2.2.2.2.1)), (a2, .inl (y 0, 78, .inl u.2.2.2.2.2.2.1)), (a3, .inl (y 0, 78, .inl u.2.2.2.2.2.2.2.1)), (a4, .inl (y 0, 1092, .inl u.2.2.2.2.2.2.2.2.1)), (a5, .inl (y 0, 156, .inl u.2.2.2.2.2.2.2.2.2.1)), (a6, .inl (y 2, 2, .inl u.2.2.2.2.2.2.2.2.2.2))]) (va_A [(a0, .inr (5, [.int rf, .ref a1, .int sz, .ref a2, .ref a3, .ref a4, .int ac, .ref a5, .ref a6, .int sp, .int ou])), (a1, .inl (y 0, 120, .inl tx)), (a2, .inl (y 0, 78, .inl nw)), (a3, .inl (y 0, 78, .inl tr)), (a4, .inl (y 0, 1092, .inl dy)), (a5, .inl (y 0, 156, .inl kp)), (a6, .inl (y 2, 2, .inl ik))] zh)) 0 0 (va_A [(a0, .inr (5, [.int rf, .ref a1, .int sz, .ref a2, .ref a3, .ref a4, .int ac, .ref a5, .ref a6, .int sp, .int ou])), (a1, .inl (y 0, 120, .inl tx)), (a2, .inl (y 0, 78, .inl nw)), (a3, .inl (y 0, 78, .inl tr)), (a4, .inl (y 0, 1092, .inl dy)), (a5, .inl (y 0, 156, .inl kp)), (a6, .inl (y 2, 2, .inl ik))] zh) := by
  refine Met.ofW (cc := cX6_hammer) (maxL := 3) (ret := (some .int)) (by decide) rfl ?_
  intro p e s m args below meth c s₁ B hml hv
  obtain ⟨rfl, hsz, hP, hE, hD⟩ := hv
  have hx := B.exec
  have hb := B.bytes
  have hr := B.returns
  have hts := atoms_spec (ws := wsX6_hammer) B.pre
  have hown : s.vm.findClass RX6 = some m.cls := findClass_of_methodNamed B.named
  have hlocks := B.notSynchronized
  have w_0 := hts (.fieldLink RX6 13 "GapLinesModel" "now" "[I") (List.mem_cons_of_mem _ (List.mem_append_left _ (List.mem_append_left _ (List.mem_of_getElem? (i := 0) rfl))))
  have hi6 : ∀ w ∈ u_ws RX6 TX6 11, w ∈ wsX6_hammer := fun w h => (List.mem_cons_of_mem _ (List.mem_append_right _ h))
  have w_2 := hts (.constantLong RX6 151 (500)) (List.mem_cons_of_mem _ (List.mem_append_left _ (List.mem_append_left _ (List.mem_of_getElem? (i := 1) rfl))))
  subst hsz
  have hD := hD.self (sz := s.heap.size)
  generalize hAe : va_A [(a0, .inr (5, [.int rf, .ref a1, .int sz, .ref a2, .ref a3, .ref a4, .int ac, .ref a5, .ref a6, .int sp, .int ou])), (a1, .inl (y 0, 120, .inl tx)), (a2, .inl (y 0, 78, .inl nw)), (a3, .inl (y 0, 78, .inl tr)), (a4, .inl (y 0, 1092, .inl dy)), (a5, .inl (y 0, 156, .inl kp)), (a6, .inl (y 2, 2, .inl ik))] s.heap.size = A at hD ⊢
  have hA : ∀ q : Nat, s.heap.size ≤ q → A q := fun q h => by rw [← hAe]; exact Or.inr h
  have hS : va_S A s.heap s.heap [] := va_S.rf
  have hl := lv_entry ([.ref a0, .int p0, .int p1]) (n := 3) (Nat.le_of_ble_eq_true rfl)
  rw [lg_entry_eq]
  generalize (lg_sl ([.ref a0, .int p0, .int p1]) ++ List.replicate (3 - (lg_sl ([.ref a0, .int p0, .int p1])).length) Slot.unset).toArray = ls at hl ⊢
  have hl : lv_has ls 3 [(0, .ref a0), (1, .int p0), (2, .int p1)] := hl
  have hF := f_X6_hammer_s rf sz ac sp ou tx nw tr dy kp ik p0 p1
  refine lv_aload_n hx hb dX6_hammer_0 rfl (lv_at hl 0 rfl) ?_
  refine lv_aload_n hx hb dX6_hammer_1 rfl (lv_at hl 0 rfl) ?_
  refine va_get (D := D) (ci := 5) (v := .ref a2) (C := RX6) (T := TX6) (N := 11) hx hb hts hi6 hown hE.1 hP 0 rfl rfl 3 (by decide) w_0 (fun _ h9 => h9) rfl dX6_hammer_2 ?_
  refine lv_iload_n hx hb dX6_hammer_5 rfl (lv_at hl 1 rfl) ?_
  refine xs_calli (va_runS (As := [.ref a2, .int p0]) (rest := [.ref a0]) ⟨hx, hb, hml, hown, hts⟩ (c_X6_isLine l D y a2 s.heap.size nw p0) (va_cwS 2 hts gX6_hammer_X6_isLine rfl rfl rfl hd_X6_isLine ⟨Nat.le_of_ble_eq_true rfl, Nat.le_of_ble_eq_true rfl⟩) (gS hE (hP.sub [2] rfl) (hD.sub [2] (by decide) rfl)) rfl rfl hl.1 rfl (lv_room (Nat.le_of_ble_eq_true rfl)) dX6_hammer_6 ⟨Nat.le_of_ble_eq_true rfl, Nat.le_of_ble_eq_true rfl⟩) (fun v2 h1 => ?_)
  have hF := hF.trans (gLet_e h1)
  refine lv_if_ne (tgt := 16) hx hb dX6_hammer_9 (by decide) (fun c_3 => ?_) (fun c_3 => ?_)
  · have hF := hF.trans (if_neg c_3)
    refine lv_iload_n hx hb dX6_hammer_16 rfl (lv_at hl 2 rfl) ?_
    refine lv_i2l (v := p1.toInt64) hx hb dX6_hammer_17 rfl ?_
    refine lv_lconst (v := 1) hx hb dX6_hammer_18 (by decide) ?_
    refine lv_ldc2 (v := 500) hx hb hown w_2 dX6_hammer_19 ?_
    refine xs_calli (va_runS (As := [.long p1.toInt64, .long 1, .long 500]) (rest := [.ref a0]) ⟨hx, hb, hml, hown, hts⟩ (c_X6_in l D y s.heap.size p1.toInt64 1 500) (va_cwS 3 hts gX6_hammer_X6_in rfl rfl rfl hd_X6_in ⟨Nat.le_of_ble_eq_true rfl, Nat.le_of_ble_eq_true rfl⟩) (gS hE (hP.sub [] rfl) (hD.sub [] (by decide) rfl)) rfl rfl hl.1 rfl (lv_room (Nat.le_of_ble_eq_true rfl)) dX6_hammer_22 ⟨Nat.le_of_ble_eq_true rfl, Nat.le_of_ble_eq_true rfl⟩) (fun v5 h4 => ?_)
    have hF := hF.trans (gLet_e h4)
    refine lv_if_eq (tgt := 32) hx hb dX6_hammer_25 (by decide) (fun c_6 => ?_) (fun c_6 => ?_)
    · have hF := hF.trans (if_pos c_6)
      refine lv_iconst (v := 2) hx hb dX6_hammer_32 (by decide) ?_
      refine xw_calli (va_runV (As := [.int 2]) (rest := []) ⟨hx, hb, hml, hown, hts⟩ (c_X6_refused l D y a0 a1 a2 a3 a4 a5 a6 s.heap.size rf sz ac sp ou 2) (cwV 1 hts gX6_hammer_X6_refused rfl rfl rfl hd_X6_refused ⟨Nat.le_of_ble_eq_true rfl, Nat.le_of_ble_eq_true rfl⟩) (gV (q := (RX6, TX6, 11)) hE (hP.sub [0] rfl) (hD.sub [0] (by decide) rfl) 0 rfl rfl) rfl rfl hl.1 rfl (lv_room (Nat.le_of_ble_eq_true rfl)) dX6_hammer_33 ⟨Nat.le_of_ble_eq_true rfl, Nat.le_of_ble_eq_true rfl⟩) hP hD hS hA [0] rfl (by decide) (fun _ => rfl) (fun v9 u8 H locs h7 hP hD hS => ?_)
      have h7 := (rfd2 rf sz ac sp ou).symm.trans h7
      obtain ⟨rfl, rfl⟩ := Prod.mk.inj h7
      have hP : va_P D vwCl [(a0, .inr (5, [.int 2, .ref a1, .int sz, .ref a2, .ref a3, .ref a4, .int ac, .ref a5, .ref a6, .int sp, .int ou])), (a1, .inl (y 0, 120, .inl tx)), (a2, .inl (y 0, 78, .inl nw)), (a3, .inl (y 0, 78, .inl tr)), (a4, .inl (y 0, 1092, .inl dy)), (a5, .inl (y 0, 156, .inl kp)), (a6, .inl (y 2, 2, .inl ik))] H := hP
      have hD : va_D A [(a0, .inr (5, [.int 2, .ref a1, .int sz, .ref a2, .ref a3, .ref a4, .int ac, .ref a5, .ref a6, .int sp, .int ou])), (a1, .inl (y 0, 120, .inl tx)), (a2, .inl (y 0, 78, .inl nw)), (a3, .inl (y 0, 78, .inl tr)), (a4, .inl (y 0, 1092, .inl dy)), (a5, .inl (y 0, 156, .inl kp)), (a6, .inl (y 2, 2, .inl ik))] := hD
      refine lv_if_eq (tgt := 41) hx hb dX6_hammer_36 (by decide) (fun c_10 => absurd c_10 (by decide)) (fun c_10 => ?_)
      refine lv_iconst (v := 0) hx hb dX6_hammer_39 (by decide) ?_
      exact W.iret (v := 0) hx hb hr (fun t ht hW => ⟨⟨0, ⟨2, sz, ac, sp, ou, tx, nw, tr, dy, kp, ik⟩, rfl, hF, ⟨by rw [ht]; exact hP, hD⟩⟩, hS.F ht⟩) hS.2.2 dX6_hammer_40
    · have hF := hF.trans (if_neg c_6)
      refine lv_iconst (v := 0) hx hb dX6_hammer_28 (by decide) ?_
      refine lv_goto (tgt := 33) hx hb dX6_hammer_29 (by decide) ?_
      refine xw_calli (va_runV (As := [.int 0]) (rest := []) ⟨hx, hb, hml, hown, hts⟩ (c_X6_refused l D y a0 a1 a2 a3 a4 a5 a6 s.heap.size rf sz ac sp ou 0) (cwV 1 hts gX6_hammer_X6_refused rfl rfl rfl hd_X6_refused ⟨Nat.le_of_ble_eq_true rfl, Nat.le_of_ble_eq_true rfl⟩) (gV (q := (RX6, TX6, 11)) hE (hP.sub [0] rfl) (hD.sub [0] (by decide) rfl) 0 rfl rfl) rfl rfl hl.1 rfl (lv_room (Nat.le_of_ble_eq_true rfl)) dX6_hammer_33 ⟨Nat.le_of_ble_eq_true rfl, Nat.le_of_ble_eq_true rfl⟩) hP hD hS hA [0] rfl (by decide) (fun _ => rfl) (fun v13 u12 H locs h11 hP hD hS => ?_)
      have h11 := (rfd0 rf sz ac sp ou).symm.trans h11
      obtain ⟨rfl, rfl⟩ := Prod.mk.inj h11
      have hP : va_P D vwCl [(a0, .inr (5, [.int 0, .ref a1, .int sz, .ref a2, .ref a3, .ref a4, .int ac, .ref a5, .ref a6, .int sp, .int ou])), (a1, .inl (y 0, 120, .inl tx)), (a2, .inl (y 0, 78, .inl nw)), (a3, .inl (y 0, 78, .inl tr)), (a4, .inl (y 0, 1092, .inl dy)), (a5, .inl (y 0, 156, .inl kp)), (a6, .inl (y 2, 2, .inl ik))] H := hP
      have hD : va_D A [(a0, .inr (5, [.int 0, .ref a1, .int sz, .ref a2, .ref a3, .ref a4, .int ac, .ref a5, .ref a6, .int sp, .int ou])), (a1, .inl (y 0, 120, .inl tx)), (a2, .inl (y 0, 78, .inl nw)), (a3, .inl (y 0, 78, .inl tr)), (a4, .inl (y 0, 1092, .inl dy)), (a5, .inl (y 0, 156, .inl kp)), (a6, .inl (y 2, 2, .inl ik))] := hD
      refine lv_if_eq (tgt := 41) hx hb dX6_hammer_36 (by decide) (fun c_14 => ?_) (fun c_14 => absurd (by decide) c_14)
      refine lv_aload_n hx hb dX6_hammer_41 rfl (lv_at hl 0 rfl) ?_
      refine xw_callv (va_runV (As := []) (rest := []) ⟨hx, hb, hml, hown, hts⟩ (c_X6_remember l D y a0 a1 a2 a3 a4 a5 a6 H.size 0 sz ac sp ou nw dy hm.2.1) (cwV 0 hts gX6_hammer_X6_remember rfl rfl rfl hd_X6_remember ⟨Nat.le_of_ble_eq_true rfl, Nat.le_of_ble_eq_true rfl⟩) (gV (q := (RX6, TX6, 11)) hE (hP.sub [0, 2, 4] rfl) (hD.sub [0, 2, 4] (by decide) rfl) 0 rfl rfl) rfl rfl hl.1 rfl (lv_room (Nat.le_of_ble_eq_true rfl)) dX6_hammer_42 ⟨Nat.le_of_ble_eq_true rfl, Nat.le_of_ble_eq_true rfl⟩) hP hD hS hA [0, 2, 4] rfl (by decide) (fun _ => rfl) (fun u16 H locs h15 hP hD hS => ?_)
      have hF := hF.trans (gLet_e h15)
      have hP : va_P D vwCl [(a0, .inr (5, [.int 0, .ref a1, .int sz, .ref a2, .ref a3, .ref a4, .int u16.1, .ref a5, .ref a6, .int sp, .int ou])), (a1, .inl (y 0, 120, .inl tx)), (a2, .inl (y 0, 78, .inl nw)), (a3, .inl (y 0, 78, .inl tr)), (a4, .inl (y 0, 1092, .inl u16.2)), (a5, .inl (y 0, 156, .inl kp)), (a6, .inl (y 2, 2, .inl ik))] H := hP
      have hD : va_D A [(a0, .inr (5, [.int 0, .ref a1, .int sz, .ref a2, .ref a3, .ref a4, .int u16.1, .ref a5, .ref a6, .int sp, .int ou])), (a1, .inl (y 0, 120, .inl tx)), (a2, .inl (y 0, 78, .inl nw)), (a3, .inl (y 0, 78, .inl tr)), (a4, .inl (y 0, 1092, .inl u16.2)), (a5, .inl (y 0, 156, .inl kp)), (a6, .inl (y 2, 2, .inl ik))] := hD
      refine lv_aload_n hx hb dX6_hammer_45 rfl (lv_at hl 0 rfl) ?_
      refine va_get (D := D) (ci := 5) (v := .ref a2) (C := RX6) (T := TX6) (N := 11) hx hb hts hi6 hown hE.1 hP 0 rfl rfl 3 (by decide) w_0 (fun _ h9 => h9) rfl dX6_hammer_46 ?_
      refine lv_iload_n hx hb dX6_hammer_49 rfl (lv_at hl 1 rfl) ?_
      refine lv_iload_n hx hb dX6_hammer_50 rfl (lv_at hl 2 rfl) ?_
      refine xw_calli (va_runS (As := [.ref a2, .int p0, .int p1]) (rest := []) ⟨hx, hb, hml, hown, hts⟩ (c_X6_hammerOn l D y a2 H.size nw p0 p1 (okM_of hm.2.2 (il_okL (r := nw) (l := p0) h1 (by assumption) hm.2.2.1)) (il_okL (r := nw) (l := p0) h1 (by assumption) hm.2.2.1)) (va_cwS 3 hts gX6_hammer_X6_hammerOn rfl rfl rfl hd_X6_hammerOn ⟨Nat.le_of_ble_eq_true rfl, Nat.le_of_ble_eq_true rfl⟩) (gS hE (hP.sub [2] rfl) (hD.sub [2] (by decide) rfl)) rfl rfl hl.1 rfl (lv_room (Nat.le_of_ble_eq_true rfl)) dX6_hammer_51 ⟨Nat.le_of_ble_eq_true rfl, Nat.le_of_ble_eq_true rfl⟩) hP hD hS hA [2] rfl (by decide) (fun _ => rfl) (fun v19 u18 H locs h17 hP hD hS => ?_)
      obtain ⟨q20, eq20⟩ : ∃ z : Int32 × gR, f_X6_hammerOn nw p0 p1 = z := ⟨_, rfl⟩
      obtain ⟨rfl, rfl⟩ : q20.1 = v19 ∧ q20.2 = u18 := ⟨by rw [← eq20, h17], by rw [← eq20, h17]⟩
      have hF := hF.trans (gLet_e eq20)
      have hP : va_P D vwCl [(a0, .inr (5, [.int 0, .ref a1, .int sz, .ref a2, .ref a3, .ref a4, .int u16.1, .ref a5, .ref a6, .int sp, .int ou])), (a1, .inl (y 0, 120, .inl tx)), (a2, .inl (y 0, 78, .inl q20.2)), (a3, .inl (y 0, 78, .inl tr)), (a4, .inl (y 0, 1092, .inl u16.2)), (a5, .inl (y 0, 156, .inl kp)), (a6, .inl (y 2, 2, .inl ik))] H := hP
      have hD : va_D A [(a0, .inr (5, [.int 0, .ref a1, .int sz, .ref a2, .ref a3, .ref a4, .int u16.1, .ref a5, .ref a6, .int sp, .int ou])), (a1, .inl (y 0, 120, .inl tx)), (a2, .inl (y 0, 78, .inl q20.2)), (a3, .inl (y 0, 78, .inl tr)), (a4, .inl (y 0, 1092, .inl u16.2)), (a5, .inl (y 0, 156, .inl kp)), (a6, .inl (y 2, 2, .inl ik))] := hD
      exact W.iret (v := q20.1) hx hb hr (fun t ht hW => ⟨⟨q20.1, ⟨0, sz, u16.1, sp, ou, tx, q20.2, tr, u16.2, kp, ik⟩, rfl, hF, ⟨by rw [ht]; exact hP, hD⟩⟩, hS.F ht⟩) hS.2.2 dX6_hammer_54
  · have hF := hF.trans (if_pos c_3)
    refine lv_iconst (v := 1) hx hb dX6_hammer_12 (by decide) ?_
    refine lv_goto (tgt := 33) hx hb dX6_hammer_13 (by decide) ?_
    refine xw_calli (va_runV (As := [.int 1]) (rest := []) ⟨hx, hb, hml, hown, hts⟩ (c_X6_refused l D y a0 a1 a2 a3 a4 a5 a6 s.heap.size rf sz ac sp ou 1) (cwV 1 hts gX6_hammer_X6_refused rfl rfl rfl hd_X6_refused ⟨Nat.le_of_ble_eq_true rfl, Nat.le_of_ble_eq_true rfl⟩) (gV (q := (RX6, TX6, 11)) hE (hP.sub [0] rfl) (hD.sub [0] (by decide) rfl) 0 rfl rfl) rfl rfl hl.1 rfl (lv_room (Nat.le_of_ble_eq_true rfl)) dX6_hammer_33 ⟨Nat.le_of_ble_eq_true rfl, Nat.le_of_ble_eq_true rfl⟩) hP hD hS hA [0] rfl (by decide) (fun _ => rfl) (fun v23 u22 H locs h21 hP hD hS => ?_)
    have h21 := (rfd1 rf sz ac sp ou).symm.trans h21
    obtain ⟨rfl, rfl⟩ := Prod.mk.inj h21
    have hP : va_P D vwCl [(a0, .inr (5, [.int 1, .ref a1, .int sz, .ref a2, .ref a3, .ref a4, .int ac, .ref a5, .ref a6, .int sp, .int ou])), (a1, .inl (y 0, 120, .inl tx)), (a2, .inl (y 0, 78, .inl nw)), (a3, .inl (y 0, 78, .inl tr)), (a4, .inl (y 0, 1092, .inl dy)), (a5, .inl (y 0, 156, .inl kp)), (a6, .inl (y 2, 2, .inl ik))] H := hP
    have hD : va_D A [(a0, .inr (5, [.int 1, .ref a1, .int sz, .ref a2, .ref a3, .ref a4, .int ac, .ref a5, .ref a6, .int sp, .int ou])), (a1, .inl (y 0, 120, .inl tx)), (a2, .inl (y 0, 78, .inl nw)), (a3, .inl (y 0, 78, .inl tr)), (a4, .inl (y 0, 1092, .inl dy)), (a5, .inl (y 0, 156, .inl kp)), (a6, .inl (y 2, 2, .inl ik))] := hD
    refine lv_if_eq (tgt := 41) hx hb dX6_hammer_36 (by decide) (fun c_24 => absurd c_24 (by decide)) (fun c_24 => ?_)
    refine lv_iconst (v := 0) hx hb dX6_hammer_39 (by decide) ?_
    exact W.iret (v := 0) hx hb hr (fun t ht hW => ⟨⟨0, ⟨1, sz, ac, sp, ou, tx, nw, tr, dy, kp, ik⟩, rfl, hF, ⟨by rw [ht]; exact hP, hD⟩⟩, hS.F ht⟩) hS.2.2 dX6_hammer_40

def f_X6_all (rf : Int32) (sz : Int32) (ac : Int32) (sp : Int32) (ou : Int32) (tx : Nat → Int32) (nw : gR) (tr : gR) (dy : Nat → Int32) (kp : Nat → Int32) (ik : Nat → Int32) (p0 : Int32) : Int32 × Int32 × Int32 × Int32 × Int32 × Int32 × (Nat → Int32) × gR × gR × (Nat → Int32) × (Nat → Int32) × (Nat → Int32) :=
    gLet (f_X6_in p0.toInt64 1 50) (fun (v2 : Int32) =>
    if v2 = 0 then
      (0, 1, sz, ac, sp, ou, tx, nw, tr, dy, kp, ik)
    else
      if (nw 0) ≤ 0 then
        (0, 2, sz, ac, sp, ou, tx, nw, tr, dy, kp, ik)
      else
        gLet (f_X6_remember 0 sz ac sp ou nw dy) (fun (u14 : Int32 × (Nat → Int32)) =>
          gLet (f_X6_allOn nw (p0 * (nw 0))) (fun (q18 : Int32 × gR) =>
            (q18.1, 0, sz, u14.1, sp, ou, tx, q18.2, tr, u14.2, kp, ik))))
theorem f_X6_all_s (rf : Int32) (sz : Int32) (ac : Int32) (sp : Int32) (ou : Int32) (tx : Nat → Int32) (nw : gR) (tr : gR) (dy : Nat → Int32) (kp : Nat → Int32) (ik : Nat → Int32) (p0 : Int32) : f_X6_all rf sz ac sp ou tx nw tr dy kp ik p0 =
    (gLet (f_X6_in p0.toInt64 1 50) (fun (v2 : Int32) =>
    if v2 = 0 then
      (0, 1, sz, ac, sp, ou, tx, nw, tr, dy, kp, ik)
    else
      if (nw 0) ≤ 0 then
        (0, 2, sz, ac, sp, ou, tx, nw, tr, dy, kp, ik)
      else
        gLet (f_X6_remember 0 sz ac sp ou nw dy) (fun (u14 : Int32 × (Nat → Int32)) =>
          gLet (f_X6_allOn nw (p0 * (nw 0))) (fun (q18 : Int32 × gR) =>
            (q18.1, 0, sz, u14.1, sp, ou, tx, q18.2, tr, u14.2, kp, ik))))) := rfl
theorem hd_X6_all : yX6_all.cls = RX6 ∧ yX6_all.cls ≠ "java/lang/invoke/MethodHandle" ∧ yX6_all.cls ≠ "java/lang/invoke/VarHandle" ∧ (parseMethodDescriptor yX6_all.desc).map (fun d => d.parameters.length) = some 1 := by decide +kernel
set_option maxHeartbeats 4000000 in
set_option maxRecDepth 100000 in
theorem c_X6_all (l : Launch) (D : va_G) (y : Nat → ClassId) (a0 a1 a2 a3 a4 a5 a6 : Nat) (zh : Nat) (rf : Int32) (sz : Int32) (ac : Int32) (sp : Int32) (ou : Int32) (tx : Nat → Int32) (nw : gR) (tr : gR) (dy : Nat → Int32) (kp : Nat → Int32) (ik : Nat → Int32) (p0 : Int32) (hm : okMd sz ac nw) : Met l yX6_all wsX6_all ({ frames := 4, cells := 0, slots := 0, locals := 91 }) (gP D y [.ref a0, .int p0] zh [(a0, .inr (5, [.int rf, .ref a1, .int sz, .ref a2, .ref a3, .ref a4, .int ac, .ref a5, .ref a6, .int sp, .int ou])), (a1, .inl (y 0, 120, .inl tx)), (a2, .inl (y 0, 78, .inl nw)), (a3, .inl (y 0, 78, .inl tr)), (a4, .inl (y 0, 1092, .inl dy)), (a5, .inl (y 0, 156, .inl kp)), (a6, .inl (y 2, 2, .inl ik))]) (va_Qi (fun (v : Int32) (u : Int32 × Int32 × Int32 × Int32 × Int32 × (Nat → Int32) × gR × gR × (Nat → Int32) × (Nat → Int32) × (Nat → Int32)) => f_X6_all rf sz ac sp ou tx nw tr dy kp ik p0 = (v, u)) (fun (u : Int32 × Int32 × Int32 × Int32 × Int32 × (Nat → Int32) × gR × gR × (Nat → Int32) × (Nat → Int32) × (Nat → Int32)) t => va_P D vwCl [(a0, .inr (5, [.int u.1, .ref a1, .int u.2.1, .ref a2, .ref a3, .ref a4, .int u.2.2.1, .ref a5, .ref a6, .int u.2.2.2.1, .int u.2.2.2.2.1])), (a1, .inl (y 0, 120, .inl u.2.2.2.2.2.1)), (a2, .inl (y 0, 78, .inl u.2.2.2.2.2.2.1)), (a3, .inl (y 0, 78, .inl u.2.2.2.2.2.2.2.1)), (a4, .inl (y 0, 1092, .inl u.2.2.2.2.2.2.2.2.1)), (a5, .inl (y 0, 156, .inl u.2.2.2.2.2.2.2.2.2.1)), (a6, .inl (y 2, 2, .inl u.2.2.2.2.2.2.2.2.2.2))] t.heap ∧ va_D (va_A [(a0, .inr (5, [.int rf, .ref a1, .int sz, .ref a2, .ref a3, .ref a4, .int ac, .ref a5, .ref a6, .int sp, .int ou])), (a1, .inl (y 0, 120, .inl tx)), (a2, .inl (y 0, 78, .inl nw)), (a3, .inl (y 0, 78, .inl tr)), (a4, .inl (y 0, 1092, .inl dy)), (a5, .inl (y 0, 156, .inl kp)), (a6, .inl (y 2, 2, .inl ik))] zh) [(a0, .inr (5, [.int u.1, .ref a1, .int u.2.1, .ref a2, .ref a3, .ref a4, .int u.2.2.1, .ref a5, .ref a6, .int u.2.2.2.1, .int u.2.2.2.2.1])), (a1, .inl (y 0, 120, .inl u.2.2.2.2.2.1)), (a2, .inl (y 0, 78, .inl u.2.2.2.2.2.2.1)), (a3, .inl (y 0, 78, .inl u.2.2.2.2.2.2.2.1)), (a4, .inl (y 0, 1092, .inl u.2.2.2.2.2.2.2.2.1)), (a5, .inl (y 0, 156, .inl u.2.2.2.2.2.2.2.2.2.1)), (a6, .inl (y 2, 2, .inl u.2.2.2.2.2.2.2.2.2.2))]) (va_A [(a0, .inr (5, [.int rf, .ref a1, .int sz, .ref a2, .ref a3, .ref a4, .int ac, .ref a5, .ref a6, .int sp, .int ou])), (a1, .inl (y 0, 120, .inl tx)), (a2, .inl (y 0, 78, .inl nw)), (a3, .inl (y 0, 78, .inl tr)), (a4, .inl (y 0, 1092, .inl dy)), (a5, .inl (y 0, 156, .inl kp)), (a6, .inl (y 2, 2, .inl ik))] zh)) 0 0 (va_A [(a0, .inr (5, [.int rf, .ref a1, .int sz, .ref a2, .ref a3, .ref a4, .int ac, .ref a5, .ref a6, .int sp, .int ou])), (a1, .inl (y 0, 120, .inl tx)), (a2, .inl (y 0, 78, .inl nw)), (a3, .inl (y 0, 78, .inl tr)), (a4, .inl (y 0, 1092, .inl dy)), (a5, .inl (y 0, 156, .inl kp)), (a6, .inl (y 2, 2, .inl ik))] zh) := by
  refine Met.ofW (cc := cX6_all) (maxL := 2) (ret := (some .int)) (by decide) rfl ?_
  intro p e s m args below meth c s₁ B hml hv
  obtain ⟨rfl, hsz, hP, hE, hD⟩ := hv
  have hx := B.exec
  have hb := B.bytes
  have hr := B.returns
  have hts := atoms_spec (ws := wsX6_all) B.pre
  have hown : s.vm.findClass RX6 = some m.cls := findClass_of_methodNamed B.named
  have hlocks := B.notSynchronized
  have w_0 := hts (.constantLong RX6 76 (50)) (List.mem_cons_of_mem _ (List.mem_append_left _ (List.mem_append_left _ (List.mem_of_getElem? (i := 0) rfl))))
  have w_1 := hts (.fieldLink RX6 13 "GapLinesModel" "now" "[I") (List.mem_cons_of_mem _ (List.mem_append_left _ (List.mem_append_left _ (List.mem_of_getElem? (i := 1) rfl))))
  have hi6 : ∀ w ∈ u_ws RX6 TX6 11, w ∈ wsX6_all := fun w h => (List.mem_cons_of_mem _ (List.mem_append_right _ h))
  subst hsz
  have hD := hD.self (sz := s.heap.size)
  generalize hAe : va_A [(a0, .inr (5, [.int rf, .ref a1, .int sz, .ref a2, .ref a3, .ref a4, .int ac, .ref a5, .ref a6, .int sp, .int ou])), (a1, .inl (y 0, 120, .inl tx)), (a2, .inl (y 0, 78, .inl nw)), (a3, .inl (y 0, 78, .inl tr)), (a4, .inl (y 0, 1092, .inl dy)), (a5, .inl (y 0, 156, .inl kp)), (a6, .inl (y 2, 2, .inl ik))] s.heap.size = A at hD ⊢
  have hA : ∀ q : Nat, s.heap.size ≤ q → A q := fun q h => by rw [← hAe]; exact Or.inr h
  have hS : va_S A s.heap s.heap [] := va_S.rf
  have hl := lv_entry ([.ref a0, .int p0]) (n := 2) (Nat.le_of_ble_eq_true rfl)
  rw [lg_entry_eq]
  generalize (lg_sl ([.ref a0, .int p0]) ++ List.replicate (2 - (lg_sl ([.ref a0, .int p0])).length) Slot.unset).toArray = ls at hl ⊢
  have hl : lv_has ls 2 [(0, .ref a0), (1, .int p0)] := hl
  have hF := f_X6_all_s rf sz ac sp ou tx nw tr dy kp ik p0
  refine lv_aload_n hx hb dX6_all_0 rfl (lv_at hl 0 rfl) ?_
  refine lv_iload_n hx hb dX6_all_1 rfl (lv_at hl 1 rfl) ?_
  refine lv_i2l (v := p0.toInt64) hx hb dX6_all_2 rfl ?_
  refine lv_lconst (v := 1) hx hb dX6_all_3 (by decide) ?_
  refine lv_ldc2 (v := 50) hx hb hown w_0 dX6_all_4 ?_
  refine xs_calli (va_runS (As := [.long p0.toInt64, .long 1, .long 50]) (rest := [.ref a0]) ⟨hx, hb, hml, hown, hts⟩ (c_X6_in l D y s.heap.size p0.toInt64 1 50) (va_cwS 3 hts gX6_all_X6_in rfl rfl rfl hd_X6_in ⟨Nat.le_of_ble_eq_true rfl, Nat.le_of_ble_eq_true rfl⟩) (gS hE (hP.sub [] rfl) (hD.sub [] (by decide) rfl)) rfl rfl hl.1 rfl (lv_room (Nat.le_of_ble_eq_true rfl)) dX6_all_7 ⟨Nat.le_of_ble_eq_true rfl, Nat.le_of_ble_eq_true rfl⟩) (fun v2 h1 => ?_)
  have hF := hF.trans (gLet_e h1)
  refine lv_if_ne (tgt := 17) hx hb dX6_all_10 (by decide) (fun c_3 => ?_) (fun c_3 => ?_)
  · have hF := hF.trans (if_neg c_3)
    refine lv_aload_n hx hb dX6_all_17 rfl (lv_at hl 0 rfl) ?_
    refine va_get (D := D) (ci := 5) (v := .ref a2) (C := RX6) (T := TX6) (N := 11) hx hb hts hi6 hown hE.1 hP 0 rfl rfl 3 (by decide) w_1 (fun _ h9 => h9) rfl dX6_all_18 ?_
    refine lv_iconst (v := 0) hx hb dX6_all_21 (by decide) ?_
    refine xa_iald (k := 0) (v := nw 0) hx hb hE.1 hP 2 0 rfl rfl (xin (by decide)) rfl rfl dX6_all_22 ?_
    refine lv_if_le (tgt := 30) hx hb dX6_all_23 (by decide) (fun c_4 => ?_) (fun c_4 => ?_)
    · have hF := hF.trans (if_pos c_4)
      refine lv_iconst (v := 2) hx hb dX6_all_30 (by decide) ?_
      refine xw_calli (va_runV (As := [.int 2]) (rest := []) ⟨hx, hb, hml, hown, hts⟩ (c_X6_refused l D y a0 a1 a2 a3 a4 a5 a6 s.heap.size rf sz ac sp ou 2) (cwV 1 hts gX6_all_X6_refused rfl rfl rfl hd_X6_refused ⟨Nat.le_of_ble_eq_true rfl, Nat.le_of_ble_eq_true rfl⟩) (gV (q := (RX6, TX6, 11)) hE (hP.sub [0] rfl) (hD.sub [0] (by decide) rfl) 0 rfl rfl) rfl rfl hl.1 rfl (lv_room (Nat.le_of_ble_eq_true rfl)) dX6_all_31 ⟨Nat.le_of_ble_eq_true rfl, Nat.le_of_ble_eq_true rfl⟩) hP hD hS hA [0] rfl (by decide) (fun _ => rfl) (fun v7 u6 H locs h5 hP hD hS => ?_)
      have h5 := (rfd2 rf sz ac sp ou).symm.trans h5
      obtain ⟨rfl, rfl⟩ := Prod.mk.inj h5
      have hP : va_P D vwCl [(a0, .inr (5, [.int 2, .ref a1, .int sz, .ref a2, .ref a3, .ref a4, .int ac, .ref a5, .ref a6, .int sp, .int ou])), (a1, .inl (y 0, 120, .inl tx)), (a2, .inl (y 0, 78, .inl nw)), (a3, .inl (y 0, 78, .inl tr)), (a4, .inl (y 0, 1092, .inl dy)), (a5, .inl (y 0, 156, .inl kp)), (a6, .inl (y 2, 2, .inl ik))] H := hP
      have hD : va_D A [(a0, .inr (5, [.int 2, .ref a1, .int sz, .ref a2, .ref a3, .ref a4, .int ac, .ref a5, .ref a6, .int sp, .int ou])), (a1, .inl (y 0, 120, .inl tx)), (a2, .inl (y 0, 78, .inl nw)), (a3, .inl (y 0, 78, .inl tr)), (a4, .inl (y 0, 1092, .inl dy)), (a5, .inl (y 0, 156, .inl kp)), (a6, .inl (y 2, 2, .inl ik))] := hD
      refine lv_if_eq (tgt := 39) hx hb dX6_all_34 (by decide) (fun c_8 => absurd c_8 (by decide)) (fun c_8 => ?_)
      refine lv_iconst (v := 0) hx hb dX6_all_37 (by decide) ?_
      exact W.iret (v := 0) hx hb hr (fun t ht hW => ⟨⟨0, ⟨2, sz, ac, sp, ou, tx, nw, tr, dy, kp, ik⟩, rfl, hF, ⟨by rw [ht]; exact hP, hD⟩⟩, hS.F ht⟩) hS.2.2 dX6_all_38
    · have hF := hF.trans (if_neg c_4)
      refine lv_iconst (v := 0) hx hb dX6_all_26 (by decide) ?_
      refine lv_goto (tgt := 31) hx hb dX6_all_27 (by decide) ?_
      refine xw_calli (va_runV (As := [.int 0]) (rest := []) ⟨hx, hb, hml, hown, hts⟩ (c_X6_refused l D y a0 a1 a2 a3 a4 a5 a6 s.heap.size rf sz ac sp ou 0) (cwV 1 hts gX6_all_X6_refused rfl rfl rfl hd_X6_refused ⟨Nat.le_of_ble_eq_true rfl, Nat.le_of_ble_eq_true rfl⟩) (gV (q := (RX6, TX6, 11)) hE (hP.sub [0] rfl) (hD.sub [0] (by decide) rfl) 0 rfl rfl) rfl rfl hl.1 rfl (lv_room (Nat.le_of_ble_eq_true rfl)) dX6_all_31 ⟨Nat.le_of_ble_eq_true rfl, Nat.le_of_ble_eq_true rfl⟩) hP hD hS hA [0] rfl (by decide) (fun _ => rfl) (fun v11 u10 H locs h9 hP hD hS => ?_)
      have h9 := (rfd0 rf sz ac sp ou).symm.trans h9
      obtain ⟨rfl, rfl⟩ := Prod.mk.inj h9
      have hP : va_P D vwCl [(a0, .inr (5, [.int 0, .ref a1, .int sz, .ref a2, .ref a3, .ref a4, .int ac, .ref a5, .ref a6, .int sp, .int ou])), (a1, .inl (y 0, 120, .inl tx)), (a2, .inl (y 0, 78, .inl nw)), (a3, .inl (y 0, 78, .inl tr)), (a4, .inl (y 0, 1092, .inl dy)), (a5, .inl (y 0, 156, .inl kp)), (a6, .inl (y 2, 2, .inl ik))] H := hP
      have hD : va_D A [(a0, .inr (5, [.int 0, .ref a1, .int sz, .ref a2, .ref a3, .ref a4, .int ac, .ref a5, .ref a6, .int sp, .int ou])), (a1, .inl (y 0, 120, .inl tx)), (a2, .inl (y 0, 78, .inl nw)), (a3, .inl (y 0, 78, .inl tr)), (a4, .inl (y 0, 1092, .inl dy)), (a5, .inl (y 0, 156, .inl kp)), (a6, .inl (y 2, 2, .inl ik))] := hD
      refine lv_if_eq (tgt := 39) hx hb dX6_all_34 (by decide) (fun c_12 => ?_) (fun c_12 => absurd (by decide) c_12)
      refine lv_aload_n hx hb dX6_all_39 rfl (lv_at hl 0 rfl) ?_
      refine xw_callv (va_runV (As := []) (rest := []) ⟨hx, hb, hml, hown, hts⟩ (c_X6_remember l D y a0 a1 a2 a3 a4 a5 a6 H.size 0 sz ac sp ou nw dy hm.2.1) (cwV 0 hts gX6_all_X6_remember rfl rfl rfl hd_X6_remember ⟨Nat.le_of_ble_eq_true rfl, Nat.le_of_ble_eq_true rfl⟩) (gV (q := (RX6, TX6, 11)) hE (hP.sub [0, 2, 4] rfl) (hD.sub [0, 2, 4] (by decide) rfl) 0 rfl rfl) rfl rfl hl.1 rfl (lv_room (Nat.le_of_ble_eq_true rfl)) dX6_all_40 ⟨Nat.le_of_ble_eq_true rfl, Nat.le_of_ble_eq_true rfl⟩) hP hD hS hA [0, 2, 4] rfl (by decide) (fun _ => rfl) (fun u14 H locs h13 hP hD hS => ?_)
      have hF := hF.trans (gLet_e h13)
      have hP : va_P D vwCl [(a0, .inr (5, [.int 0, .ref a1, .int sz, .ref a2, .ref a3, .ref a4, .int u14.1, .ref a5, .ref a6, .int sp, .int ou])), (a1, .inl (y 0, 120, .inl tx)), (a2, .inl (y 0, 78, .inl nw)), (a3, .inl (y 0, 78, .inl tr)), (a4, .inl (y 0, 1092, .inl u14.2)), (a5, .inl (y 0, 156, .inl kp)), (a6, .inl (y 2, 2, .inl ik))] H := hP
      have hD : va_D A [(a0, .inr (5, [.int 0, .ref a1, .int sz, .ref a2, .ref a3, .ref a4, .int u14.1, .ref a5, .ref a6, .int sp, .int ou])), (a1, .inl (y 0, 120, .inl tx)), (a2, .inl (y 0, 78, .inl nw)), (a3, .inl (y 0, 78, .inl tr)), (a4, .inl (y 0, 1092, .inl u14.2)), (a5, .inl (y 0, 156, .inl kp)), (a6, .inl (y 2, 2, .inl ik))] := hD
      refine lv_aload_n hx hb dX6_all_43 rfl (lv_at hl 0 rfl) ?_
      refine va_get (D := D) (ci := 5) (v := .ref a2) (C := RX6) (T := TX6) (N := 11) hx hb hts hi6 hown hE.1 hP 0 rfl rfl 3 (by decide) w_1 (fun _ h9 => h9) rfl dX6_all_44 ?_
      refine lv_iload_n hx hb dX6_all_47 rfl (lv_at hl 1 rfl) ?_
      refine lv_aload_n hx hb dX6_all_48 rfl (lv_at hl 0 rfl) ?_
      refine va_get (D := D) (ci := 5) (v := .ref a2) (C := RX6) (T := TX6) (N := 11) hx hb hts hi6 hown hE.1 hP 0 rfl rfl 3 (by decide) w_1 (fun _ h9 => h9) rfl dX6_all_49 ?_
      refine lv_iconst (v := 0) hx hb dX6_all_52 (by decide) ?_
      refine xa_iald (k := 0) (v := nw 0) hx hb hE.1 hP 2 0 rfl rfl (xin (by decide)) rfl rfl dX6_all_53 ?_
      refine lv_imul hx hb dX6_all_54 ?_
      refine xw_calli (va_runS (As := [.ref a2, .int (p0 * (nw 0))]) (rest := []) ⟨hx, hb, hml, hown, hts⟩ (c_X6_allOn l D y a2 H.size nw (p0 * (nw 0)) (okM_of2 hm.2.2 (by assumption))) (va_cwS 2 hts gX6_all_X6_allOn rfl rfl rfl hd_X6_allOn ⟨Nat.le_of_ble_eq_true rfl, Nat.le_of_ble_eq_true rfl⟩) (gS hE (hP.sub [2] rfl) (hD.sub [2] (by decide) rfl)) rfl rfl hl.1 rfl (lv_room (Nat.le_of_ble_eq_true rfl)) dX6_all_55 ⟨Nat.le_of_ble_eq_true rfl, Nat.le_of_ble_eq_true rfl⟩) hP hD hS hA [2] rfl (by decide) (fun _ => rfl) (fun v17 u16 H locs h15 hP hD hS => ?_)
      obtain ⟨q18, eq18⟩ : ∃ z : Int32 × gR, f_X6_allOn nw (p0 * (nw 0)) = z := ⟨_, rfl⟩
      obtain ⟨rfl, rfl⟩ : q18.1 = v17 ∧ q18.2 = u16 := ⟨by rw [← eq18, h15], by rw [← eq18, h15]⟩
      have hF := hF.trans (gLet_e eq18)
      have hP : va_P D vwCl [(a0, .inr (5, [.int 0, .ref a1, .int sz, .ref a2, .ref a3, .ref a4, .int u14.1, .ref a5, .ref a6, .int sp, .int ou])), (a1, .inl (y 0, 120, .inl tx)), (a2, .inl (y 0, 78, .inl q18.2)), (a3, .inl (y 0, 78, .inl tr)), (a4, .inl (y 0, 1092, .inl u14.2)), (a5, .inl (y 0, 156, .inl kp)), (a6, .inl (y 2, 2, .inl ik))] H := hP
      have hD : va_D A [(a0, .inr (5, [.int 0, .ref a1, .int sz, .ref a2, .ref a3, .ref a4, .int u14.1, .ref a5, .ref a6, .int sp, .int ou])), (a1, .inl (y 0, 120, .inl tx)), (a2, .inl (y 0, 78, .inl q18.2)), (a3, .inl (y 0, 78, .inl tr)), (a4, .inl (y 0, 1092, .inl u14.2)), (a5, .inl (y 0, 156, .inl kp)), (a6, .inl (y 2, 2, .inl ik))] := hD
      exact W.iret (v := q18.1) hx hb hr (fun t ht hW => ⟨⟨q18.1, ⟨0, sz, u14.1, sp, ou, tx, q18.2, tr, u14.2, kp, ik⟩, rfl, hF, ⟨by rw [ht]; exact hP, hD⟩⟩, hS.F ht⟩) hS.2.2 dX6_all_58
  · have hF := hF.trans (if_pos c_3)
    refine lv_iconst (v := 1) hx hb dX6_all_13 (by decide) ?_
    refine lv_goto (tgt := 31) hx hb dX6_all_14 (by decide) ?_
    refine xw_calli (va_runV (As := [.int 1]) (rest := []) ⟨hx, hb, hml, hown, hts⟩ (c_X6_refused l D y a0 a1 a2 a3 a4 a5 a6 s.heap.size rf sz ac sp ou 1) (cwV 1 hts gX6_all_X6_refused rfl rfl rfl hd_X6_refused ⟨Nat.le_of_ble_eq_true rfl, Nat.le_of_ble_eq_true rfl⟩) (gV (q := (RX6, TX6, 11)) hE (hP.sub [0] rfl) (hD.sub [0] (by decide) rfl) 0 rfl rfl) rfl rfl hl.1 rfl (lv_room (Nat.le_of_ble_eq_true rfl)) dX6_all_31 ⟨Nat.le_of_ble_eq_true rfl, Nat.le_of_ble_eq_true rfl⟩) hP hD hS hA [0] rfl (by decide) (fun _ => rfl) (fun v21 u20 H locs h19 hP hD hS => ?_)
    have h19 := (rfd1 rf sz ac sp ou).symm.trans h19
    obtain ⟨rfl, rfl⟩ := Prod.mk.inj h19
    have hP : va_P D vwCl [(a0, .inr (5, [.int 1, .ref a1, .int sz, .ref a2, .ref a3, .ref a4, .int ac, .ref a5, .ref a6, .int sp, .int ou])), (a1, .inl (y 0, 120, .inl tx)), (a2, .inl (y 0, 78, .inl nw)), (a3, .inl (y 0, 78, .inl tr)), (a4, .inl (y 0, 1092, .inl dy)), (a5, .inl (y 0, 156, .inl kp)), (a6, .inl (y 2, 2, .inl ik))] H := hP
    have hD : va_D A [(a0, .inr (5, [.int 1, .ref a1, .int sz, .ref a2, .ref a3, .ref a4, .int ac, .ref a5, .ref a6, .int sp, .int ou])), (a1, .inl (y 0, 120, .inl tx)), (a2, .inl (y 0, 78, .inl nw)), (a3, .inl (y 0, 78, .inl tr)), (a4, .inl (y 0, 1092, .inl dy)), (a5, .inl (y 0, 156, .inl kp)), (a6, .inl (y 2, 2, .inl ik))] := hD
    refine lv_if_eq (tgt := 39) hx hb dX6_all_34 (by decide) (fun c_22 => absurd c_22 (by decide)) (fun c_22 => ?_)
    refine lv_iconst (v := 0) hx hb dX6_all_37 (by decide) ?_
    exact W.iret (v := 0) hx hb hr (fun t ht hW => ⟨⟨0, ⟨1, sz, ac, sp, ou, tx, nw, tr, dy, kp, ik⟩, rfl, hF, ⟨by rw [ht]; exact hP, hD⟩⟩, hS.F ht⟩) hS.2.2 dX6_all_38

def f_X6_set (rf : Int32) (sz : Int32) (ac : Int32) (sp : Int32) (ou : Int32) (tx : Nat → Int32) (nw : gR) (tr : gR) (dy : Nat → Int32) (kp : Nat → Int32) (ik : Nat → Int32) (p0 : Int32) (p1 : Int32) : Int32 × Int32 × Int32 × Int32 × Int32 × Int32 × (Nat → Int32) × gR × gR × (Nat → Int32) × (Nat → Int32) × (Nat → Int32) :=
    gLet (f_X6_isSetting p0 p1) (fun (v2 : Int32) =>
    if v2 = 0 then
      (0, 1, sz, ac, sp, ou, tx, nw, tr, dy, kp, ik)
    else
      gLet (f_X6_remember 0 sz ac sp ou nw dy) (fun (u13 : Int32 × (Nat → Int32)) =>
        gLet (upd nw ((11 + p0).toNatClampNeg) p1) (fun (r14 : Nat → Int32) =>
          ((nw ((11 + p0).toNatClampNeg)), 0, sz, u13.1, sp, ou, tx, r14, tr, u13.2, kp, ik))))
theorem f_X6_set_s (rf : Int32) (sz : Int32) (ac : Int32) (sp : Int32) (ou : Int32) (tx : Nat → Int32) (nw : gR) (tr : gR) (dy : Nat → Int32) (kp : Nat → Int32) (ik : Nat → Int32) (p0 : Int32) (p1 : Int32) : f_X6_set rf sz ac sp ou tx nw tr dy kp ik p0 p1 =
    (gLet (f_X6_isSetting p0 p1) (fun (v2 : Int32) =>
    if v2 = 0 then
      (0, 1, sz, ac, sp, ou, tx, nw, tr, dy, kp, ik)
    else
      gLet (f_X6_remember 0 sz ac sp ou nw dy) (fun (u13 : Int32 × (Nat → Int32)) =>
        gLet (upd nw ((11 + p0).toNatClampNeg) p1) (fun (r14 : Nat → Int32) =>
          ((nw ((11 + p0).toNatClampNeg)), 0, sz, u13.1, sp, ou, tx, r14, tr, u13.2, kp, ik))))) := rfl
theorem hd_X6_set : yX6_set.cls = RX6 ∧ yX6_set.cls ≠ "java/lang/invoke/MethodHandle" ∧ yX6_set.cls ≠ "java/lang/invoke/VarHandle" ∧ (parseMethodDescriptor yX6_set.desc).map (fun d => d.parameters.length) = some 2 := by decide +kernel
set_option maxHeartbeats 4000000 in
set_option maxRecDepth 100000 in
theorem c_X6_set (l : Launch) (D : va_G) (y : Nat → ClassId) (a0 a1 a2 a3 a4 a5 a6 : Nat) (zh : Nat) (rf : Int32) (sz : Int32) (ac : Int32) (sp : Int32) (ou : Int32) (tx : Nat → Int32) (nw : gR) (tr : gR) (dy : Nat → Int32) (kp : Nat → Int32) (ik : Nat → Int32) (p0 : Int32) (p1 : Int32) (hm : okMd sz ac nw) : Met l yX6_set wsX6_set ({ frames := 2, cells := 0, slots := 0, locals := 46 }) (gP D y [.ref a0, .int p0, .int p1] zh [(a0, .inr (5, [.int rf, .ref a1, .int sz, .ref a2, .ref a3, .ref a4, .int ac, .ref a5, .ref a6, .int sp, .int ou])), (a1, .inl (y 0, 120, .inl tx)), (a2, .inl (y 0, 78, .inl nw)), (a3, .inl (y 0, 78, .inl tr)), (a4, .inl (y 0, 1092, .inl dy)), (a5, .inl (y 0, 156, .inl kp)), (a6, .inl (y 2, 2, .inl ik))]) (va_Qi (fun (v : Int32) (u : Int32 × Int32 × Int32 × Int32 × Int32 × (Nat → Int32) × gR × gR × (Nat → Int32) × (Nat → Int32) × (Nat → Int32)) => f_X6_set rf sz ac sp ou tx nw tr dy kp ik p0 p1 = (v, u)) (fun (u : Int32 × Int32 × Int32 × Int32 × Int32 × (Nat → Int32) × gR × gR × (Nat → Int32) × (Nat → Int32) × (Nat → Int32)) t => va_P D vwCl [(a0, .inr (5, [.int u.1, .ref a1, .int u.2.1, .ref a2, .ref a3, .ref a4, .int u.2.2.1, .ref a5, .ref a6, .int u.2.2.2.1, .int u.2.2.2.2.1])), (a1, .inl (y 0, 120, .inl u.2.2.2.2.2.1)), (a2, .inl (y 0, 78, .inl u.2.2.2.2.2.2.1)), (a3, .inl (y 0, 78, .inl u.2.2.2.2.2.2.2.1)), (a4, .inl (y 0, 1092, .inl u.2.2.2.2.2.2.2.2.1)), (a5, .inl (y 0, 156, .inl u.2.2.2.2.2.2.2.2.2.1)), (a6, .inl (y 2, 2, .inl u.2.2.2.2.2.2.2.2.2.2))] t.heap ∧ va_D (va_A [(a0, .inr (5, [.int rf, .ref a1, .int sz, .ref a2, .ref a3, .ref a4, .int ac, .ref a5, .ref a6, .int sp, .int ou])), (a1, .inl (y 0, 120, .inl tx)), (a2, .inl (y 0, 78, .inl nw)), (a3, .inl (y 0, 78, .inl tr)), (a4, .inl (y 0, 1092, .inl dy)), (a5, .inl (y 0, 156, .inl kp)), (a6, .inl (y 2, 2, .inl ik))] zh) [(a0, .inr (5, [.int u.1, .ref a1, .int u.2.1, .ref a2, .ref a3, .ref a4, .int u.2.2.1, .ref a5, .ref a6, .int u.2.2.2.1, .int u.2.2.2.2.1])), (a1, .inl (y 0, 120, .inl u.2.2.2.2.2.1)), (a2, .inl (y 0, 78, .inl u.2.2.2.2.2.2.1)), (a3, .inl (y 0, 78, .inl u.2.2.2.2.2.2.2.1)), (a4, .inl (y 0, 1092, .inl u.2.2.2.2.2.2.2.2.1)), (a5, .inl (y 0, 156, .inl u.2.2.2.2.2.2.2.2.2.1)), (a6, .inl (y 2, 2, .inl u.2.2.2.2.2.2.2.2.2.2))]) (va_A [(a0, .inr (5, [.int rf, .ref a1, .int sz, .ref a2, .ref a3, .ref a4, .int ac, .ref a5, .ref a6, .int sp, .int ou])), (a1, .inl (y 0, 120, .inl tx)), (a2, .inl (y 0, 78, .inl nw)), (a3, .inl (y 0, 78, .inl tr)), (a4, .inl (y 0, 1092, .inl dy)), (a5, .inl (y 0, 156, .inl kp)), (a6, .inl (y 2, 2, .inl ik))] zh)) 0 0 (va_A [(a0, .inr (5, [.int rf, .ref a1, .int sz, .ref a2, .ref a3, .ref a4, .int ac, .ref a5, .ref a6, .int sp, .int ou])), (a1, .inl (y 0, 120, .inl tx)), (a2, .inl (y 0, 78, .inl nw)), (a3, .inl (y 0, 78, .inl tr)), (a4, .inl (y 0, 1092, .inl dy)), (a5, .inl (y 0, 156, .inl kp)), (a6, .inl (y 2, 2, .inl ik))] zh) := by
  refine Met.ofW (cc := cX6_set) (maxL := 4) (ret := (some .int)) (by decide) rfl ?_
  intro p e s m args below meth c s₁ B hml hv
  obtain ⟨rfl, hsz, hP, hE, hD⟩ := hv
  have hx := B.exec
  have hb := B.bytes
  have hr := B.returns
  have hts := atoms_spec (ws := wsX6_set) B.pre
  have hown : s.vm.findClass RX6 = some m.cls := findClass_of_methodNamed B.named
  have hlocks := B.notSynchronized
  have w_0 := hts (.fieldLink RX6 13 "GapLinesModel" "now" "[I") (List.mem_cons_of_mem _ (List.mem_append_left _ (List.mem_append_left _ (List.mem_of_getElem? (i := 0) rfl))))
  have hi6 : ∀ w ∈ u_ws RX6 TX6 11, w ∈ wsX6_set := fun w h => (List.mem_cons_of_mem _ (List.mem_append_right _ h))
  subst hsz
  have hD := hD.self (sz := s.heap.size)
  generalize hAe : va_A [(a0, .inr (5, [.int rf, .ref a1, .int sz, .ref a2, .ref a3, .ref a4, .int ac, .ref a5, .ref a6, .int sp, .int ou])), (a1, .inl (y 0, 120, .inl tx)), (a2, .inl (y 0, 78, .inl nw)), (a3, .inl (y 0, 78, .inl tr)), (a4, .inl (y 0, 1092, .inl dy)), (a5, .inl (y 0, 156, .inl kp)), (a6, .inl (y 2, 2, .inl ik))] s.heap.size = A at hD ⊢
  have hA : ∀ q : Nat, s.heap.size ≤ q → A q := fun q h => by rw [← hAe]; exact Or.inr h
  have hS : va_S A s.heap s.heap [] := va_S.rf
  have hl := lv_entry ([.ref a0, .int p0, .int p1]) (n := 4) (Nat.le_of_ble_eq_true rfl)
  rw [lg_entry_eq]
  generalize (lg_sl ([.ref a0, .int p0, .int p1]) ++ List.replicate (4 - (lg_sl ([.ref a0, .int p0, .int p1])).length) Slot.unset).toArray = ls at hl ⊢
  have hl : lv_has ls 4 [(0, .ref a0), (1, .int p0), (2, .int p1)] := hl
  have hF := f_X6_set_s rf sz ac sp ou tx nw tr dy kp ik p0 p1
  refine lv_aload_n hx hb dX6_set_0 rfl (lv_at hl 0 rfl) ?_
  refine lv_iload_n hx hb dX6_set_1 rfl (lv_at hl 1 rfl) ?_
  refine lv_iload_n hx hb dX6_set_2 rfl (lv_at hl 2 rfl) ?_
  refine xs_calli (va_runS (As := [.int p0, .int p1]) (rest := [.ref a0]) ⟨hx, hb, hml, hown, hts⟩ (c_X6_isSetting l D y s.heap.size p0 p1) (va_cwS 2 hts gX6_set_X6_isSetting rfl rfl rfl hd_X6_isSetting ⟨Nat.le_of_ble_eq_true rfl, Nat.le_of_ble_eq_true rfl⟩) (gS hE (hP.sub [] rfl) (hD.sub [] (by decide) rfl)) rfl rfl hl.1 rfl (lv_room (Nat.le_of_ble_eq_true rfl)) dX6_set_3 ⟨Nat.le_of_ble_eq_true rfl, Nat.le_of_ble_eq_true rfl⟩) (fun v2 h1 => ?_)
  have hF := hF.trans (gLet_e h1)
  refine lv_if_eq (tgt := 13) hx hb dX6_set_6 (by decide) (fun c_3 => ?_) (fun c_3 => ?_)
  · have hF := hF.trans (if_pos c_3)
    refine lv_iconst (v := 1) hx hb dX6_set_13 (by decide) ?_
    refine xw_calli (va_runV (As := [.int 1]) (rest := []) ⟨hx, hb, hml, hown, hts⟩ (c_X6_refused l D y a0 a1 a2 a3 a4 a5 a6 s.heap.size rf sz ac sp ou 1) (cwV 1 hts gX6_set_X6_refused rfl rfl rfl hd_X6_refused ⟨Nat.le_of_ble_eq_true rfl, Nat.le_of_ble_eq_true rfl⟩) (gV (q := (RX6, TX6, 11)) hE (hP.sub [0] rfl) (hD.sub [0] (by decide) rfl) 0 rfl rfl) rfl rfl hl.1 rfl (lv_room (Nat.le_of_ble_eq_true rfl)) dX6_set_14 ⟨Nat.le_of_ble_eq_true rfl, Nat.le_of_ble_eq_true rfl⟩) hP hD hS hA [0] rfl (by decide) (fun _ => rfl) (fun v6 u5 H locs h4 hP hD hS => ?_)
    have h4 := (rfd1 rf sz ac sp ou).symm.trans h4
    obtain ⟨rfl, rfl⟩ := Prod.mk.inj h4
    have hP : va_P D vwCl [(a0, .inr (5, [.int 1, .ref a1, .int sz, .ref a2, .ref a3, .ref a4, .int ac, .ref a5, .ref a6, .int sp, .int ou])), (a1, .inl (y 0, 120, .inl tx)), (a2, .inl (y 0, 78, .inl nw)), (a3, .inl (y 0, 78, .inl tr)), (a4, .inl (y 0, 1092, .inl dy)), (a5, .inl (y 0, 156, .inl kp)), (a6, .inl (y 2, 2, .inl ik))] H := hP
    have hD : va_D A [(a0, .inr (5, [.int 1, .ref a1, .int sz, .ref a2, .ref a3, .ref a4, .int ac, .ref a5, .ref a6, .int sp, .int ou])), (a1, .inl (y 0, 120, .inl tx)), (a2, .inl (y 0, 78, .inl nw)), (a3, .inl (y 0, 78, .inl tr)), (a4, .inl (y 0, 1092, .inl dy)), (a5, .inl (y 0, 156, .inl kp)), (a6, .inl (y 2, 2, .inl ik))] := hD
    refine lv_if_eq (tgt := 22) hx hb dX6_set_17 (by decide) (fun c_7 => absurd c_7 (by decide)) (fun c_7 => ?_)
    refine lv_iconst (v := 0) hx hb dX6_set_20 (by decide) ?_
    exact W.iret (v := 0) hx hb hr (fun t ht hW => ⟨⟨0, ⟨1, sz, ac, sp, ou, tx, nw, tr, dy, kp, ik⟩, rfl, hF, ⟨by rw [ht]; exact hP, hD⟩⟩, hS.F ht⟩) hS.2.2 dX6_set_21
  · have hF := hF.trans (if_neg c_3)
    refine lv_iconst (v := 0) hx hb dX6_set_9 (by decide) ?_
    refine lv_goto (tgt := 14) hx hb dX6_set_10 (by decide) ?_
    refine xw_calli (va_runV (As := [.int 0]) (rest := []) ⟨hx, hb, hml, hown, hts⟩ (c_X6_refused l D y a0 a1 a2 a3 a4 a5 a6 s.heap.size rf sz ac sp ou 0) (cwV 1 hts gX6_set_X6_refused rfl rfl rfl hd_X6_refused ⟨Nat.le_of_ble_eq_true rfl, Nat.le_of_ble_eq_true rfl⟩) (gV (q := (RX6, TX6, 11)) hE (hP.sub [0] rfl) (hD.sub [0] (by decide) rfl) 0 rfl rfl) rfl rfl hl.1 rfl (lv_room (Nat.le_of_ble_eq_true rfl)) dX6_set_14 ⟨Nat.le_of_ble_eq_true rfl, Nat.le_of_ble_eq_true rfl⟩) hP hD hS hA [0] rfl (by decide) (fun _ => rfl) (fun v10 u9 H locs h8 hP hD hS => ?_)
    have h8 := (rfd0 rf sz ac sp ou).symm.trans h8
    obtain ⟨rfl, rfl⟩ := Prod.mk.inj h8
    have hP : va_P D vwCl [(a0, .inr (5, [.int 0, .ref a1, .int sz, .ref a2, .ref a3, .ref a4, .int ac, .ref a5, .ref a6, .int sp, .int ou])), (a1, .inl (y 0, 120, .inl tx)), (a2, .inl (y 0, 78, .inl nw)), (a3, .inl (y 0, 78, .inl tr)), (a4, .inl (y 0, 1092, .inl dy)), (a5, .inl (y 0, 156, .inl kp)), (a6, .inl (y 2, 2, .inl ik))] H := hP
    have hD : va_D A [(a0, .inr (5, [.int 0, .ref a1, .int sz, .ref a2, .ref a3, .ref a4, .int ac, .ref a5, .ref a6, .int sp, .int ou])), (a1, .inl (y 0, 120, .inl tx)), (a2, .inl (y 0, 78, .inl nw)), (a3, .inl (y 0, 78, .inl tr)), (a4, .inl (y 0, 1092, .inl dy)), (a5, .inl (y 0, 156, .inl kp)), (a6, .inl (y 2, 2, .inl ik))] := hD
    refine lv_if_eq (tgt := 22) hx hb dX6_set_17 (by decide) (fun c_11 => ?_) (fun c_11 => absurd (by decide) c_11)
    refine lv_aload_n hx hb dX6_set_22 rfl (lv_at hl 0 rfl) ?_
    refine xw_callv (va_runV (As := []) (rest := []) ⟨hx, hb, hml, hown, hts⟩ (c_X6_remember l D y a0 a1 a2 a3 a4 a5 a6 H.size 0 sz ac sp ou nw dy hm.2.1) (cwV 0 hts gX6_set_X6_remember rfl rfl rfl hd_X6_remember ⟨Nat.le_of_ble_eq_true rfl, Nat.le_of_ble_eq_true rfl⟩) (gV (q := (RX6, TX6, 11)) hE (hP.sub [0, 2, 4] rfl) (hD.sub [0, 2, 4] (by decide) rfl) 0 rfl rfl) rfl rfl hl.1 rfl (lv_room (Nat.le_of_ble_eq_true rfl)) dX6_set_23 ⟨Nat.le_of_ble_eq_true rfl, Nat.le_of_ble_eq_true rfl⟩) hP hD hS hA [0, 2, 4] rfl (by decide) (fun _ => rfl) (fun u13 H locs h12 hP hD hS => ?_)
    have hF := hF.trans (gLet_e h12)
    have hP : va_P D vwCl [(a0, .inr (5, [.int 0, .ref a1, .int sz, .ref a2, .ref a3, .ref a4, .int u13.1, .ref a5, .ref a6, .int sp, .int ou])), (a1, .inl (y 0, 120, .inl tx)), (a2, .inl (y 0, 78, .inl nw)), (a3, .inl (y 0, 78, .inl tr)), (a4, .inl (y 0, 1092, .inl u13.2)), (a5, .inl (y 0, 156, .inl kp)), (a6, .inl (y 2, 2, .inl ik))] H := hP
    have hD : va_D A [(a0, .inr (5, [.int 0, .ref a1, .int sz, .ref a2, .ref a3, .ref a4, .int u13.1, .ref a5, .ref a6, .int sp, .int ou])), (a1, .inl (y 0, 120, .inl tx)), (a2, .inl (y 0, 78, .inl nw)), (a3, .inl (y 0, 78, .inl tr)), (a4, .inl (y 0, 1092, .inl u13.2)), (a5, .inl (y 0, 156, .inl kp)), (a6, .inl (y 2, 2, .inl ik))] := hD
    refine lv_aload_n hx hb dX6_set_26 rfl (lv_at hl 0 rfl) ?_
    refine va_get (D := D) (ci := 5) (v := .ref a2) (C := RX6) (T := TX6) (N := 11) hx hb hts hi6 hown hE.1 hP 0 rfl rfl 3 (by decide) w_0 (fun _ h9 => h9) rfl dX6_set_27 ?_
    refine lv_bipush (v := 11) hx hb dX6_set_30 (by decide) ?_
    refine lv_iload_n hx hb dX6_set_32 rfl (lv_at hl 1 rfl) ?_
    refine lv_iadd hx hb dX6_set_33 ?_
    refine xa_iald (k := (11 + p0).toNatClampNeg) (v := nw ((11 + p0).toNatClampNeg)) hx hb hE.1 hP 2 0 rfl rfl (sg_ix h1 (by assumption)) rfl rfl dX6_set_34 ?_
    refine lv_istore_n (lv' := [(3, .int (nw ((11 + p0).toNatClampNeg))), (0, .ref a0), (1, .int p0), (2, .int p1)]) hx hb dX6_set_35 rfl hl (by decide) rfl (fun ls hl => ?_)
    refine lv_aload_n hx hb dX6_set_36 rfl (lv_at hl 1 rfl) ?_
    refine va_get (D := D) (ci := 5) (v := .ref a2) (C := RX6) (T := TX6) (N := 11) hx hb hts hi6 hown hE.1 hP 0 rfl rfl 3 (by decide) w_0 (fun _ h9 => h9) rfl dX6_set_37 ?_
    refine lv_bipush (v := 11) hx hb dX6_set_40 (by decide) ?_
    refine lv_iload_n hx hb dX6_set_42 rfl (lv_at hl 2 rfl) ?_
    refine lv_iadd hx hb dX6_set_43 ?_
    refine lv_iload_n hx hb dX6_set_44 rfl (lv_at hl 3 rfl) ?_
    refine xa_iast (k := (11 + p0).toNatClampNeg) hx hb hE.1 hP hD hS 2 0 rfl rfl (sg_ix h1 (by assumption)) rfl dX6_set_45 (fun H locs hP hD hS => ?_)
    obtain ⟨r14, er14⟩ : ∃ z : Nat → Int32, upd nw ((11 + p0).toNatClampNeg) p1 = z := ⟨_, rfl⟩
    have hF := hF.trans (gLet_e er14)
    rw [er14] at hP hD
    have hP : va_P D vwCl [(a0, .inr (5, [.int 0, .ref a1, .int sz, .ref a2, .ref a3, .ref a4, .int u13.1, .ref a5, .ref a6, .int sp, .int ou])), (a1, .inl (y 0, 120, .inl tx)), (a2, .inl (y 0, 78, .inl r14)), (a3, .inl (y 0, 78, .inl tr)), (a4, .inl (y 0, 1092, .inl u13.2)), (a5, .inl (y 0, 156, .inl kp)), (a6, .inl (y 2, 2, .inl ik))] H := hP
    have hD : va_D A [(a0, .inr (5, [.int 0, .ref a1, .int sz, .ref a2, .ref a3, .ref a4, .int u13.1, .ref a5, .ref a6, .int sp, .int ou])), (a1, .inl (y 0, 120, .inl tx)), (a2, .inl (y 0, 78, .inl r14)), (a3, .inl (y 0, 78, .inl tr)), (a4, .inl (y 0, 1092, .inl u13.2)), (a5, .inl (y 0, 156, .inl kp)), (a6, .inl (y 2, 2, .inl ik))] := hD
    refine lv_iload_n hx hb dX6_set_46 rfl (lv_at hl 0 rfl) ?_
    exact W.iret (v := (nw ((11 + p0).toNatClampNeg))) hx hb hr (fun t ht hW => ⟨⟨(nw ((11 + p0).toNatClampNeg)), ⟨0, sz, u13.1, sp, ou, tx, r14, tr, u13.2, kp, ik⟩, rfl, hF, ⟨by rw [ht]; exact hP, hD⟩⟩, hS.F ht⟩) hS.2.2 dX6_set_47

def f_X6_undo (rf : Int32) (sz : Int32) (ac : Int32) (sp : Int32) (ou : Int32) (tx : Nat → Int32) (nw : gR) (tr : gR) (dy : Nat → Int32) (kp : Nat → Int32) (ik : Nat → Int32) : Int32 × Int32 × Int32 × Int32 × Int32 × Int32 × (Nat → Int32) × gR × gR × (Nat → Int32) × (Nat → Int32) × (Nat → Int32) :=
    if ac = 0 then
    (0, 1, sz, ac, sp, ou, tx, nw, tr, dy, kp, ik)
  else
    gLet (f_X6_copyState 1092 dy 78 nw (78 * (ac - 1)) 0) (fun (u7 : (Nat → Int32)) =>
      ((ac - 1), 0, sz, (ac - 1), sp, ou, tx, u7, tr, dy, kp, ik))
theorem f_X6_undo_s (rf : Int32) (sz : Int32) (ac : Int32) (sp : Int32) (ou : Int32) (tx : Nat → Int32) (nw : gR) (tr : gR) (dy : Nat → Int32) (kp : Nat → Int32) (ik : Nat → Int32) : f_X6_undo rf sz ac sp ou tx nw tr dy kp ik =
    (if ac = 0 then
    (0, 1, sz, ac, sp, ou, tx, nw, tr, dy, kp, ik)
  else
    gLet (f_X6_copyState 1092 dy 78 nw (78 * (ac - 1)) 0) (fun (u7 : (Nat → Int32)) =>
      ((ac - 1), 0, sz, (ac - 1), sp, ou, tx, u7, tr, dy, kp, ik))) := rfl
theorem hd_X6_undo : yX6_undo.cls = RX6 ∧ yX6_undo.cls ≠ "java/lang/invoke/MethodHandle" ∧ yX6_undo.cls ≠ "java/lang/invoke/VarHandle" ∧ (parseMethodDescriptor yX6_undo.desc).map (fun d => d.parameters.length) = some 0 := by decide +kernel
set_option maxHeartbeats 4000000 in
set_option maxRecDepth 100000 in
theorem c_X6_undo (l : Launch) (D : va_G) (y : Nat → ClassId) (a0 a1 a2 a3 a4 a5 a6 : Nat) (zh : Nat) (rf : Int32) (sz : Int32) (ac : Int32) (sp : Int32) (ou : Int32) (tx : Nat → Int32) (nw : gR) (tr : gR) (dy : Nat → Int32) (kp : Nat → Int32) (ik : Nat → Int32) (hm : okMd sz ac nw) : Met l yX6_undo wsX6_undo ({ frames := 1, cells := 0, slots := 0, locals := 24 }) (gP D y [.ref a0] zh [(a0, .inr (5, [.int rf, .ref a1, .int sz, .ref a2, .ref a3, .ref a4, .int ac, .ref a5, .ref a6, .int sp, .int ou])), (a1, .inl (y 0, 120, .inl tx)), (a2, .inl (y 0, 78, .inl nw)), (a3, .inl (y 0, 78, .inl tr)), (a4, .inl (y 0, 1092, .inl dy)), (a5, .inl (y 0, 156, .inl kp)), (a6, .inl (y 2, 2, .inl ik))]) (va_Qi (fun (v : Int32) (u : Int32 × Int32 × Int32 × Int32 × Int32 × (Nat → Int32) × gR × gR × (Nat → Int32) × (Nat → Int32) × (Nat → Int32)) => f_X6_undo rf sz ac sp ou tx nw tr dy kp ik = (v, u)) (fun (u : Int32 × Int32 × Int32 × Int32 × Int32 × (Nat → Int32) × gR × gR × (Nat → Int32) × (Nat → Int32) × (Nat → Int32)) t => va_P D vwCl [(a0, .inr (5, [.int u.1, .ref a1, .int u.2.1, .ref a2, .ref a3, .ref a4, .int u.2.2.1, .ref a5, .ref a6, .int u.2.2.2.1, .int u.2.2.2.2.1])), (a1, .inl (y 0, 120, .inl u.2.2.2.2.2.1)), (a2, .inl (y 0, 78, .inl u.2.2.2.2.2.2.1)), (a3, .inl (y 0, 78, .inl u.2.2.2.2.2.2.2.1)), (a4, .inl (y 0, 1092, .inl u.2.2.2.2.2.2.2.2.1)), (a5, .inl (y 0, 156, .inl u.2.2.2.2.2.2.2.2.2.1)), (a6, .inl (y 2, 2, .inl u.2.2.2.2.2.2.2.2.2.2))] t.heap ∧ va_D (va_A [(a0, .inr (5, [.int rf, .ref a1, .int sz, .ref a2, .ref a3, .ref a4, .int ac, .ref a5, .ref a6, .int sp, .int ou])), (a1, .inl (y 0, 120, .inl tx)), (a2, .inl (y 0, 78, .inl nw)), (a3, .inl (y 0, 78, .inl tr)), (a4, .inl (y 0, 1092, .inl dy)), (a5, .inl (y 0, 156, .inl kp)), (a6, .inl (y 2, 2, .inl ik))] zh) [(a0, .inr (5, [.int u.1, .ref a1, .int u.2.1, .ref a2, .ref a3, .ref a4, .int u.2.2.1, .ref a5, .ref a6, .int u.2.2.2.1, .int u.2.2.2.2.1])), (a1, .inl (y 0, 120, .inl u.2.2.2.2.2.1)), (a2, .inl (y 0, 78, .inl u.2.2.2.2.2.2.1)), (a3, .inl (y 0, 78, .inl u.2.2.2.2.2.2.2.1)), (a4, .inl (y 0, 1092, .inl u.2.2.2.2.2.2.2.2.1)), (a5, .inl (y 0, 156, .inl u.2.2.2.2.2.2.2.2.2.1)), (a6, .inl (y 2, 2, .inl u.2.2.2.2.2.2.2.2.2.2))]) (va_A [(a0, .inr (5, [.int rf, .ref a1, .int sz, .ref a2, .ref a3, .ref a4, .int ac, .ref a5, .ref a6, .int sp, .int ou])), (a1, .inl (y 0, 120, .inl tx)), (a2, .inl (y 0, 78, .inl nw)), (a3, .inl (y 0, 78, .inl tr)), (a4, .inl (y 0, 1092, .inl dy)), (a5, .inl (y 0, 156, .inl kp)), (a6, .inl (y 2, 2, .inl ik))] zh)) 0 0 (va_A [(a0, .inr (5, [.int rf, .ref a1, .int sz, .ref a2, .ref a3, .ref a4, .int ac, .ref a5, .ref a6, .int sp, .int ou])), (a1, .inl (y 0, 120, .inl tx)), (a2, .inl (y 0, 78, .inl nw)), (a3, .inl (y 0, 78, .inl tr)), (a4, .inl (y 0, 1092, .inl dy)), (a5, .inl (y 0, 156, .inl kp)), (a6, .inl (y 2, 2, .inl ik))] zh) := by
  refine Met.ofW (cc := cX6_undo) (maxL := 1) (ret := (some .int)) (by decide) rfl ?_
  intro p e s m args below meth c s₁ B hml hv
  obtain ⟨rfl, hsz, hP, hE, hD⟩ := hv
  have hx := B.exec
  have hb := B.bytes
  have hr := B.returns
  have hts := atoms_spec (ws := wsX6_undo) B.pre
  have hown : s.vm.findClass RX6 = some m.cls := findClass_of_methodNamed B.named
  have hlocks := B.notSynchronized
  have w_0 := hts (.fieldLink RX6 131 "GapLinesModel" "acts" "I") (List.mem_cons_of_mem _ (List.mem_append_left _ (List.mem_of_getElem? (i := 0) rfl)))
  have hi6 : ∀ w ∈ u_ws RX6 TX6 11, w ∈ wsX6_undo := fun w h => (List.mem_cons_of_mem _ (List.mem_append_right _ h))
  have w_2 := hts (.fieldLink RX6 19 "GapLinesModel" "diary" "[I") (List.mem_cons_of_mem _ (List.mem_append_left _ (List.mem_of_getElem? (i := 1) rfl)))
  have w_3 := hts (.fieldLink RX6 13 "GapLinesModel" "now" "[I") (List.mem_cons_of_mem _ (List.mem_append_left _ (List.mem_of_getElem? (i := 2) rfl)))
  subst hsz
  have hD := hD.self (sz := s.heap.size)
  generalize hAe : va_A [(a0, .inr (5, [.int rf, .ref a1, .int sz, .ref a2, .ref a3, .ref a4, .int ac, .ref a5, .ref a6, .int sp, .int ou])), (a1, .inl (y 0, 120, .inl tx)), (a2, .inl (y 0, 78, .inl nw)), (a3, .inl (y 0, 78, .inl tr)), (a4, .inl (y 0, 1092, .inl dy)), (a5, .inl (y 0, 156, .inl kp)), (a6, .inl (y 2, 2, .inl ik))] s.heap.size = A at hD ⊢
  have hA : ∀ q : Nat, s.heap.size ≤ q → A q := fun q h => by rw [← hAe]; exact Or.inr h
  have hS : va_S A s.heap s.heap [] := va_S.rf
  have hl := lv_entry ([.ref a0]) (n := 1) (Nat.le_of_ble_eq_true rfl)
  rw [lg_entry_eq]
  generalize (lg_sl ([.ref a0]) ++ List.replicate (1 - (lg_sl ([.ref a0])).length) Slot.unset).toArray = ls at hl ⊢
  have hl : lv_has ls 1 [(0, .ref a0)] := hl
  have hF := f_X6_undo_s rf sz ac sp ou tx nw tr dy kp ik
  refine lv_aload_n hx hb dX6_undo_0 rfl (lv_at hl 0 rfl) ?_
  refine lv_aload_n hx hb dX6_undo_1 rfl (lv_at hl 0 rfl) ?_
  refine va_get (D := D) (ci := 5) (v := .int ac) (C := RX6) (T := TX6) (N := 11) hx hb hts hi6 hown hE.1 hP 0 rfl rfl 6 (by decide) w_0 (fun _ h9 => h9) rfl dX6_undo_2 ?_
  refine lv_if_ne (tgt := 12) hx hb dX6_undo_5 (by decide) (fun c_1 => ?_) (fun c_1 => ?_)
  · have hF := hF.trans (if_neg c_1)
    refine lv_iconst (v := 0) hx hb dX6_undo_12 (by decide) ?_
    refine xw_calli (va_runV (As := [.int 0]) (rest := []) ⟨hx, hb, hml, hown, hts⟩ (c_X6_refused l D y a0 a1 a2 a3 a4 a5 a6 s.heap.size rf sz ac sp ou 0) (cwV 1 hts gX6_undo_X6_refused rfl rfl rfl hd_X6_refused ⟨Nat.le_of_ble_eq_true rfl, Nat.le_of_ble_eq_true rfl⟩) (gV (q := (RX6, TX6, 11)) hE (hP.sub [0] rfl) (hD.sub [0] (by decide) rfl) 0 rfl rfl) rfl rfl hl.1 rfl (lv_room (Nat.le_of_ble_eq_true rfl)) dX6_undo_13 ⟨Nat.le_of_ble_eq_true rfl, Nat.le_of_ble_eq_true rfl⟩) hP hD hS hA [0] rfl (by decide) (fun _ => rfl) (fun v4 u3 H locs h2 hP hD hS => ?_)
    have h2 := (rfd0 rf sz ac sp ou).symm.trans h2
    obtain ⟨rfl, rfl⟩ := Prod.mk.inj h2
    have hP : va_P D vwCl [(a0, .inr (5, [.int 0, .ref a1, .int sz, .ref a2, .ref a3, .ref a4, .int ac, .ref a5, .ref a6, .int sp, .int ou])), (a1, .inl (y 0, 120, .inl tx)), (a2, .inl (y 0, 78, .inl nw)), (a3, .inl (y 0, 78, .inl tr)), (a4, .inl (y 0, 1092, .inl dy)), (a5, .inl (y 0, 156, .inl kp)), (a6, .inl (y 2, 2, .inl ik))] H := hP
    have hD : va_D A [(a0, .inr (5, [.int 0, .ref a1, .int sz, .ref a2, .ref a3, .ref a4, .int ac, .ref a5, .ref a6, .int sp, .int ou])), (a1, .inl (y 0, 120, .inl tx)), (a2, .inl (y 0, 78, .inl nw)), (a3, .inl (y 0, 78, .inl tr)), (a4, .inl (y 0, 1092, .inl dy)), (a5, .inl (y 0, 156, .inl kp)), (a6, .inl (y 2, 2, .inl ik))] := hD
    refine lv_if_eq (tgt := 21) hx hb dX6_undo_16 (by decide) (fun c_5 => ?_) (fun c_5 => absurd (by decide) c_5)
    refine lv_aload_n hx hb dX6_undo_21 rfl (lv_at hl 0 rfl) ?_
    refine lv_dup hx hb dX6_undo_22 rfl ?_
    refine va_get (D := D) (ci := 5) (v := .int ac) (C := RX6) (T := TX6) (N := 11) hx hb hts hi6 hown hE.1 hP 0 rfl rfl 6 (by decide) w_0 (fun _ h9 => h9) rfl dX6_undo_23 ?_
    refine lv_iconst (v := 1) hx hb dX6_undo_26 (by decide) ?_
    refine lv_isub hx hb dX6_undo_27 ?_
    refine va_put (D := D) (ci := 5) (v := .int (ac - 1)) (ty := .int) (C := RX6) (T := TX6) (N := 11) hx hb hts hi6 tyX6 tyX6_ok nmX6 hown hE.1 hP hD hS 0 rfl rfl 6 (by decide) w_0 (fun _ h9 => h9) rfl (by decide +kernel) rfl rfl (Nat.le_of_ble_eq_true rfl) dX6_undo_28 (fun H locs hP hD hS => ?_)
    have hP : va_P D vwCl [(a0, .inr (5, [.int 0, .ref a1, .int sz, .ref a2, .ref a3, .ref a4, .int (ac - 1), .ref a5, .ref a6, .int sp, .int ou])), (a1, .inl (y 0, 120, .inl tx)), (a2, .inl (y 0, 78, .inl nw)), (a3, .inl (y 0, 78, .inl tr)), (a4, .inl (y 0, 1092, .inl dy)), (a5, .inl (y 0, 156, .inl kp)), (a6, .inl (y 2, 2, .inl ik))] H := hP
    have hD : va_D A [(a0, .inr (5, [.int 0, .ref a1, .int sz, .ref a2, .ref a3, .ref a4, .int (ac - 1), .ref a5, .ref a6, .int sp, .int ou])), (a1, .inl (y 0, 120, .inl tx)), (a2, .inl (y 0, 78, .inl nw)), (a3, .inl (y 0, 78, .inl tr)), (a4, .inl (y 0, 1092, .inl dy)), (a5, .inl (y 0, 156, .inl kp)), (a6, .inl (y 2, 2, .inl ik))] := hD
    refine lv_aload_n hx hb dX6_undo_31 rfl (lv_at hl 0 rfl) ?_
    refine va_get (D := D) (ci := 5) (v := .ref a4) (C := RX6) (T := TX6) (N := 11) hx hb hts hi6 hown hE.1 hP 0 rfl rfl 5 (by decide) w_2 (fun _ h9 => h9) rfl dX6_undo_32 ?_
    refine lv_bipush (v := 78) hx hb dX6_undo_35 (by decide) ?_
    refine lv_aload_n hx hb dX6_undo_37 rfl (lv_at hl 0 rfl) ?_
    refine va_get (D := D) (ci := 5) (v := .int (ac - 1)) (C := RX6) (T := TX6) (N := 11) hx hb hts hi6 hown hE.1 hP 0 rfl rfl 6 (by decide) w_0 (fun _ h9 => h9) rfl dX6_undo_38 ?_
    refine lv_imul hx hb dX6_undo_41 ?_
    refine lv_aload_n hx hb dX6_undo_42 rfl (lv_at hl 0 rfl) ?_
    refine va_get (D := D) (ci := 5) (v := .ref a2) (C := RX6) (T := TX6) (N := 11) hx hb hts hi6 hown hE.1 hP 0 rfl rfl 3 (by decide) w_3 (fun _ h9 => h9) rfl dX6_undo_43 ?_
    refine lv_iconst (v := 0) hx hb dX6_undo_46 (by decide) ?_
    refine xw_callv (va_runS (As := [.ref a4, .int (78 * (ac - 1)), .ref a2, .int 0]) (rest := []) ⟨hx, hb, hml, hown, hts⟩ (c_X6_copyState l D y a4 a2 H.size 1092 dy 78 nw (78 * (ac - 1)) 0 (okA78 13 (ac_m1 hm.2.1 (by assumption)).1 (ac_m1 hm.2.1 (by assumption)).2 (by decide) (by decide)) okA0) (va_cwS 4 hts gX6_undo_X6_copyState rfl rfl rfl hd_X6_copyState ⟨Nat.le_of_ble_eq_true rfl, Nat.le_of_ble_eq_true rfl⟩) (gS hE (hP.sub [4, 2] rfl) (hD.sub [4, 2] (by decide) rfl)) rfl rfl hl.1 rfl (lv_room (Nat.le_of_ble_eq_true rfl)) dX6_undo_47 ⟨Nat.le_of_ble_eq_true rfl, Nat.le_of_ble_eq_true rfl⟩) hP hD hS hA [4, 2] rfl (by decide) (fun _ => rfl) (fun u7 H locs h6 hP hD hS => ?_)
    have hF := hF.trans (gLet_e h6)
    have hP : va_P D vwCl [(a0, .inr (5, [.int 0, .ref a1, .int sz, .ref a2, .ref a3, .ref a4, .int (ac - 1), .ref a5, .ref a6, .int sp, .int ou])), (a1, .inl (y 0, 120, .inl tx)), (a2, .inl (y 0, 78, .inl u7)), (a3, .inl (y 0, 78, .inl tr)), (a4, .inl (y 0, 1092, .inl dy)), (a5, .inl (y 0, 156, .inl kp)), (a6, .inl (y 2, 2, .inl ik))] H := hP
    have hD : va_D A [(a0, .inr (5, [.int 0, .ref a1, .int sz, .ref a2, .ref a3, .ref a4, .int (ac - 1), .ref a5, .ref a6, .int sp, .int ou])), (a1, .inl (y 0, 120, .inl tx)), (a2, .inl (y 0, 78, .inl u7)), (a3, .inl (y 0, 78, .inl tr)), (a4, .inl (y 0, 1092, .inl dy)), (a5, .inl (y 0, 156, .inl kp)), (a6, .inl (y 2, 2, .inl ik))] := hD
    refine lv_aload_n hx hb dX6_undo_50 rfl (lv_at hl 0 rfl) ?_
    refine va_get (D := D) (ci := 5) (v := .int (ac - 1)) (C := RX6) (T := TX6) (N := 11) hx hb hts hi6 hown hE.1 hP 0 rfl rfl 6 (by decide) w_0 (fun _ h9 => h9) rfl dX6_undo_51 ?_
    exact W.iret (v := (ac - 1)) hx hb hr (fun t ht hW => ⟨⟨(ac - 1), ⟨0, sz, (ac - 1), sp, ou, tx, u7, tr, dy, kp, ik⟩, rfl, hF, ⟨by rw [ht]; exact hP, hD⟩⟩, hS.F ht⟩) hS.2.2 dX6_undo_54
  · have hF := hF.trans (if_pos c_1)
    refine lv_iconst (v := 1) hx hb dX6_undo_8 (by decide) ?_
    refine lv_goto (tgt := 13) hx hb dX6_undo_9 (by decide) ?_
    refine xw_calli (va_runV (As := [.int 1]) (rest := []) ⟨hx, hb, hml, hown, hts⟩ (c_X6_refused l D y a0 a1 a2 a3 a4 a5 a6 s.heap.size rf sz ac sp ou 1) (cwV 1 hts gX6_undo_X6_refused rfl rfl rfl hd_X6_refused ⟨Nat.le_of_ble_eq_true rfl, Nat.le_of_ble_eq_true rfl⟩) (gV (q := (RX6, TX6, 11)) hE (hP.sub [0] rfl) (hD.sub [0] (by decide) rfl) 0 rfl rfl) rfl rfl hl.1 rfl (lv_room (Nat.le_of_ble_eq_true rfl)) dX6_undo_13 ⟨Nat.le_of_ble_eq_true rfl, Nat.le_of_ble_eq_true rfl⟩) hP hD hS hA [0] rfl (by decide) (fun _ => rfl) (fun v10 u9 H locs h8 hP hD hS => ?_)
    have h8 := (rfd1 rf sz ac sp ou).symm.trans h8
    obtain ⟨rfl, rfl⟩ := Prod.mk.inj h8
    have hP : va_P D vwCl [(a0, .inr (5, [.int 1, .ref a1, .int sz, .ref a2, .ref a3, .ref a4, .int ac, .ref a5, .ref a6, .int sp, .int ou])), (a1, .inl (y 0, 120, .inl tx)), (a2, .inl (y 0, 78, .inl nw)), (a3, .inl (y 0, 78, .inl tr)), (a4, .inl (y 0, 1092, .inl dy)), (a5, .inl (y 0, 156, .inl kp)), (a6, .inl (y 2, 2, .inl ik))] H := hP
    have hD : va_D A [(a0, .inr (5, [.int 1, .ref a1, .int sz, .ref a2, .ref a3, .ref a4, .int ac, .ref a5, .ref a6, .int sp, .int ou])), (a1, .inl (y 0, 120, .inl tx)), (a2, .inl (y 0, 78, .inl nw)), (a3, .inl (y 0, 78, .inl tr)), (a4, .inl (y 0, 1092, .inl dy)), (a5, .inl (y 0, 156, .inl kp)), (a6, .inl (y 2, 2, .inl ik))] := hD
    refine lv_if_eq (tgt := 21) hx hb dX6_undo_16 (by decide) (fun c_11 => absurd c_11 (by decide)) (fun c_11 => ?_)
    refine lv_iconst (v := 0) hx hb dX6_undo_19 (by decide) ?_
    exact W.iret (v := 0) hx hb hr (fun t ht hW => ⟨⟨0, ⟨1, sz, ac, sp, ou, tx, nw, tr, dy, kp, ik⟩, rfl, hF, ⟨by rw [ht]; exact hP, hD⟩⟩, hS.F ht⟩) hS.2.2 dX6_undo_20
