/-! THE TWO SIDES AGREE: a store's own steps -/
theorem m_at {b : Int32} {n : Nat} (hb : b.toInt = n) (hn : n < 1000) {p : Int32} (h0 : 0 ≤ p.toInt) (h1 : p.toInt ≤ 32) : (b + p).toNatClampNeg = n + p.toNatClampNeg := by
  have e : (b + p).toInt = b.toInt + p.toInt := i_add (by omega) (by omega)
  have e1 : (b + p).toNatClampNeg = (b + p).toInt.toNat := rfl
  have e2 : p.toNatClampNeg = p.toInt.toNat := rfl
  rw [e1, e2, e, hb]
  omega
theorem m_45 {p : Int32} (h0 : 0 ≤ p.toInt) (h1 : p.toInt ≤ 32) : (45 + p).toNatClampNeg = 45 + p.toNatClampNeg := m_at (by decide) (by decide) h0 h1
theorem m_13 {p : Int32} (h0 : 0 ≤ p.toInt) (h1 : p.toInt ≤ 32) : (13 + p).toNatClampNeg = 13 + p.toNatClampNeg := m_at (by decide) (by decide) h0 h1
theorem i_z : (0 : Int32).toInt = 0 := by decide
theorem m_layAt {r : gR} {p : Int32} (h0 : 0 ≤ p.toInt) (h1 : p.toInt ≤ (r 0).toInt) (hr : (r 0).toInt ≤ 32) (hs : 0 ≤ (r 4).toInt) : f_X3_layAt r p = f_X6_layAt r p := by
  have g0 : ¬ p < 0 := by rw [i_lt, i_z]; omega
  have g1 : p ≤ r 0 := i_le.mpr h1
  unfold f_X3_layAt f_X6_layAt
  rw [if_neg g0, if_pos g1, m_45 h0 (by omega)]
  simp only [gLet]
  generalize hr3 : upd r (45 + p.toNatClampNeg) (r (45 + p.toNatClampNeg) + 1) = r3
  have e11 : (upd r3 10 (r3 10 + 1)) 11 = r3 11 := upd_ne (by omega)
  have e4 : (upd r3 10 (r3 10 + 1)) 4 = r3 4 := upd_ne (by omega)
  have h4 : r3 4 = r 4 := by rw [← hr3]; exact upd_ne (by omega)
  rw [e11, e4]
  generalize hr2 : upd r3 10 (r3 10 + 1) = r2
  by_cases c : r3 11 ≤ r2 (45 + p.toNatClampNeg)
  · rw [if_pos c, if_neg (Int32.not_lt.mpr c)]
    by_cases d : r3 4 = 0
    · rw [if_pos d, if_pos (by rw [d]; decide)]
    · rw [if_neg d, if_neg (fun q => d (by
        rw [h4] at q ⊢
        have := i_le.mp q
        rw [i_z] at this
        exact i_eq.mpr (by rw [i_z]; omega)))]
      have e9 : (upd r2 4 (r3 4 - 1)) 9 = r3 9 := by rw [upd_ne (by omega), ← hr2]; exact upd_ne (by omega)
      rw [e9]
  · rw [if_neg c, if_pos (Int32.not_le.mp c)]
theorem m_mod1 {x b : Int32} (h0 : 0 ≤ x.toInt) (h1 : x.toInt < b.toInt) (h2 : b.toInt ≤ 32) : (x + 1) - (x + 1) / b * b = if b ≤ x + 1 then 0 else x + 1 := by
  have key : ∀ n, n < 33 → ∀ k, k < 33 → n < k → (nI n + 1) - (nI n + 1) / nI k * nI k = if nI k ≤ nI n + 1 then 0 else nI n + 1 := by decide +kernel
  have ex : x = nI (nN x) := nI_nN h0
  have eb : b = nI (nN b) := nI_nN (by omega)
  have hx : nN x = x.toInt.toNat := rfl
  have hb : nN b = b.toInt.toNat := rfl
  rw [ex, eb]
  exact key _ (by omega) _ (by omega) (by omega)
/-- what a store's numbers keep -/
def Inv (r : gR) : Prop := okC r ∧ (r 0 = 0 ∨ (4 ≤ (r 0).toInt ∧ 1 ≤ (r 1).toInt ∧ (r 1).toInt < (r 0).toInt ∧ 0 ≤ (r 2).toInt ∧ (r 2).toInt < (r 0).toInt ∧ 0 ≤ (r 3).toInt ∧ (r 3).toInt ≤ (r 0).toInt)) ∧ 0 ≤ (r 4).toInt ∧ ∀ k, 78 ≤ k → r k = 0
/-- a place's laying changes none of the numbers that a place is told by -/
theorem m_lay_k {r : gR} {p : Int32} (h0 : 0 ≤ p.toInt) {k : Nat} (hk : k = 0 ∨ k = 1 ∨ k = 2 ∨ k = 3 ∨ k = 5 ∨ k = 6 ∨ k = 7 ∨ k = 11 ∨ k = 12) : f_X3_layAt r p k = r k := by
  have a0 : k ≠ 45 + p.toNatClampNeg := by omega
  have a1 : k ≠ 10 := by omega
  have a2 : k ≠ 8 := by omega
  have a3 : k ≠ 4 := by omega
  have a4 : k ≠ 9 := by omega
  unfold f_X3_layAt
  simp only [gLet]
  repeat' split
  all_goals simp only [upd_ne a0, upd_ne a1, upd_ne a2, upd_ne a3, upd_ne a4]
theorem Inv.pos {r : gR} (hi : Inv r) (h : ¬ r 0 = 0) : 4 ≤ (r 0).toInt ∧ 1 ≤ (r 1).toInt ∧ (r 1).toInt < (r 0).toInt ∧ 0 ≤ (r 2).toInt ∧ (r 2).toInt < (r 0).toInt ∧ 0 ≤ (r 3).toInt ∧ (r 3).toInt ≤ (r 0).toInt := hi.2.1.resolve_left h
theorem m_move {r : gR} (hi : Inv r) (h : ¬ r 0 = 0) : f_X3_moveGap r = f_X6_move r := by
  obtain ⟨l0, l1, l2, l3, l4, l5, l6⟩ := hi.pos h
  have l7 := hi.1.2.1
  unfold f_X3_moveGap f_X6_move
  simp only [gLet]
  rw [← m_layAt l5 l6 l7 hi.2.2.1]
  have k0 : f_X3_layAt r (r 3) 0 = r 0 := m_lay_k l5 (by omega)
  have k2 : f_X3_layAt r (r 3) 2 = r 2 := m_lay_k l5 (by omega)
  generalize f_X3_layAt r (r 3) = u at k0 k2 ⊢
  by_cases c : u 3 ≤ 0
  · rw [if_pos c, if_pos c]
    have e2 : (upd u 3 (u 0)) 2 = u 2 := upd_ne (by omega)
    have e0 : (upd u 3 (u 0)) 0 = u 0 := upd_ne (by omega)
    have e6 : ∀ v, (upd (upd u 3 (u 0)) 2 v) 6 = u 6 := fun v => by rw [upd_ne (by omega), upd_ne (by omega)]
    simp only [e2, e0, e6]
    rw [m_mod1 (by rw [k2]; exact l3) (by rw [k2, k0]; exact l4) (by rw [k0]; exact l7)]
    by_cases d : u 0 ≤ u 2 + 1
    · rw [if_pos d, if_pos d]
    · rw [if_neg d, if_neg d]
  · rw [if_neg c, if_neg c]
    have e6 : (upd u 3 (u 3 - 1)) 6 = u 6 := upd_ne (by omega)
    rw [e6]
theorem m_b01 {x y : Int32} (hx : x = 0 ∨ x = 1) (hy : y = 0 ∨ y = 1) (h : ¬ x = 0 ↔ ¬ y = 0) : x = y := by
  rcases hx with rfl | rfl <;> rcases hy with rfl | rfl
  · rfl
  · exact absurd rfl (h.mpr (by decide))
  · exact absurd rfl (h.mp (by decide))
  · rfl
theorem m_has {r : gR} {l : Int32} : ¬ f_X3_hasLine r l = 0 ↔ okL r l := by
  unfold f_X3_hasLine
  by_cases c : l < 0
  · rw [if_pos c]
    have := i_lt.mp c
    rw [i_z] at this
    exact ⟨fun h => absurd rfl h, fun h => absurd h.1 (by omega)⟩
  · rw [if_neg c]
    have c' := i_le.mp (Int32.not_lt.mp c)
    rw [i_z] at c'
    by_cases d : r 0 ≤ l
    · rw [if_pos d]
      have := i_le.mp d
      exact ⟨fun h => absurd rfl h, fun h => absurd h.2 (by omega)⟩
    · rw [if_neg d]
      have := i_lt.mp (Int32.not_le.mp d)
      exact ⟨fun _ => ⟨c', this⟩, fun _ => by decide⟩
theorem m_place {r : gR} {l : Int32} (h : okL r l) : f_X3_placeOf r l = f_X6_placeOf r l := by
  have h0 : ¬ l < 0 := by rw [i_lt, i_z]; have := h.1; omega
  have h1 : ¬ r 0 ≤ l := by rw [i_le]; have := h.2; omega
  have e : f_X3_rankOf r l (r 2) = r 1 * l + r 2 - (r 1 * l + r 2) / r 0 * r 0 := by
    unfold f_X3_rankOf
    rw [if_neg h0, if_neg h1]
    rfl
  unfold f_X3_placeOf
  rw [e]
  rfl
theorem m_line {r : gR} {l : Int32} (h0 : 0 ≤ (r 0).toInt) : f_X6_isLine r l = f_X3_hasLine r l := by
  refine m_b01 (bo_X6_isLine r l) (bo_X3_hasLine r l) ⟨fun h => m_has.mpr (il_okL rfl h h0), fun h => ?_⟩
  have q := m_has.mp h
  unfold f_X6_isLine gLet
  refine (in_iff _ _ _).mpr ?_
  have e1 : (1 : Int32).toInt = 1 := by decide
  have hh := i_hi (r 0)
  have e0 : (0 : Int64).toInt = 0 := by decide
  have q1 := q.1
  have q2 := q.2
  rw [Int32.toInt_toInt64, Int32.toInt_toInt64, i_sub (by omega) (by omega), e1, e0]
  omega
theorem m_pl_in {r : gR} {l : Int32} (hi : Inv r) (hl : okL r l) : 0 ≤ (f_X6_placeOf r l).toInt ∧ (f_X6_placeOf r l).toInt ≤ (r 0).toInt := by
  have h0 : ¬ r 0 = 0 := fun e => by have := hl.1; have := hl.2; rw [e, i_z] at this; omega
  obtain ⟨l0, l1, l2, l3, l4, l5, l6⟩ := hi.pos h0
  have l7 := hi.1.2.1
  have q0 := hl.1
  have q1 := hl.2
  have d0 : nN (r 0) = (r 0).toInt.toNat := rfl
  have d1 : nN (r 1) = (r 1).toInt.toNat := rfl
  have d2 : nN (r 2) = (r 2).toInt.toNat := rfl
  have d3 : nN (r 3) = (r 3).toInt.toNat := rfl
  have d4 : nN l = l.toInt.toNat := rfl
  have e := pw_N r (n := nN (r 0)) (k := nN (r 1)) (l := nN l) (s := nN (r 2)) (g := nN (r 3)) (nI_nN (by omega)) (nI_nN (by omega)) (by omega) (by omega) (by omega) (by omega) (by omega) (by omega)
  rw [← nI_nN q0, ← nI_nN l3, ← nI_nN l5] at e
  have hm := Nat.mod_lt (nN (r 1) * nN l + nN (r 2)) (show 0 < nN (r 0) by omega)
  have hp : pwN (nN (r 0)) (nN (r 1)) (nN l) (nN (r 2)) (nN (r 3)) ≤ nN (r 0) := by
    unfold pwN
    split <;> omega
  have e2 : f_X6_placeOf r l = f_X6_placeWith r l (r 2) (r 3) := rfl
  rw [e2, e, nI_toInt (by omega)]
  omega
theorem Inv.upd {r : gR} {k : Nat} {x : Int32} (hk : 4 < k ∧ k ≠ 8 ∧ k < 78) (hi : Inv r) : Inv (upd r k x) := by
  unfold Inv
  refine ⟨ok_upd (by omega) hi.1, ?_, ?_, fun j hj => ?_⟩
  · rw [upd_ne (show 0 ≠ k by omega), upd_ne (show 1 ≠ k by omega), upd_ne (show 2 ≠ k by omega), upd_ne (show 3 ≠ k by omega)]
    exact hi.2.1
  · rw [upd_ne (show 4 ≠ k by omega)]
    exact hi.2.2.1
  · rw [upd_ne (show j ≠ k by omega)]
    exact hi.2.2.2 j hj
theorem Inv.upd4 {r : gR} {x : Int32} (hx : 0 ≤ x.toInt) (hi : Inv r) : Inv (_root_.Jvm.Pilot.CGapLinesLaw_law_r4853_803316.upd r 4 x) := by
  unfold Inv
  refine ⟨ok_upd (by omega) hi.1, ?_, ?_, fun j hj => ?_⟩
  · rw [upd_ne (show 0 ≠ 4 by omega), upd_ne (show 1 ≠ 4 by omega), upd_ne (show 2 ≠ 4 by omega), upd_ne (show 3 ≠ 4 by omega)]
    exact hi.2.1
  · rw [upd_eq]; exact hx
  · rw [upd_ne (show j ≠ 4 by omega)]
    exact hi.2.2.2 j hj
theorem Inv.upd8 {r : gR} {x : Int32} (hx : x = 0 ∨ x = 1) (hi : Inv r) : Inv (_root_.Jvm.Pilot.CGapLinesLaw_law_r4853_803316.upd r 8 x) := by
  unfold Inv
  refine ⟨ok_upd8 hx hi.1, ?_, ?_, fun j hj => ?_⟩
  · rw [upd_ne (show 0 ≠ 8 by omega), upd_ne (show 1 ≠ 8 by omega), upd_ne (show 2 ≠ 8 by omega), upd_ne (show 3 ≠ 8 by omega)]
    exact hi.2.1
  · rw [upd_ne (show 4 ≠ 8 by omega)]; exact hi.2.2.1
  · rw [upd_ne (show j ≠ 8 by omega)]
    exact hi.2.2.2 j hj
theorem m_lay_inv {r : gR} {p : Int32} (hi : Inv r) (h0 : 0 ≤ p.toInt) (h1 : p.toInt ≤ (r 0).toInt) : Inv (f_X3_layAt r p) := by
  have hk : 45 + p.toNatClampNeg < 78 := by
    have : p.toNatClampNeg = p.toInt.toNat := rfl
    have := hi.1.2.1
    omega
  unfold f_X3_layAt
  refine gIf_i (P := fun z : gR => Inv z) (fun _ => hi) (fun _ => ?_)
  refine gIf_i (P := fun z : gR => Inv z) (fun _ => ?_) (fun _ => hi)
  refine gLet_i (P := fun z : gR => Inv z) (fun r3 e3 => ?_)
  have i3 : Inv r3 := by rw [← e3]; exact hi.upd (by omega)
  have i10 := i3.upd (k := 10) (x := r3 10 + 1) (by omega)
  refine gIf_i (P := fun z : gR => Inv z) (fun _ => ?_) (fun _ => i10)
  refine gIf_i (P := fun z : gR => Inv z) (fun _ => i10.upd8 (Or.inr rfl)) (fun c => ?_)
  refine gLet_i (P := fun z : gR => Inv z) (fun r6 e6 => ?_)
  have h4 := i3.2.2.1
  have e1 : (1 : Int32).toInt = 1 := by decide
  have hh := i_hi (r3 4)
  have hp : 0 ≤ (r3 4 - 1).toInt := by
    have : (r3 4).toInt ≠ 0 := fun q => c (i_eq.mpr (by rw [q, i_z]))
    rw [i_sub (by omega) (by omega), e1]
    omega
  have i6 : Inv r6 := by rw [← e6]; exact ((i10.upd4 hp).upd (by omega)).upd (by omega)
  exact i6.upd (by omega)
/-- a line's write: the two sides give the same -/
theorem m_write {r : gR} {l v : Int32} (hi : Inv r) (hl : okL r l) : f_X3_writeLine r l v = f_X6_writeOn r l v := by
  have l7 := hi.1.2.1
  have q0 := hl.1
  have q1 := hl.2
  have hk : 13 + l.toNatClampNeg < 45 := by
    have : l.toNatClampNeg = l.toInt.toNat := rfl
    omega
  have hi4 : Inv (upd r (13 + l.toNatClampNeg) v) := hi.upd (by omega)
  have hl4 : okL (upd r (13 + l.toNatClampNeg) v) l := by unfold okL; rw [upd_ne (by omega)]; exact hl
  unfold f_X3_writeLine f_X6_writeOn
  rw [m_13 q0 (by omega)]
  simp only [gLet]
  rw [if_neg (m_has.mpr hl)]
  generalize hr4 : upd r (13 + l.toNatClampNeg) v = r4 at hi4 hl4 ⊢
  obtain ⟨p0, p1⟩ := m_pl_in hi4 hl4
  rw [m_place hl4, m_layAt p0 p1 hi4.1.2.1 hi4.2.2.1]
  have hu : Inv (f_X6_layAt r4 (f_X6_placeOf r4 l)) := by
    rw [← m_layAt p0 p1 hi4.1.2.1 hi4.2.2.1]
    exact m_lay_inv hi4 p0 p1
  have hu0 : f_X6_layAt r4 (f_X6_placeOf r4 l) 0 = r4 0 := by
    rw [← m_layAt p0 p1 hi4.1.2.1 hi4.2.2.1]
    exact m_lay_k p0 (by omega)
  have hr0 : ¬ r4 0 = 0 := fun e => by have := hl4.1; have := hl4.2; rw [e, i_z] at this; omega
  generalize f_X6_layAt r4 (f_X6_placeOf r4 l) = u at hu hu0 ⊢
  have e7 : (upd u 5 (u 5 + 1)) 7 = u 7 := upd_ne (by omega)
  rw [e7]
  have hw : Inv (upd (upd u 5 (u 5 + 1)) 7 (u 7 + 1)) := (hu.upd (by omega)).upd (by omega)
  have w0 : ¬ (upd (upd u 5 (u 5 + 1)) 7 (u 7 + 1)) 0 = 0 := by rw [upd_ne (by omega), upd_ne (by omega), hu0]; exact hr0
  have w8 : (upd (upd u 5 (u 5 + 1)) 7 (u 7 + 1)) 8 = u 8 := by rw [upd_ne (by omega), upd_ne (by omega)]
  have w7 : (upd (upd u 5 (u 5 + 1)) 7 (u 7 + 1)) 7 = u 7 + 1 := upd_eq
  have w12 : (upd (upd u 5 (u 5 + 1)) 7 (u 7 + 1)) 12 = u 12 := by rw [upd_ne (by omega), upd_ne (by omega)]
  rw [w8, w7, w12, m_move hw w0]
theorem Inv.upd3 {r : gR} {x : Int32} (hn : ¬ r 0 = 0) (h0 : 0 ≤ x.toInt) (h1 : x.toInt ≤ (r 0).toInt) (hi : Inv r) : Inv (_root_.Jvm.Pilot.CGapLinesLaw_law_r4853_803316.upd r 3 x) := by
  obtain ⟨l0, l1, l2, l3, l4, l5, l6⟩ := hi.pos hn
  unfold Inv
  refine ⟨ok_upd (by omega) hi.1, ?_, ?_, fun j hj => ?_⟩
  · rw [upd_ne (show 0 ≠ 3 by omega), upd_ne (show 1 ≠ 3 by omega), upd_ne (show 2 ≠ 3 by omega), upd_eq]
    exact Or.inr ⟨l0, l1, l2, l3, l4, h0, h1⟩
  · rw [upd_ne (show 4 ≠ 3 by omega)]; exact hi.2.2.1
  · rw [upd_ne (show j ≠ 3 by omega)]
    exact hi.2.2.2 j hj
theorem Inv.upd2 {r : gR} {x : Int32} (hn : ¬ r 0 = 0) (h0 : 0 ≤ x.toInt) (h1 : x.toInt < (r 0).toInt) (hi : Inv r) : Inv (_root_.Jvm.Pilot.CGapLinesLaw_law_r4853_803316.upd r 2 x) := by
  obtain ⟨l0, l1, l2, l3, l4, l5, l6⟩ := hi.pos hn
  unfold Inv
  refine ⟨ok_upd (by omega) hi.1, ?_, ?_, fun j hj => ?_⟩
  · rw [upd_ne (show 0 ≠ 2 by omega), upd_ne (show 1 ≠ 2 by omega), upd_ne (show 3 ≠ 2 by omega), upd_eq]
    exact Or.inr ⟨l0, l1, l2, h0, h1, l5, l6⟩
  · rw [upd_ne (show 4 ≠ 2 by omega)]; exact hi.2.2.1
  · rw [upd_ne (show j ≠ 2 by omega)]
    exact hi.2.2.2 j hj
theorem m_move_inv {r : gR} (hi : Inv r) (h : ¬ r 0 = 0) : Inv (f_X3_moveGap r) := by
  obtain ⟨l0, l1, l2, l3, l4, l5, l6⟩ := hi.pos h
  have l7 := hi.1.2.1
  have e1 : (1 : Int32).toInt = 1 := by decide
  unfold f_X3_moveGap
  refine gLet_i (P := fun z : gR => Inv z) (fun u eu => ?_)
  have iu : Inv u := by rw [← eu]; exact m_lay_inv hi l5 l6
  have k0 : u 0 = r 0 := by rw [← eu]; exact m_lay_k l5 (by omega)
  have k2 : u 2 = r 2 := by rw [← eu]; exact m_lay_k l5 (by omega)
  have k3 : u 3 = r 3 := by rw [← eu]; exact m_lay_k l5 (by omega)
  have hu : ¬ u 0 = 0 := by rw [k0]; exact h
  refine gIf_i (P := fun z : gR => Inv z) (fun c => ?_) (fun c => ?_)
  · have i3 : Inv (upd u 3 (u 0)) := iu.upd3 hu (by rw [k0]; omega) (Int.le_refl _)
    have h3 : (upd u 3 (u 0)) 0 = u 0 := upd_ne (by omega)
    refine gIf_i (P := fun z : gR => Inv z) (fun d => ?_) (fun d => ?_)
    · exact ((i3.upd2 (by rw [h3]; exact hu) (by rw [i_z]; exact Int.le_refl _) (by rw [h3, k0, i_z]; omega)).upd (by omega)).upd (by omega)
    · have d1 := i_lt.mp (Int32.not_le.mp d)
      have d2 : (u 2 + 1).toInt = (u 2).toInt + 1 := by rw [i_add (by rw [k2, e1]; omega) (by rw [k2, e1]; omega), e1]
      exact ((i3.upd2 (by rw [h3]; exact hu) (by rw [d2, k2]; omega) (by rw [h3]; exact d1)).upd (by omega)).upd (by omega)
  · have c1 := i_lt.mp (Int32.not_le.mp c)
    rw [i_z] at c1
    have d2 : (u 3 - 1).toInt = (u 3).toInt - 1 := by rw [i_sub (by rw [k3, e1]; omega) (by rw [k3, e1]; omega), e1]
    exact ((iu.upd3 hu (by rw [d2]; omega) (by rw [d2, k3, k0]; omega)).upd (by omega)).upd (by omega)
theorem m_write_inv {r : gR} {l v : Int32} (hi : Inv r) : Inv (f_X3_writeLine r l v).2 := by
  unfold f_X3_writeLine
  refine gLet_i (P := fun z : Int32 × gR => Inv z.2) (fun a ea => ?_)
  refine gIf_i (P := fun z : Int32 × gR => Inv z.2) (fun _ => hi) (fun c => ?_)
  have hl : okL r l := m_has.mp (by rw [ea]; exact c)
  have l7 := hi.1.2.1
  have q0 := hl.1
  have q1 := hl.2
  have hk : 13 + l.toNatClampNeg < 45 := by
    have : l.toNatClampNeg = l.toInt.toNat := rfl
    omega
  refine gLet_i (P := fun z : Int32 × gR => Inv z.2) (fun r4 e4 => ?_)
  have i4 : Inv r4 := by rw [← e4]; exact hi.upd (by omega)
  have hl4 : okL r4 l := by rw [← e4]; unfold okL; rw [upd_ne (by omega)]; exact hl
  obtain ⟨p0, p1⟩ := m_pl_in i4 hl4
  refine gLet_i (P := fun z : Int32 × gR => Inv z.2) (fun pl epl => ?_)
  rw [m_place hl4] at epl
  rw [epl] at p0 p1
  refine gLet_i (P := fun z : Int32 × gR => Inv z.2) (fun u eu => ?_)
  have iu : Inv u := by rw [← eu]; exact m_lay_inv i4 p0 p1
  have u0 : u 0 = r4 0 := by rw [← eu]; exact m_lay_k p0 (by omega)
  have hr0 : ¬ r4 0 = 0 := fun e => by have := hl4.1; have := hl4.2; rw [e, i_z] at this; omega
  have iw : Inv (upd (upd u 5 (u 5 + 1)) 7 (u 7 + 1)) := (iu.upd (by omega)).upd (by omega)
  have w0 : ¬ (upd (upd u 5 (u 5 + 1)) 7 (u 7 + 1)) 0 = 0 := by rw [upd_ne (by omega), upd_ne (by omega), u0]; exact hr0
  refine gIf_i (P := fun z : Int32 × gR => Inv z.2) (fun _ => ?_) (fun _ => iw)
  refine gIf_i (P := fun z : Int32 × gR => Inv z.2) (fun _ => iw) (fun _ => ?_)
  refine gLet_i (P := fun z : Int32 × gR => Inv z.2) (fun w ew => ?_)
  exact (show Inv w by rw [← ew]; exact m_move_inv iw w0)
theorem m_write_0 (r : gR) (l v : Int32) : (f_X3_writeLine r l v).2 0 = r 0 := z_X3_writeLine r l v
theorem m_value {r : gR} {l : Int32} (hl : okL r l) (h : (r 0).toInt ≤ 32) : f_X3_valueOf r l = r ((13 + l).toNatClampNeg) := by
  have q0 := hl.1
  have q1 := hl.2
  unfold f_X3_valueOf
  simp only [gLet]
  rw [if_neg (m_has.mpr hl), m_13 q0 (by omega)]
theorem m_hammer_L {l m : Int32} : ∀ (n : Nat) (i : Int32) (r : gR), Inv r → okL r l → f_X3_hammerLine_L2 l m n i r = f_X6_hammerOn_L2 l m n i r
  | 0, _, _, _, _ => rfl
  | n + 1, i, r, hi, hl => by
    rw [f_X3_hammerLine_L2_s, f_X6_hammerOn_L2_s]
    simp only [gLet]
    rw [m_value hl hi.1.2.1, m_write hi hl]
    have h1 : Inv (f_X6_writeOn r l (r ((13 + l).toNatClampNeg))).2 := by rw [← m_write hi hl]; exact m_write_inv hi
    have h2 : okL (f_X6_writeOn r l (r ((13 + l).toNatClampNeg))).2 l := by rw [← m_write hi hl]; unfold okL; rw [m_write_0]; exact hl
    rw [m_hammer_L n (i + 1) _ h1 h2]
theorem m_hammer_inv {l m : Int32} : ∀ (n : Nat) (i : Int32) (r : gR), Inv r → Inv (f_X3_hammerLine_L2 l m n i r).2
  | 0, _, _, hi => hi
  | n + 1, i, r, hi => by
    rw [f_X3_hammerLine_L2_s]
    refine gIf_i (P := fun z : Int32 × gR => Inv z.2) (fun _ => hi) (fun _ => ?_)
    refine gIf_i (P := fun z : Int32 × gR => Inv z.2) (fun _ => ?_) (fun _ => hi)
    refine gLet_i (P := fun z : Int32 × gR => Inv z.2) (fun v ev => ?_)
    refine gLet_i (P := fun z : Int32 × gR => Inv z.2) (fun q eq => ?_)
    exact m_hammer_inv n (i + 1) _ (by rw [← eq]; exact m_write_inv hi)
