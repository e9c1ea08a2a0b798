/-! THE TWO SIDES AGREE: wears and values stay in their ranges -/
def InvW (r : gR) : Prop := (r 11).toInt ≤ 999 ∧ (∀ j, j < 33 → 0 ≤ (r (45 + j)).toInt ∧ (r (45 + j)).toInt ≤ 999 ∧ (r 8 = 0 → (r (45 + j)).toInt ≤ 998)) ∧ ∀ j, j < 32 → 0 ≤ (r (13 + j)).toInt ∧ (r (13 + j)).toInt ≤ 999
theorem InvW.upd0 {r : gR} {k : Nat} {x : Int32} (hk : k < 13 ∧ k ≠ 11 ∧ k ≠ 8) (h : InvW r) : InvW (upd r k x) := by
  refine ⟨?_, fun j hj => ?_, fun j hj => ?_⟩
  · rw [upd_ne (show 11 ≠ k by omega)]; exact h.1
  · rw [upd_ne (show 45 + j ≠ k by omega), upd_ne (show 8 ≠ k by omega)]; exact h.2.1 j hj
  · rw [upd_ne (show 13 + j ≠ k by omega)]; exact h.2.2 j hj
theorem InvW.upd11 {r : gR} {x : Int32} (hx : x.toInt ≤ 999) (h : InvW r) : InvW (upd r 11 x) := by
  refine ⟨?_, fun j hj => ?_, fun j hj => ?_⟩
  · rw [upd_eq]; exact hx
  · rw [upd_ne (show 45 + j ≠ 11 by omega), upd_ne (show 8 ≠ 11 by omega)]; exact h.2.1 j hj
  · rw [upd_ne (show 13 + j ≠ 11 by omega)]; exact h.2.2 j hj
theorem InvW.updV {r : gR} {k : Nat} {x : Int32} (hk : k < 32) (h0 : 0 ≤ x.toInt) (h1 : x.toInt ≤ 999) (h : InvW r) : InvW (upd r (13 + k) x) := by
  refine ⟨?_, fun j hj => ?_, fun j hj => ?_⟩
  · rw [upd_ne (show 11 ≠ 13 + k by omega)]; exact h.1
  · rw [upd_ne (show 45 + j ≠ 13 + k by omega), upd_ne (show 8 ≠ 13 + k by omega)]; exact h.2.1 j hj
  · by_cases e : j = k
    · rw [e, upd_eq]; exact ⟨h0, h1⟩
    · rw [upd_ne (show 13 + j ≠ 13 + k by omega)]; exact h.2.2 j hj
theorem InvW.updW {r : gR} {k : Nat} {x : Int32} (hk : k < 33) (h0 : 0 ≤ x.toInt) (h1 : x.toInt ≤ 999) (h2 : r 8 = 0 → x.toInt ≤ 998) (h : InvW r) : InvW (upd r (45 + k) x) := by
  refine ⟨?_, fun j hj => ?_, fun j hj => ?_⟩
  · rw [upd_ne (show 11 ≠ 45 + k by omega)]; exact h.1
  · rw [upd_ne (show 8 ≠ 45 + k by omega)]
    by_cases e : j = k
    · rw [e, upd_eq]; exact ⟨h0, h1, h2⟩
    · rw [upd_ne (show 45 + j ≠ 45 + k by omega)]; exact h.2.1 j hj
  · rw [upd_ne (show 13 + j ≠ 45 + k by omega)]; exact h.2.2 j hj
theorem m_lay_W {r : gR} {p : Int32} (h : InvW r) (h8 : r 8 = 0) (h0 : 0 ≤ p.toInt) (h1 : p.toInt ≤ 32) : InvW (f_X3_layAt r p) := by
  have hp : p.toNatClampNeg < 33 := by
    have : p.toNatClampNeg = p.toInt.toNat := rfl
    omega
  obtain ⟨w0, w1, w2⟩ := h.2.1 _ hp
  have w3 := w2 h8
  have e1 : (1 : Int32).toInt = 1 := by decide
  have ew : (r (45 + p.toNatClampNeg) + 1).toInt = (r (45 + p.toNatClampNeg)).toInt + 1 := by rw [i_add (by omega) (by omega), e1]
  unfold f_X3_layAt
  refine gIf_i (P := fun z : gR => InvW z) (fun _ => h) (fun _ => ?_)
  refine gIf_i (P := fun z : gR => InvW z) (fun _ => ?_) (fun _ => h)
  refine gLet_i (P := fun z : gR => InvW z) (fun r3 e3 => ?_)
  have a8 : r3 8 = 0 := by rw [← e3, upd_ne (by omega)]; exact h8
  have a11 : r3 11 = r 11 := by rw [← e3, upd_ne (by omega)]
  have a45 : upd r3 10 (r3 10 + 1) (45 + p.toNatClampNeg) = r (45 + p.toNatClampNeg) + 1 := by rw [upd_ne (by omega), ← e3, upd_eq]
  rw [a45, a11]
  -- the dead store, or the one with a spare medium: the place's number is set anew; the others stay
  have hdead : InvW (upd (upd r3 10 (r3 10 + 1)) 8 1) := by
    refine ⟨?_, fun j hj => ?_, fun j hj => ?_⟩
    · rw [upd_ne (by omega), upd_ne (by omega), a11]; exact h.1
    · rw [upd_ne (show 45 + j ≠ 8 by omega), upd_ne (show 45 + j ≠ 10 by omega), upd_eq]
      by_cases e : j = p.toNatClampNeg
      · rw [← e3, e, upd_eq, ew]
        exact ⟨by omega, by omega, fun q => absurd q (by decide)⟩
      · rw [← e3, upd_ne (show 45 + j ≠ 45 + p.toNatClampNeg by omega)]
        exact ⟨(h.2.1 j hj).1, (h.2.1 j hj).2.1, fun q => absurd q (by decide)⟩
    · rw [upd_ne (show 13 + j ≠ 8 by omega), upd_ne (show 13 + j ≠ 10 by omega), ← e3, upd_ne (show 13 + j ≠ 45 + p.toNatClampNeg by omega)]
      exact h.2.2 j hj
  refine gIf_i (P := fun z : gR => InvW z) (fun c => ?_) (fun c => ?_)
  · refine gIf_i (P := fun z : gR => InvW z) (fun _ => hdead) (fun _ => ?_)
    refine gLet_i (P := fun z : gR => InvW z) (fun r6 e6 => ?_)
    refine InvW.upd0 (by omega) ?_
    rw [← e6, ← e3]
    have : upd (upd (upd (upd (upd r (45 + p.toNatClampNeg) (r (45 + p.toNatClampNeg) + 1)) 10 ((upd r (45 + p.toNatClampNeg) (r (45 + p.toNatClampNeg) + 1)) 10 + 1)) 4 ((upd r (45 + p.toNatClampNeg) (r (45 + p.toNatClampNeg) + 1)) 4 - 1)) 9 ((upd r (45 + p.toNatClampNeg) (r (45 + p.toNatClampNeg) + 1)) 9 + 1)) (45 + p.toNatClampNeg) 1 = upd (upd (upd (upd r 10 ((upd r (45 + p.toNatClampNeg) (r (45 + p.toNatClampNeg) + 1)) 10 + 1)) 4 ((upd r (45 + p.toNatClampNeg) (r (45 + p.toNatClampNeg) + 1)) 4 - 1)) 9 ((upd r (45 + p.toNatClampNeg) (r (45 + p.toNatClampNeg) + 1)) 9 + 1)) (45 + p.toNatClampNeg) 1 := by
      funext j
      by_cases e : j = 45 + p.toNatClampNeg
      · rw [e, upd_eq, upd_eq]
      · rw [upd_ne e, upd_ne e]
        unfold upd
        repeat' split
        all_goals first | rfl | exact absurd (by assumption) e
    rw [this]
    exact (((h.upd0 (by omega)).upd0 (by omega)).upd0 (by omega)).updW hp (by decide) (by decide) (fun _ => by decide)
  · have c1 := i_lt.mp (Int32.not_le.mp c)
    have hr := h.1
    refine InvW.upd0 (by omega) ?_
    rw [← e3]
    exact h.updW hp (by omega) (by omega) (fun _ => by omega)
theorem m_move_W {r : gR} (hi : Inv r) (h : InvW r) (h8 : r 8 = 0) (hn : ¬ r 0 = 0) : InvW (f_X3_moveGap r) := by
  obtain ⟨l0, l1, l2, l3, l4, l5, l6⟩ := hi.pos hn
  have l7 := hi.1.2.1
  unfold f_X3_moveGap
  refine gLet_i (P := fun z : gR => InvW z) (fun u eu => ?_)
  have iu : InvW u := by rw [← eu]; exact m_lay_W h h8 l5 (by omega)
  refine gIf_i (P := fun z : gR => InvW z) (fun _ => ?_) (fun _ => ?_)
  · refine gIf_i (P := fun z : gR => InvW z) (fun _ => ?_) (fun _ => ?_)
    · exact (((iu.upd0 (by omega)).upd0 (by omega)).upd0 (by omega)).upd0 (by omega)
    · exact (((iu.upd0 (by omega)).upd0 (by omega)).upd0 (by omega)).upd0 (by omega)
  · exact ((iu.upd0 (by omega)).upd0 (by omega)).upd0 (by omega)
theorem m_write_W {r : gR} {l v : Int32} (hi : Inv r) (h : InvW r) (h8 : r 8 = 0) (hv : okL r l → 0 ≤ v.toInt ∧ v.toInt ≤ 999) : InvW (f_X3_writeLine r l v).2 := by
  unfold f_X3_writeLine
  refine gLet_i (P := fun z : Int32 × gR => InvW z.2) (fun a ea => ?_)
  refine gIf_i (P := fun z : Int32 × gR => InvW z.2) (fun _ => h) (fun c => ?_)
  have hl : okL r l := m_has.mp (by rw [ea]; exact c)
  have l7 := hi.1.2.1
  have q0 := hl.1
  have q1 := hl.2
  have hk : l.toNatClampNeg < 32 := by
    have : l.toNatClampNeg = l.toInt.toNat := rfl
    omega
  refine gLet_i (P := fun z : Int32 × gR => InvW z.2) (fun r4 e4 => ?_)
  have i4 : Inv r4 := by rw [← e4]; exact hi.upd (by omega)
  have w4 : InvW r4 := by rw [← e4]; exact h.updV hk (hv hl).1 (hv hl).2
  have d4 : r4 8 = 0 := by rw [← e4, upd_ne (by omega)]; exact h8
  have hl4 : okL r4 l := by rw [← e4]; unfold okL; rw [upd_ne (by omega)]; exact hl
  obtain ⟨p0, p1⟩ := m_pl_in i4 hl4
  refine gLet_i (P := fun z : Int32 × gR => InvW z.2) (fun pl epl => ?_)
  rw [m_place hl4] at epl
  rw [epl] at p0 p1
  have l74 := i4.1.2.1
  refine gLet_i (P := fun z : Int32 × gR => InvW z.2) (fun u eu => ?_)
  have iu : Inv u := by rw [← eu]; exact m_lay_inv i4 p0 p1
  have wu : InvW u := by rw [← eu]; exact m_lay_W w4 d4 p0 (by omega)
  have u0 : u 0 = r4 0 := by rw [← eu]; exact m_lay_k p0 (by omega)
  have hr0 : ¬ r4 0 = 0 := fun e => by have := hl4.1; have := hl4.2; rw [e, i_z] at this; omega
  have iw : Inv (upd (upd u 5 (u 5 + 1)) 7 (u 7 + 1)) := (iu.upd (by omega)).upd (by omega)
  have ww : InvW (upd (upd u 5 (u 5 + 1)) 7 (u 7 + 1)) := (wu.upd0 (by omega)).upd0 (by omega)
  have w0 : ¬ (upd (upd u 5 (u 5 + 1)) 7 (u 7 + 1)) 0 = 0 := by rw [upd_ne (by omega), upd_ne (by omega), u0]; exact hr0
  refine gIf_i (P := fun z : Int32 × gR => InvW z.2) (fun c8 => ?_) (fun _ => ww)
  refine gIf_i (P := fun z : Int32 × gR => InvW z.2) (fun _ => ww) (fun _ => ?_)
  refine gLet_i (P := fun z : Int32 × gR => InvW z.2) (fun w ew => ?_)
  exact (show InvW w by rw [← ew]; exact m_move_W iw ww (by rw [upd_ne (by omega), upd_ne (by omega)]; exact c8) w0)
/-- where there is no store, there is nothing but the settings -/
def InvZ (r : gR) : Prop := r 0 = 0 → ∀ k, k ≠ 11 → k ≠ 12 → r k = 0
theorem InvZ.upd {r : gR} {k : Nat} {x : Int32} (hk : k = 11 ∨ k = 12) (h : InvZ r) : InvZ (upd r k x) := by
  intro e j h1 h2
  rw [upd_ne (show 0 ≠ k by omega)] at e
  rw [upd_ne (show j ≠ k by omega)]
  exact h e j h1 h2
theorem m_write_Z {r : gR} {l v : Int32} (h : InvZ r) : InvZ (f_X3_writeLine r l v).2 := by
  intro e
  rw [m_write_0] at e
  have hn : f_X3_hasLine r l = 0 := Classical.byContradiction fun q => by
    have := m_has.mp q
    have h1 := this.1
    have h2 := this.2
    rw [e, i_z] at h2
    omega
  have e2 : f_X3_writeLine r l v = (-1, r) := by
    unfold f_X3_writeLine
    simp only [gLet]
    rw [hn, if_pos rfl]
  rw [e2]
  exact h e
/-- what a store's numbers keep, all of it -/
def InvA (r : gR) : Prop := Inv r ∧ InvW r ∧ InvZ r
theorem InvA.tl {r : gR} (h : InvA r) : Tl r := h.1.2.2.2
theorem InvA.val {r : gR} (h : InvA r) {l : Int32} (hl : okL r l) : 0 ≤ (r (13 + l.toNatClampNeg)).toInt ∧ (r (13 + l.toNatClampNeg)).toInt ≤ 999 := by
  have l7 := h.1.1.2.1
  have q0 := hl.1
  have q1 := hl.2
  have : l.toNatClampNeg = l.toInt.toNat := rfl
  exact h.2.1.2.2 _ (by omega)
theorem m_valueV {r : gR} {l : Int32} (hl : okL r l) : f_X3_valueOf r l = r (13 + l.toNatClampNeg) := by
  unfold f_X3_valueOf
  simp only [gLet]
  rw [if_neg (m_has.mpr hl)]
theorem m_write_A {r : gR} {l v : Int32} (h : InvA r) (h8 : r 8 = 0) (hv : okL r l → 0 ≤ v.toInt ∧ v.toInt ≤ 999) : InvA (f_X3_writeLine r l v).2 := ⟨m_write_inv h.1, m_write_W h.1 h.2.1 h8 hv, m_write_Z h.2.2⟩
theorem m_had {r : gR} {l v : Int32} (hl : okL r l) : (f_X3_writeLine r l v).1 = r (13 + l.toNatClampNeg) := by
  unfold f_X3_writeLine
  refine gLet_i (P := fun z : Int32 × gR => z.1 = r (13 + l.toNatClampNeg)) (fun a ea => ?_)
  rw [if_neg (show ¬ a = 0 from fun e => m_has.mpr hl (by rw [ea]; exact e))]
  refine gLet_i (P := fun z : Int32 × gR => z.1 = r (13 + l.toNatClampNeg)) (fun r4 _ => ?_)
  refine gLet_i (P := fun z : Int32 × gR => z.1 = r (13 + l.toNatClampNeg)) (fun pl _ => ?_)
  refine gLet_i (P := fun z : Int32 × gR => z.1 = r (13 + l.toNatClampNeg)) (fun u _ => ?_)
  refine gIf_i (P := fun z : Int32 × gR => z.1 = r (13 + l.toNatClampNeg)) (fun _ => ?_) (fun _ => rfl)
  refine gIf_i (P := fun z : Int32 × gR => z.1 = r (13 + l.toNatClampNeg)) (fun _ => rfl) (fun _ => ?_)
  refine gLet_i (P := fun z : Int32 × gR => z.1 = r (13 + l.toNatClampNeg)) (fun _ _ => rfl)
theorem m_hammer_A {l m : Int32} : ∀ (n : Nat) (i : Int32) (r : gR), InvA r → InvA (f_X3_hammerLine_L2 l m n i r).2
  | 0, _, _, hi => hi
  | n + 1, i, r, hi => by
    rw [f_X3_hammerLine_L2_s]
    refine gIf_i (P := fun z : Int32 × gR => InvA z.2) (fun _ => hi) (fun _ => ?_)
    refine gIf_i (P := fun z : Int32 × gR => InvA z.2) (fun c8 => ?_) (fun _ => hi)
    refine gLet_i (P := fun z : Int32 × gR => InvA z.2) (fun v ev => ?_)
    refine gLet_i (P := fun z : Int32 × gR => InvA z.2) (fun q eq => ?_)
    exact m_hammer_A n (i + 1) _ (by rw [← eq]; exact m_write_A hi c8 (fun hl => by rw [← ev, m_valueV hl]; exact hi.val hl))
theorem m_turn_A {m : Int32} : ∀ (n : Nat) (i l : Int32) (r : gR), InvA r → InvA (f_X3_writeInTurn_L4 m n i l r).2
  | 0, _, _, _, hi => hi
  | n + 1, i, l, r, hi => by
    rw [f_X3_writeInTurn_L4_s]
    refine gIf_i (P := fun z : Int32 × gR => InvA z.2) (fun _ => hi) (fun _ => ?_)
    refine gIf_i (P := fun z : Int32 × gR => InvA z.2) (fun c8 => ?_) (fun _ => hi)
    refine gLet_i (P := fun z : Int32 × gR => InvA z.2) (fun v ev => ?_)
    refine gLet_i (P := fun z : Int32 × gR => InvA z.2) (fun q eq => ?_)
    have hq : InvA q.2 := by rw [← eq]; exact m_write_A hi c8 (fun hl => by rw [← ev, m_valueV hl]; exact hi.val hl)
    exact gIf_i (P := fun z : Int32 × gR => InvA z.2) (fun _ => m_turn_A n _ _ _ hq) (fun _ => m_turn_A n _ _ _ hq)
theorem m_hammer {r : gR} {l m : Int32} (h : InvA r) (hl : okL r l) : f_X3_hammerLine r l m = f_X6_hammerOn r l m := m_hammer_L _ _ _ h.1 hl
theorem m_hammerA {r : gR} {l m : Int32} (h : InvA r) : InvA (f_X3_hammerLine r l m).2 := m_hammer_A _ _ _ h
theorem m_all {r : gR} {m : Int32} (h : InvA r) (hn : ¬ r 0 = 0) (hm : m.toInt < 100000) : f_X3_writeInTurn r m = f_X6_allOn r m := by
  have e := m_all_L (m := m) hm ((m.toInt - (0 : Int32).toInt).toNat + 1) 0 r h.1 hn (by omega)
  rw [Nat.zero_mod] at e
  exact e
theorem m_allA {r : gR} {m : Int32} (h : InvA r) : InvA (f_X3_writeInTurn r m).2 := m_turn_A _ _ _ _ h
/-- the number of the writes done is not negative -/
theorem m_ham_0 {l m : Int32} : ∀ (n i : Nat) (r : gR), i + n < 100000 → 0 ≤ (f_X6_hammerOn_L2 l m n (nI i) r).1.toInt
  | 0, _, _, _ => by show 0 ≤ (0 : Int32).toInt; decide
  | n + 1, i, r, hi => by
    rw [f_X6_hammerOn_L2_s]
    have h0 : 0 ≤ (nI i).toInt := by rw [nI_toInt (by omega)]; omega
    refine gIf_i (P := fun z : Int32 × gR => 0 ≤ z.1.toInt) (fun _ => h0) (fun _ => ?_)
    refine gIf_i (P := fun z : Int32 × gR => 0 ≤ z.1.toInt) (fun _ => ?_) (fun _ => h0)
    refine gLet_i (P := fun z : Int32 × gR => 0 ≤ z.1.toInt) (fun q _ => ?_)
    rw [nI_1]
    exact m_ham_0 n (i + 1) _ (by omega)
theorem m_hammer_0 {r : gR} {l m : Int32} (hm : m.toInt < 50000) : ¬ (f_X6_hammerOn r l m).1 < 0 := by
  have e : 0 ≤ (f_X6_hammerOn r l m).1.toInt := m_ham_0 ((m.toInt - (0 : Int32).toInt).toNat + 1) 0 r (by rw [i_z]; omega)
  rw [i_lt, i_z]; omega
theorem m_al_0 {m : Int32} : ∀ (n i : Nat) (r : gR), i + n < 100000 → 0 ≤ (f_X6_allOn_L2 m n (nI i) r).1.toInt
  | 0, _, _, _ => by show 0 ≤ (0 : Int32).toInt; decide
  | n + 1, i, r, hi => by
    rw [f_X6_allOn_L2_s]
    have h0 : 0 ≤ (nI i).toInt := by rw [nI_toInt (by omega)]; omega
    refine gIf_i (P := fun z : Int32 × gR => 0 ≤ z.1.toInt) (fun _ => h0) (fun _ => ?_)
    refine gIf_i (P := fun z : Int32 × gR => 0 ≤ z.1.toInt) (fun _ => ?_) (fun _ => h0)
    refine gLet_i (P := fun z : Int32 × gR => 0 ≤ z.1.toInt) (fun v _ => ?_)
    refine gLet_i (P := fun z : Int32 × gR => 0 ≤ z.1.toInt) (fun q _ => ?_)
    rw [nI_1]
    exact m_al_0 n (i + 1) _ (by omega)
theorem m_all_0 {r : gR} {m : Int32} (hm : m.toInt < 50000) : ¬ (f_X6_allOn r m).1 < 0 := by
  have e : 0 ≤ (f_X6_allOn r m).1.toInt := m_al_0 ((m.toInt - (0 : Int32).toInt).toNat + 1) 0 r (by rw [i_z]; omega)
  rw [i_lt, i_z]; omega
theorem m_gr_L {r : gR} (h0 : 0 ≤ (r 0).toInt) (h1 : (r 0).toInt ≤ 32) : ∀ (n i : Nat) (x : Int32), i < 1000 → f_X3_greatestWear_L9 r n x (nI i) = f_X6_greatest_L4 r n x (nI i)
  | 0, _, _, _ => rfl
  | n + 1, i, x, hi => by
    rw [f_X3_greatestWear_L9_s, f_X6_greatest_L4_s]
    by_cases c : r 0 < nI i
    · rw [if_pos c, if_pos c]
    · rw [if_neg c, if_neg c]
      have c1 := i_le.mp (Int32.not_lt.mp c)
      rw [nI_toInt (by omega)] at c1
      have e : (45 + nI i).toNatClampNeg = 45 + i := by rw [show (45 : Int32) = nI 45 from rfl, nI_add, nI_clamp (by omega)]
      simp only [gLet]
      rw [e, nI_clamp (by omega), nI_1]
      by_cases d : x < r (45 + i)
      · rw [if_pos d, if_neg (Int32.not_le.mpr d)]; exact m_gr_L h0 h1 n (i + 1) _ (by omega)
      · rw [if_neg d, if_pos (Int32.not_lt.mp d)]; exact m_gr_L h0 h1 n (i + 1) _ (by omega)
theorem m_le_L {r : gR} (h0 : 0 ≤ (r 0).toInt) (h1 : (r 0).toInt ≤ 32) : ∀ (n i : Nat) (x : Int32), i < 1000 → f_X3_leastWear_L9 r n x (nI i) = f_X6_least_L7 r n x (nI i)
  | 0, _, _, _ => rfl
  | n + 1, i, x, hi => by
    rw [f_X3_leastWear_L9_s, f_X6_least_L7_s]
    by_cases c : r 0 < nI i
    · rw [if_pos c, if_pos c]
    · rw [if_neg c, if_neg c]
      have c1 := i_le.mp (Int32.not_lt.mp c)
      rw [nI_toInt (by omega)] at c1
      have e : (45 + nI i).toNatClampNeg = 45 + i := by rw [show (45 : Int32) = nI 45 from rfl, nI_add, nI_clamp (by omega)]
      simp only [gLet]
      rw [e, nI_clamp (by omega), nI_1]
      by_cases d : r (45 + i) < x
      · rw [if_pos d, if_neg (Int32.not_le.mpr d)]; exact m_le_L h0 h1 n (i + 1) _ (by omega)
      · rw [if_neg d, if_pos (Int32.not_lt.mp d)]; exact m_le_L h0 h1 n (i + 1) _ (by omega)
theorem m_greatest {r : gR} (h : InvA r) : f_X3_greatestWear r = f_X6_greatest r := by
  have h0 := h.1.1.1
  have h1 := h.1.1.2.1
  have w0 := (h.2.1.2.1 0 (by omega)).1
  have e1 : (1 : Int32).toInt = 1 := by decide
  unfold f_X3_greatestWear f_X6_greatest
  rw [show (((r 0).toInt + 1 - (0 : Int32).toInt).toNat + 1) = (((r 0).toInt + 1 - (1 : Int32).toInt).toNat + 1) + 1 by rw [i_z, e1]; omega, f_X6_greatest_L4_s, if_neg (show ¬ r 0 < 0 by rw [i_lt, i_z]; omega)]
  have e : f_X3_greatestWear_L9 r (((r 0).toInt + 1 - (1 : Int32).toInt).toNat + 1) (r 45) 1 = f_X6_greatest_L4 r (((r 0).toInt + 1 - (1 : Int32).toInt).toNat + 1) (r 45) 1 := m_gr_L h0 h1 _ 1 _ (by omega)
  rw [e]
  have e2 : ((45 : Int32) + 0).toNatClampNeg = 45 := by decide
  rw [e2]
  by_cases c : r 45 ≤ 0
  · rw [if_pos c]
    have c1 := i_le.mp c
    rw [i_z] at c1
    have : r 45 = 0 := i_eq.mpr (by rw [i_z]; exact Int.le_antisymm c1 w0)
    rw [this]
    rfl
  · rw [if_neg c]
    rfl
theorem m_least {r : gR} (h : InvA r) : f_X3_leastWear r = f_X6_least r := by
  have h0 := h.1.1.1
  have h1 := h.1.1.2.1
  have e1 : (1 : Int32).toInt = 1 := by decide
  unfold f_X3_leastWear f_X6_least
  rw [show (((r 0).toInt + 1 - (0 : Int32).toInt).toNat + 1) = (((r 0).toInt + 1 - (1 : Int32).toInt).toNat + 1) + 1 by rw [i_z, e1]; omega, f_X6_least_L7_s, if_neg (show ¬ r 0 < 0 by rw [i_lt, i_z]; omega)]
  have e : f_X3_leastWear_L9 r (((r 0).toInt + 1 - (1 : Int32).toInt).toNat + 1) (r 45) 1 = f_X6_least_L7 r (((r 0).toInt + 1 - (1 : Int32).toInt).toNat + 1) (r 45) 1 := m_le_L h0 h1 _ 1 _ (by omega)
  rw [e]
  have e2 : ((45 : Int32) + 0).toNatClampNeg = 45 := by decide
  rw [e2, if_pos (Int32.le_refl _)]
  rfl
/-- a new store keeps it -/
theorem m_bg_A {r : gR} {n k s : Nat} (h : InvA r) (h0 : 4 ≤ n) (h1 : n ≤ 32) (h2 : 1 ≤ k) (h3 : k < n) (h4 : s ≤ 4) : InvA (bgF r (nI n) (nI k) (nI s)) := by
  have b0 : bgF r (nI n) (nI k) (nI s) 0 = nI n := rfl
  have b1 : bgF r (nI n) (nI k) (nI s) 1 = nI k := rfl
  have b2 : bgF r (nI n) (nI k) (nI s) 2 = 0 := rfl
  have b3 : bgF r (nI n) (nI k) (nI s) 3 = nI n := rfl
  have b4 : bgF r (nI n) (nI k) (nI s) 4 = nI s := rfl
  have b8 : bgF r (nI n) (nI k) (nI s) 8 = 0 := rfl
  have b11 : bgF r (nI n) (nI k) (nI s) 11 = r 11 := rfl
  have bz : ∀ j, 13 ≤ j → bgF r (nI n) (nI k) (nI s) j = 0 := fun j hj => by
    unfold bgF
    rw [if_neg (by omega), if_neg (by omega), if_neg (by omega), if_neg (by omega), if_neg (by omega), if_neg (by omega)]
  have tn : (nI n).toInt = n := nI_toInt (by omega)
  have tk : (nI k).toInt = k := nI_toInt (by omega)
  have ts : (nI s).toInt = s := nI_toInt (by omega)
  refine ⟨⟨⟨?_, ?_, Or.inl b8⟩, Or.inr ?_, ?_, fun j hj => bz j (by omega)⟩, ⟨?_, fun j hj => ?_, fun j hj => ?_⟩, fun e => ?_⟩
  · rw [b0, tn]; omega
  · rw [b0, tn]; omega
  · rw [b0, b1, b2, b3, tn, tk, i_z]; omega
  · rw [b4, ts]; omega
  · rw [b11]; exact h.2.1.1
  · rw [bz _ (by omega), i_z]; omega
  · rw [bz _ (by omega), i_z]; omega
  · rw [b0] at e; exact absurd e (nI_ne0 (by omega) (by omega))
theorem m_fresh_A : InvA freshF := by
  have f0 : freshF 0 = 0 := rfl
  have f4 : freshF 4 = 0 := rfl
  have f8 : freshF 8 = 0 := rfl
  have f11 : freshF 11 = 100 := rfl
  have fz : ∀ j, 13 ≤ j → freshF j = 0 := fun j hj => by
    unfold freshF
    rw [if_neg (by omega), if_neg (by omega)]
  refine ⟨⟨⟨?_, ?_, Or.inl f8⟩, Or.inl f0, ?_, fun j hj => fz j (by omega)⟩, ⟨?_, fun j hj => ?_, fun j hj => ?_⟩, fun _ k k1 k2 => ?_⟩
  · rw [f0]; decide
  · rw [f0]; decide
  · rw [f4]; decide
  · rw [f11]; decide
  · rw [fz _ (by omega), i_z]; omega
  · rw [fz _ (by omega), i_z]; omega
  · unfold freshF; rw [if_neg k1, if_neg k2]
