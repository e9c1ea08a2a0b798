/-! WHAT ELSE A STORE'S NUMBERS KEEP: sums, spare media, the key -/
theorem i_c1 (a b c : Int32) : a + b + c + 1 = a + 1 + b + c := by ac_rfl
theorem i_c2 (a b c : Int32) : a + b + c + 1 = a + (b + 1) + c := by ac_rfl
theorem i_c3 (a b c : Int32) : a + b + c + 1 = a + b + (c + 1) := by ac_rfl
def InvY (r : gR) : Prop := 0 ≤ (r 9).toInt ∧ (r 4).toInt + (r 9).toInt ≤ 4 ∧ (r 8 = 1 → r 4 = 0)
theorem m_lay_X {r : gR} {p : Int32} (h0 : 0 ≤ p.toInt) (h1 : p.toInt ≤ (r 0).toInt) : ((f_X3_layAt r p) 4 = r 4 ∧ (f_X3_layAt r p) 8 = r 8 ∧ (f_X3_layAt r p) 9 = r 9 ∧ (f_X3_layAt r p) 10 = r 10 + 1) ∨ (r 4 = 0 ∧ (f_X3_layAt r p) 4 = r 4 ∧ (f_X3_layAt r p) 8 = 1 ∧ (f_X3_layAt r p) 9 = r 9 ∧ (f_X3_layAt r p) 10 = r 10 + 1) ∨ (¬ r 4 = 0 ∧ (f_X3_layAt r p) 4 = r 4 - 1 ∧ (f_X3_layAt r p) 8 = r 8 ∧ (f_X3_layAt r p) 9 = r 9 + 1 ∧ (f_X3_layAt r p) 10 = r 10 + 1 + 1) := by
  have g0 : ¬ p < 0 := by rw [i_lt, i_z]; omega
  have g1 : p ≤ r 0 := i_le.mpr h1
  have n4 : 4 ≠ 45 + p.toNatClampNeg := by omega
  have n8 : 8 ≠ 45 + p.toNatClampNeg := by omega
  have n9 : 9 ≠ 45 + p.toNatClampNeg := by omega
  have n10 : 10 ≠ 45 + p.toNatClampNeg := by omega
  unfold f_X3_layAt
  rw [if_neg g0, if_pos g1]
  simp only [gLet]
  generalize hr3 : upd r (45 + p.toNatClampNeg) (r (45 + p.toNatClampNeg) + 1) = r3
  have a4 : r3 4 = r 4 := by rw [← hr3]; exact upd_ne n4
  have a8 : r3 8 = r 8 := by rw [← hr3]; exact upd_ne n8
  have a9 : r3 9 = r 9 := by rw [← hr3]; exact upd_ne n9
  have a10 : r3 10 = r 10 := by rw [← hr3]; exact upd_ne n10
  by_cases c : r3 11 ≤ (upd r3 10 (r3 10 + 1)) (45 + p.toNatClampNeg)
  · rw [if_pos c]
    by_cases d : r3 4 = 0
    · rw [if_pos d]
      refine Or.inr (Or.inl ⟨by rw [← a4]; exact d, ?_, upd_eq, ?_, ?_⟩)
      · rw [upd_ne (by omega), upd_ne (by omega), a4]
      · rw [upd_ne (by omega), upd_ne (by omega), a9]
      · rw [upd_ne (by omega), upd_eq, a10]
    · rw [if_neg d]
      refine Or.inr (Or.inr ⟨fun q => d (a4.trans q), ?_, ?_, ?_, ?_⟩)
      · rw [upd_ne (by omega), upd_ne n4, upd_ne (by omega), upd_eq, a4]
      · rw [upd_ne (by omega), upd_ne n8, upd_ne (by omega), upd_ne (by omega), upd_ne (by omega), a8]
      · rw [upd_ne (by omega), upd_ne n9, upd_eq, a9]
      · rw [upd_eq, upd_ne n10, upd_ne (by omega), upd_ne (by omega), upd_eq, a10]
  · rw [if_neg c]
    refine Or.inl ⟨?_, ?_, ?_, ?_⟩
    · rw [upd_ne (by omega), a4]
    · rw [upd_ne (by omega), a8]
    · rw [upd_ne (by omega), a9]
    · rw [upd_eq, a10]
theorem m_lay_Y {r : gR} {p : Int32} (hi : Inv r) (h : InvY r) (h0 : 0 ≤ p.toInt) (h1 : p.toInt ≤ (r 0).toInt) : InvY (f_X3_layAt r p) := by
  have h4 := hi.2.2.1
  obtain ⟨y1, y2, y3⟩ := h
  have e1 : (1 : Int32).toInt = 1 := by decide
  unfold InvY
  rcases m_lay_X h0 h1 with ⟨a4, a8, a9, -⟩ | ⟨z4, a4, a8, a9, -⟩ | ⟨z4, a4, a8, a9, -⟩
  · rw [a4, a8, a9]; exact ⟨y1, y2, y3⟩
  · rw [a4, a9]; exact ⟨y1, y2, fun _ => z4⟩
  · have hp : (r 4).toInt ≠ 0 := fun q => z4 (i_eq.mpr (by rw [q, i_z]))
    have e4 : (r 4 - 1).toInt = (r 4).toInt - 1 := by rw [i_sub (by omega) (by omega), e1]
    have e9 : (r 9 + 1).toInt = (r 9).toInt + 1 := by rw [i_add (by omega) (by omega), e1]
    rw [a4, a8, a9]
    exact ⟨by omega, by omega, fun q => absurd (y3 q) z4⟩
theorem m_lay_S {r : gR} {p : Int32} (h : r 10 = r 5 + r 6 + r 9) (h0 : 0 ≤ p.toInt) (h1 : p.toInt ≤ (r 0).toInt) : f_X3_layAt r p 10 = f_X3_layAt r p 5 + f_X3_layAt r p 6 + f_X3_layAt r p 9 + 1 := by
  rw [m_lay_k (k := 5) h0 (by omega), m_lay_k (k := 6) h0 (by omega)]
  rcases m_lay_X h0 h1 with ⟨-, -, a9, a10⟩ | ⟨-, -, -, a9, a10⟩ | ⟨-, -, -, a9, a10⟩
  · rw [a9, a10, h]
  · rw [a9, a10, h]
  · rw [a9, a10, h]; exact congrArg (fun z => z + 1) (i_c3 _ _ _)
theorem m_lay_v {r : gR} {p : Int32} {j : Nat} (h0 : 0 ≤ p.toInt) (hj : j < 32) : f_X3_layAt r p (13 + j) = r (13 + j) := by
  have a0 : 13 + j ≠ 45 + p.toNatClampNeg := by omega
  have a1 : 13 + j ≠ 10 := by omega
  have a2 : 13 + j ≠ 8 := by omega
  have a3 : 13 + j ≠ 4 := by omega
  have a4 : 13 + j ≠ 9 := by omega
  unfold f_X3_layAt
  simp only [gLet]
  repeat' split
  all_goals simp only [upd_ne a0, upd_ne a1, upd_ne a2, upd_ne a3, upd_ne a4]
theorem m_move_k {r : gR} {k : Nat} (h2 : k ≠ 2) (h3 : k ≠ 3) (h6 : k ≠ 6) (h7 : k ≠ 7) : f_X3_moveGap r k = f_X3_layAt r (r 3) k := by
  unfold f_X3_moveGap
  simp only [gLet]
  generalize f_X3_layAt r (r 3) = u
  split
  · split
    · rw [upd_ne h7, upd_ne h6, upd_ne h2, upd_ne h3]
    · rw [upd_ne h7, upd_ne h6, upd_ne h2, upd_ne h3]
  · rw [upd_ne h7, upd_ne h6, upd_ne h3]
theorem m_move_6 {r : gR} (h0 : 0 ≤ (r 3).toInt) : f_X3_moveGap r 6 = r 6 + 1 := by
  have e : f_X3_layAt r (r 3) 6 = r 6 := m_lay_k h0 (by omega)
  unfold f_X3_moveGap
  simp only [gLet]
  generalize f_X3_layAt r (r 3) = u at e
  split
  · split
    · rw [upd_ne (by omega), upd_eq, e]
    · rw [upd_ne (by omega), upd_eq, e]
  · rw [upd_ne (by omega), upd_eq, e]
/-- a line's write, in the words of its steps -/
theorem m_wr {r : gR} {l v : Int32} (hi : Inv r) (hl : okL r l) : ∃ p : Int32, 0 ≤ p.toInt ∧ p.toInt ≤ (r 0).toInt ∧ Inv (upd r (13 + l.toNatClampNeg) v) ∧ ∃ w : gR, w = upd (upd (f_X3_layAt (upd r (13 + l.toNatClampNeg) v) p) 5 (f_X3_layAt (upd r (13 + l.toNatClampNeg) v) p 5 + 1)) 7 (f_X3_layAt (upd r (13 + l.toNatClampNeg) v) p 7 + 1) ∧ Inv w ∧ ¬ w 0 = 0 ∧ ((f_X3_writeLine r l v).2 = w ∨ (f_X3_writeLine r l v).2 = f_X3_moveGap w) := by
  have l7 := hi.1.2.1
  have q0 := hl.1
  have q1 := hl.2
  have hk : 13 + l.toNatClampNeg < 45 := by
    have : l.toNatClampNeg = l.toInt.toNat := rfl
    omega
  have i4 : Inv (upd r (13 + l.toNatClampNeg) v) := hi.upd (by omega)
  have hl4 : okL (upd r (13 + l.toNatClampNeg) v) l := by unfold okL; rw [upd_ne (by omega)]; exact hl
  obtain ⟨p0, p1⟩ := m_pl_in i4 hl4
  have z4 : upd r (13 + l.toNatClampNeg) v 0 = r 0 := upd_ne (by omega)
  obtain ⟨r4, e4⟩ : ∃ z, upd r (13 + l.toNatClampNeg) v = z := ⟨_, rfl⟩
  rw [e4] at i4 hl4 p0 p1 z4 ⊢
  obtain ⟨pl, epl⟩ : ∃ z, f_X3_placeOf r4 l = z := ⟨_, rfl⟩
  rw [epl] at p0 p1
  obtain ⟨u, eu⟩ : ∃ z, f_X3_layAt r4 pl = z := ⟨_, rfl⟩
  have iu : Inv u := by rw [← eu]; exact m_lay_inv i4 p0 p1
  have u0 : u 0 = r 0 := by rw [← eu]; exact (m_lay_k p0 (by omega)).trans z4
  obtain ⟨w, ew⟩ : ∃ z, upd (upd u 5 (u 5 + 1)) 7 (u 7 + 1) = z := ⟨_, rfl⟩
  have hF : f_X3_writeLine r l v = (if u 8 = 0 then (if u 7 + 1 < u 12 then (r (13 + l.toNatClampNeg), upd (upd u 5 (u 5 + 1)) 7 (u 7 + 1)) else gLet (f_X3_moveGap (upd (upd u 5 (u 5 + 1)) 7 (u 7 + 1))) (fun u12 => (r (13 + l.toNatClampNeg), u12))) else (r (13 + l.toNatClampNeg), upd (upd u 5 (u 5 + 1)) 7 (u 7 + 1))) := by
    rw [f_X3_writeLine_s, gLet_e (b := f_X3_hasLine r l) rfl, if_neg (m_has.mpr hl), gLet_e e4, gLet_e epl, gLet_e eu]
  rw [ew] at hF
  refine ⟨pl, p0, by rw [← z4]; exact p1, i4, w, ?_, ?_, ?_, ?_⟩
  · rw [eu, ew]
  · rw [← ew]; exact (iu.upd (by omega)).upd (by omega)
  · rw [← ew, upd_ne (by omega), upd_ne (by omega), u0]
    intro e
    rw [e, i_z] at q1
    omega
  · rw [hF]
    by_cases c : u 8 = 0
    · rw [if_pos c]
      by_cases d : u 7 + 1 < u 12
      · rw [if_pos d]; exact Or.inl rfl
      · rw [if_neg d]; exact Or.inr rfl
    · rw [if_neg c]; exact Or.inl rfl
theorem m_write_k {r : gR} {l v : Int32} {k : Nat} (hi : Inv r) (hl : okL r l) (hk : k = 0 ∨ k = 1 ∨ k = 11 ∨ k = 12) : (f_X3_writeLine r l v).2 k = r k := by
  obtain ⟨p, p0, p1, i4, w, ew, iw, w0, hw⟩ := m_wr (v := v) hi hl
  have a : w k = r k := by rw [ew, upd_ne (by omega), upd_ne (by omega), m_lay_k p0 (by omega), upd_ne (by omega)]
  rcases hw with e | e
  · rw [e, a]
  · have g := iw.pos w0
    rw [e, m_move_k (by omega) (by omega) (by omega) (by omega), m_lay_k g.2.2.2.2.2.1 (by omega), a]
theorem m_write_5 {r : gR} {l v : Int32} (hi : Inv r) (hl : okL r l) : (f_X3_writeLine r l v).2 5 = r 5 + 1 := by
  obtain ⟨p, p0, p1, i4, w, ew, iw, w0, hw⟩ := m_wr (v := v) hi hl
  have a : w 5 = r 5 + 1 := by rw [ew, upd_ne (by omega), upd_eq, m_lay_k p0 (by omega), upd_ne (by omega)]
  rcases hw with e | e
  · rw [e, a]
  · have g := iw.pos w0
    rw [e, m_move_k (by omega) (by omega) (by omega) (by omega), m_lay_k g.2.2.2.2.2.1 (by omega), a]
theorem m_write_v {r : gR} {l v : Int32} (hi : Inv r) (hl : okL r l) {j : Nat} (hj : j < 32) : (f_X3_writeLine r l v).2 (13 + j) = upd r (13 + l.toNatClampNeg) v (13 + j) := by
  obtain ⟨p, p0, p1, i4, w, ew, iw, w0, hw⟩ := m_wr (v := v) hi hl
  have a : w (13 + j) = upd r (13 + l.toNatClampNeg) v (13 + j) := by rw [ew, upd_ne (by omega), upd_ne (by omega), m_lay_v p0 hj]
  rcases hw with e | e
  · rw [e, a]
  · have g := iw.pos w0
    rw [e, m_move_k (by omega) (by omega) (by omega) (by omega), m_lay_v g.2.2.2.2.2.1 hj, a]
theorem m_write_Y {r : gR} {l v : Int32} (hi : Inv r) (hl : okL r l) (h : InvY r) (hs : r 10 = r 5 + r 6 + r 9) : InvY (f_X3_writeLine r l v).2 ∧ (f_X3_writeLine r l v).2 10 = (f_X3_writeLine r l v).2 5 + (f_X3_writeLine r l v).2 6 + (f_X3_writeLine r l v).2 9 := by
  obtain ⟨p, p0, p1, i4, w, ew, iw, w0, hw⟩ := m_wr (v := v) hi hl
  have hl4 : 13 + l.toNatClampNeg ≠ 0 := by omega
  have z : ∀ k, k < 13 → upd r (13 + l.toNatClampNeg) v k = r k := fun k hk => upd_ne (by omega)
  have y4 : InvY (upd r (13 + l.toNatClampNeg) v) := by
    unfold InvY
    rw [z 9 (by omega), z 4 (by omega), z 8 (by omega)]
    exact h
  have p1' : p.toInt ≤ (upd r (13 + l.toNatClampNeg) v 0).toInt := by rw [z 0 (by omega)]; exact p1
  have yu := m_lay_Y i4 y4 p0 p1'
  have su := m_lay_S (p := p) (r := upd r (13 + l.toNatClampNeg) v) (by rw [z 10 (by omega), z 5 (by omega), z 6 (by omega), z 9 (by omega)]; exact hs) p0 p1'
  have yw : InvY w := by
    unfold InvY
    rw [ew, upd_ne (by omega), upd_ne (by omega), upd_ne (by omega), upd_ne (by omega), upd_ne (by omega), upd_ne (by omega)]
    exact yu
  have sw : w 10 = w 5 + w 6 + w 9 := by
    have b10 : w 10 = f_X3_layAt (upd r (13 + l.toNatClampNeg) v) p 10 := by rw [ew, upd_ne (by omega), upd_ne (by omega)]
    have b5 : w 5 = f_X3_layAt (upd r (13 + l.toNatClampNeg) v) p 5 + 1 := by rw [ew, upd_ne (by omega), upd_eq]
    have b6 : w 6 = f_X3_layAt (upd r (13 + l.toNatClampNeg) v) p 6 := by rw [ew, upd_ne (by omega), upd_ne (by omega)]
    have b9 : w 9 = f_X3_layAt (upd r (13 + l.toNatClampNeg) v) p 9 := by rw [ew, upd_ne (by omega), upd_ne (by omega)]
    rw [b10, b5, b6, b9, su, i_c1]
  rcases hw with e | e
  · rw [e]; exact ⟨yw, sw⟩
  · obtain ⟨g0, g1, g2, g3, g4, g5, g6⟩ := iw.pos w0
    have yl := m_lay_Y iw yw g5 g6
    have sl := m_lay_S sw g5 g6
    rw [e]
    refine ⟨?_, ?_⟩
    · unfold InvY
      rw [m_move_k (k := 9) (by omega) (by omega) (by omega) (by omega), m_move_k (k := 4) (by omega) (by omega) (by omega) (by omega), m_move_k (k := 8) (by omega) (by omega) (by omega) (by omega)]
      exact yl
    · rw [m_move_k (k := 10) (by omega) (by omega) (by omega) (by omega), m_move_k (k := 5) (by omega) (by omega) (by omega) (by omega), m_move_k (k := 9) (by omega) (by omega) (by omega) (by omega), m_move_6 g5, sl, m_lay_k (k := 6) g5 (by omega), i_c2]
/-- what every store of the law keeps -/
def Gd (r : gR) : Prop := Inv r ∧ InvW r ∧ ¬ r 0 = 0 ∧ (∃ J : Nat, nN (r 1) * J % nN (r 0) = 1) ∧ r 10 = r 5 + r 6 + r 9 ∧ InvY r ∧ 1 ≤ (r 12).toInt ∧ (r 12).toInt ≤ 50
theorem Gd.inv {r : gR} (h : Gd r) : Inv r := h.1
theorem Gd.ne {r : gR} (h : Gd r) : ¬ r 0 = 0 := h.2.2.1
theorem Gd.val {r : gR} (h : Gd r) {l : Int32} (hl : okL r l) : 0 ≤ (r (13 + l.toNatClampNeg)).toInt ∧ (r (13 + l.toNatClampNeg)).toInt ≤ 999 := by
  have l7 := h.1.1.2.1
  have q0 := hl.1
  have q1 := hl.2
  have : l.toNatClampNeg = l.toInt.toNat := rfl
  exact h.2.1.2.2 _ (by omega)
theorem Gd.write {r : gR} {l v : Int32} (h : Gd r) (h8 : r 8 = 0) (hl : okL r l) (h0 : 0 ≤ v.toInt) (h1 : v.toInt ≤ 999) : Gd (f_X3_writeLine r l v).2 := by
  obtain ⟨i, w, n, ⟨J, hJ⟩, s, y, e1, e2⟩ := h
  obtain ⟨y', s'⟩ := m_write_Y (v := v) i hl y s
  refine ⟨m_write_inv i, m_write_W i w h8 (fun _ => ⟨h0, h1⟩), ?_, ⟨J, ?_⟩, s', y', ?_, ?_⟩
  · rw [m_write_0]; exact n
  · rw [m_write_k i hl (by omega), m_write_k i hl (by omega)]; exact hJ
  · rw [m_write_k i hl (by omega)]; exact e1
  · rw [m_write_k i hl (by omega)]; exact e2
theorem okL_write {r : gR} {l v k : Int32} (h : okL r k) : okL (f_X3_writeLine r l v).2 k := by
  unfold okL; rw [m_write_0]; exact h
theorem Gd.hammer_L {l m : Int32} : ∀ (n : Nat) (i : Int32) (r : gR), Gd r → okL r l → Gd (f_X3_hammerLine_L2 l m n i r).2
  | 0, _, _, hi, _ => hi
  | n + 1, i, r, hi, hl => by
    rw [f_X3_hammerLine_L2_s]
    refine gIf_i (P := fun z : Int32 × gR => Gd z.2) (fun _ => hi) (fun _ => ?_)
    refine gIf_i (P := fun z : Int32 × gR => Gd z.2) (fun c8 => ?_) (fun _ => hi)
    refine gLet_i (P := fun z : Int32 × gR => Gd z.2) (fun v ev => ?_)
    refine gLet_i (P := fun z : Int32 × gR => Gd z.2) (fun q eq => ?_)
    rw [m_valueV hl] at ev
    have hv := hi.val hl
    rw [ev] at hv
    exact Gd.hammer_L n (i + 1) _ (by rw [← eq]; exact hi.write c8 hl hv.1 hv.2) (by rw [← eq]; exact okL_write hl)
theorem Gd.hammer {r : gR} {l m : Int32} (h : Gd r) (hl : okL r l) : Gd (f_X3_hammerLine r l m).2 := Gd.hammer_L _ _ _ h hl
theorem okL_zero {r : gR} (h : Gd r) : okL r 0 := ⟨by decide, by have := (h.1.pos h.2.2.1).1; rw [i_z]; omega⟩
theorem Gd.turn_L {m : Int32} : ∀ (n : Nat) (i l : Int32) (r : gR), Gd r → okL r l → Gd (f_X3_writeInTurn_L4 m n i l r).2
  | 0, _, _, _, hi, _ => hi
  | n + 1, i, l, r, hi, hl => by
    rw [f_X3_writeInTurn_L4_s]
    refine gIf_i (P := fun z : Int32 × gR => Gd z.2) (fun _ => hi) (fun _ => ?_)
    refine gIf_i (P := fun z : Int32 × gR => Gd z.2) (fun c8 => ?_) (fun _ => hi)
    refine gLet_i (P := fun z : Int32 × gR => Gd z.2) (fun v ev => ?_)
    refine gLet_i (P := fun z : Int32 × gR => Gd z.2) (fun q eq => ?_)
    rw [m_valueV hl] at ev
    have hv := hi.val hl
    rw [ev] at hv
    have hq : Gd q.2 := by rw [← eq]; exact hi.write c8 hl hv.1 hv.2
    refine gIf_i (P := fun z : Int32 × gR => Gd z.2) (fun _ => Gd.turn_L n _ _ _ hq (okL_zero hq)) (fun c => Gd.turn_L n _ _ _ hq ?_)
    have c1 := i_lt.mp (Int32.not_le.mp c)
    have e1 : (1 : Int32).toInt = 1 := by decide
    have h7 := hi.1.1.2.1
    have a0 := hl.1
    have a1 := hl.2
    have e2 : (l + 1).toInt = l.toInt + 1 := by rw [i_add (by rw [e1]; omega) (by rw [e1]; omega), e1]
    exact ⟨by omega, c1⟩
theorem Gd.turn {r : gR} {m : Int32} (h : Gd r) : Gd (f_X3_writeInTurn r m).2 := Gd.turn_L _ _ _ _ h (okL_zero h)
theorem Gd.set {r : gR} {k : Nat} {x : Int32} (h : Gd r) (hk : (k = 11 ∧ x.toInt ≤ 999) ∨ (k = 12 ∧ 1 ≤ x.toInt ∧ x.toInt ≤ 50)) : Gd (upd r k x) := by
  obtain ⟨i, w, n, ⟨J, hJ⟩, s, y, e1, e2⟩ := h
  have z : ∀ j, j ≠ k → upd r k x j = r j := fun j hj => upd_ne hj
  refine ⟨i.upd (by omega), ?_, ?_, ⟨J, ?_⟩, ?_, ?_, ?_, ?_⟩
  · rcases hk with ⟨rfl, hx⟩ | ⟨rfl, -, -⟩
    · exact w.upd11 hx
    · exact w.upd0 (by omega)
  · rw [z 0 (by omega)]; exact n
  · rw [z 1 (by omega), z 0 (by omega)]; exact hJ
  · rw [z 10 (by omega), z 5 (by omega), z 6 (by omega), z 9 (by omega)]; exact s
  · unfold InvY; rw [z 9 (by omega), z 4 (by omega), z 8 (by omega)]; exact y
  · rcases hk with ⟨rfl, hx⟩ | ⟨rfl, h1, h2⟩
    · rw [z 12 (by omega)]; exact e1
    · rw [upd_eq]; exact h1
  · rcases hk with ⟨rfl, hx⟩ | ⟨rfl, h1, h2⟩
    · rw [z 12 (by omega)]; exact e2
    · rw [upd_eq]; exact h2
/-- a new store -/
theorem Gd.make {r : gR} {n k s : Nat} (h11 : (r 11).toInt ≤ 999) (h12 : 1 ≤ (r 12).toInt ∧ (r 12).toInt ≤ 50) (h0 : 4 ≤ n) (h1 : n ≤ 32) (h2 : k = 1 ∨ k + 1 = n) (h4 : s ≤ 4) : Gd (bgF r (nI n) (nI k) (nI s)) := by
  have b0 : bgF r (nI n) (nI k) (nI s) 0 = nI n := rfl
  have b1 : bgF r (nI n) (nI k) (nI s) 1 = nI k := rfl
  have b2 : bgF r (nI n) (nI k) (nI s) 2 = 0 := rfl
  have b3 : bgF r (nI n) (nI k) (nI s) 3 = nI n := rfl
  have b4 : bgF r (nI n) (nI k) (nI s) 4 = nI s := rfl
  have b5 : bgF r (nI n) (nI k) (nI s) 5 = 0 := rfl
  have b6 : bgF r (nI n) (nI k) (nI s) 6 = 0 := rfl
  have b8 : bgF r (nI n) (nI k) (nI s) 8 = 0 := rfl
  have b9 : bgF r (nI n) (nI k) (nI s) 9 = 0 := rfl
  have b10 : bgF r (nI n) (nI k) (nI s) 10 = 0 := rfl
  have b11 : bgF r (nI n) (nI k) (nI s) 11 = r 11 := rfl
  have b12 : bgF r (nI n) (nI k) (nI s) 12 = r 12 := rfl
  have bz : ∀ j, 13 ≤ j → bgF r (nI n) (nI k) (nI s) j = 0 := fun j hj => by
    unfold bgF
    rw [if_neg (by omega), if_neg (by omega), if_neg (by omega), if_neg (by omega), if_neg (by omega), if_neg (by omega)]
  have tn : (nI n).toInt = n := nI_toInt (by omega)
  have tk : (nI k).toInt = k := nI_toInt (by omega)
  have ts : (nI s).toInt = s := nI_toInt (by omega)
  refine ⟨⟨⟨?_, ?_, Or.inl b8⟩, Or.inr ?_, ?_, fun j hj => bz j (by omega)⟩, ⟨?_, fun j hj => ?_, fun j hj => ?_⟩, ?_, ?_, ?_, ⟨?_, ?_, ?_⟩, ?_, ?_⟩
  · rw [b0, tn]; omega
  · rw [b0, tn]; omega
  · rw [b0, b1, b2, b3, tn, tk, i_z]; omega
  · rw [b4, ts]; omega
  · rw [b11]; exact h11
  · rw [bz _ (by omega), i_z]; omega
  · rw [bz _ (by omega), i_z]; omega
  · rw [b0]; exact nI_ne0 (by omega) (by omega)
  · rw [b0, b1, nN_nI (by omega), nN_nI (by omega)]
    rcases h2 with rfl | h2
    · exact ⟨1, Nat.mod_eq_of_lt (by omega)⟩
    · refine ⟨k, ?_⟩
      obtain ⟨j, rfl⟩ : ∃ j, k = j + 1 := ⟨k - 1, by omega⟩
      have e : (j + 1) * (j + 1) = 1 + n * j := by
        rw [← h2]
        simp only [Nat.add_mul, Nat.mul_add, Nat.one_mul, Nat.mul_one]
        omega
      rw [e, Nat.add_mul_mod_self_left]
      exact Nat.mod_eq_of_lt (by omega)
  · rw [b10, b5, b6, b9]; decide
  · rw [b9, i_z]; omega
  · rw [b4, b9, ts, i_z]; omega
  · rw [b8]; intro q; exact absurd q (by decide)
  · rw [b12]; exact h12.1
  · rw [b12]; exact h12.2
