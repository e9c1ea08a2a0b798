/-! A STORE'S NUMBERS, and what they keep -/
def okL (r : gR) (l : Int32) : Prop := 0 ≤ l.toInt ∧ l.toInt < (r 0).toInt
/-- start, gap and key of a store -/
def okG (r : gR) : Prop := r 0 = 0 ∨ ((r 0).toInt ≤ 32 ∧ 1 ≤ (r 1).toInt ∧ (r 1).toInt < (r 0).toInt ∧ 0 ≤ (r 2).toInt ∧ (r 2).toInt < (r 0).toInt ∧ 0 ≤ (r 3).toInt ∧ (r 3).toInt ≤ (r 0).toInt)
def nN (x : Int32) : Nat := x.toInt.toNat
theorem nI_nN {x : Int32} (h : 0 ≤ x.toInt) : x = nI (nN x) := by
  apply i_eq.mpr
  have h2 := i_hi x
  rw [nI_toInt (show nN x < 2 ^ 31 by unfold nN; omega)]
  unfold nN
  omega
theorem nN_nI {k : Nat} (h : k < 2 ^ 31) : nN (nI k) = k := by
  unfold nN
  rw [nI_toInt h]
  rfl
def pwN (n k l s g : Nat) : Nat := if (k * l + s) % n < g then (k * l + s) % n else (k * l + s) % n + 1
def mvT (r : gR) (l : Int32) : Nat := (nN (r 1) * nN l + nN (r 2)) % nN (r 0)
/-- how many moves of the gap, until a line lies elsewhere -/
def mvK (r : gR) (l : Int32) : Nat := if mvT r l < nN (r 3) then nN (r 3) - mvT r l else nN (r 3) + nN (r 0) - mvT r l
theorem mv_b {r : gR} {l : Int32} (hg : okG r) (hl : okL r l) : 0 < nN (r 0) ∧ nN (r 0) ≤ 32 ∧ nN (r 1) < 32 ∧ nN (r 2) < nN (r 0) ∧ nN (r 3) ≤ nN (r 0) ∧ nN l < nN (r 0) ∧ mvT r l < nN (r 0) ∧ 0 ≤ (r 0).toInt ∧ 0 ≤ (r 1).toInt ∧ 0 ≤ (r 2).toInt ∧ 0 ≤ (r 3).toInt := by
  obtain ⟨l1, l2⟩ := hl
  rcases hg with h | ⟨h1, h2, h3, h4, h5, h6, h7⟩
  · rw [h] at l2
    have e : (0 : Int32).toInt = 0 := (by decide)
    omega
  · have q : 0 < nN (r 0) := by unfold nN; omega
    refine ⟨q, ?_, ?_, ?_, ?_, ?_, Nat.mod_lt _ q, by omega, by omega, h4, h6⟩ <;> unfold nN <;> omega
theorem pwN_lt {n k l s g : Nat} (h : 0 < n) : pwN n k l s g ≤ n := by
  have := Nat.mod_lt (k * l + s) h
  unfold pwN
  split <;> omega
theorem mv_t2 {r : gR} {l : Int32} (hg : okG r) (hl : okL r l) : (nN (r 1) * nN l + (nN (r 2) + 1) % nN (r 0)) % nN (r 0) = (mvT r l + 1) % nN (r 0) := by
  unfold mvT
  rw [Nat.add_mod_mod, ← Nat.add_assoc, Nat.mod_add_mod]
theorem i_z : (0 : Int32).toInt = 0 := by decide
theorem m_mod1 {x b : Int32} (h0 : 0 ≤ x.toInt) (h1 : x.toInt < b.toInt) (h2 : b.toInt ≤ 32) : (x + 1) - (x + 1) / b * b = if b ≤ x + 1 then 0 else x + 1 := by
  have key : ∀ n, n < 33 → ∀ k, k < 33 → n < k → (nI n + 1) - (nI n + 1) / nI k * nI k = if nI k ≤ nI n + 1 then 0 else nI n + 1 := by decide +kernel
  have ex : x = nI (nN x) := nI_nN h0
  have eb : b = nI (nN b) := nI_nN (by omega)
  have hx : nN x = x.toInt.toNat := rfl
  have hb : nN b = b.toInt.toNat := rfl
  rw [ex, eb]
  exact key _ (by omega) _ (by omega) (by omega)
/-- what a store's numbers keep -/
def Inv (r : gR) : Prop := okC r ∧ (r 0 = 0 ∨ (4 ≤ (r 0).toInt ∧ 1 ≤ (r 1).toInt ∧ (r 1).toInt < (r 0).toInt ∧ 0 ≤ (r 2).toInt ∧ (r 2).toInt < (r 0).toInt ∧ 0 ≤ (r 3).toInt ∧ (r 3).toInt ≤ (r 0).toInt)) ∧ 0 ≤ (r 4).toInt ∧ ∀ k, 78 ≤ k → r k = 0
/-- a place's laying changes none of the numbers that a place is told by -/
theorem m_lay_k {r : gR} {p : Int32} (h0 : 0 ≤ p.toInt) {k : Nat} (hk : k = 0 ∨ k = 1 ∨ k = 2 ∨ k = 3 ∨ k = 5 ∨ k = 6 ∨ k = 7 ∨ k = 11 ∨ k = 12) : f_X3_layAt r p k = r k := by
  have a0 : k ≠ 45 + p.toNatClampNeg := by omega
  have a1 : k ≠ 10 := by omega
  have a2 : k ≠ 8 := by omega
  have a3 : k ≠ 4 := by omega
  have a4 : k ≠ 9 := by omega
  unfold f_X3_layAt
  simp only [gLet]
  repeat' split
  all_goals simp only [upd_ne a0, upd_ne a1, upd_ne a2, upd_ne a3, upd_ne a4]
theorem Inv.pos {r : gR} (hi : Inv r) (h : ¬ r 0 = 0) : 4 ≤ (r 0).toInt ∧ 1 ≤ (r 1).toInt ∧ (r 1).toInt < (r 0).toInt ∧ 0 ≤ (r 2).toInt ∧ (r 2).toInt < (r 0).toInt ∧ 0 ≤ (r 3).toInt ∧ (r 3).toInt ≤ (r 0).toInt := hi.2.1.resolve_left h
theorem m_has {r : gR} {l : Int32} : ¬ f_X3_hasLine r l = 0 ↔ okL r l := by
  unfold f_X3_hasLine
  by_cases c : l < 0
  · rw [if_pos c]
    have := i_lt.mp c
    rw [i_z] at this
    exact ⟨fun h => absurd rfl h, fun h => absurd h.1 (by omega)⟩
  · rw [if_neg c]
    have c' := i_le.mp (Int32.not_lt.mp c)
    rw [i_z] at c'
    by_cases d : r 0 ≤ l
    · rw [if_pos d]
      have := i_le.mp d
      exact ⟨fun h => absurd rfl h, fun h => absurd h.2 (by omega)⟩
    · rw [if_neg d]
      have := i_lt.mp (Int32.not_le.mp d)
      exact ⟨fun _ => ⟨c', this⟩, fun _ => by decide⟩
theorem m_okG {r : gR} (h : Inv r) : okG r := by
  rcases h.2.1 with q | q
  · exact Or.inl q
  · exact Or.inr ⟨h.1.2.1, q.2⟩
theorem m_rank {r : gR} {l s : Int32} (hl : okL r l) : f_X3_rankOf r l s = r 1 * l + s - (r 1 * l + s) / r 0 * r 0 := by
  unfold f_X3_rankOf
  rw [if_neg (by rw [i_lt, i_z]; have := hl.1; omega), if_neg (by rw [i_le]; have := hl.2; omega)]
  rfl
theorem m_rankN {r : gR} {l : Int32} (h : Inv r) (hl : okL r l) : f_X3_rankOf r l (r 2) = nI (mvT r l) ∧ mvT r l < nN (r 0) := by
  obtain ⟨b1, b2, b3, b4, b5, b6, b7, b8, b9, b10, b11⟩ := mv_b (m_okG h) hl
  refine ⟨?_, b7⟩
  have hkl : nN (r 1) * nN l ≤ 32 * 32 := Nat.mul_le_mul (by omega) (by omega)
  rw [m_rank hl]
  have h1 : r 1 = nI (nN (r 1)) := nI_nN b9
  have h2 : l = nI (nN l) := nI_nN hl.1
  have h3 : r 2 = nI (nN (r 2)) := nI_nN b10
  have h0 : r 0 = nI (nN (r 0)) := nI_nN b8
  have e : r 1 * l + r 2 = nI (nN (r 1) * nN l + nN (r 2)) := by rw [← nI_add, ← pk_mul, ← h1, ← h2, ← h3]
  rw [e]
  have e2 := pk_rem (a := nN (r 1) * nN l + nN (r 2)) (d := nN (r 0)) (by omega) b1 (by omega)
  rw [← h0] at e2
  exact e2
/-- moves until a line lies elsewhere -/
theorem m_moved {r : gR} {l : Int32} (h : Inv r) (hl : okL r l) : f_X3_movesUntilMoved r l = nI (mvK r l) := by
  obtain ⟨b1, b2, b3, b4, b5, b6, b7, b8, b9, b10, b11⟩ := mv_b (m_okG h) hl
  unfold f_X3_movesUntilMoved
  simp only [gLet]
  rw [(m_rankN h hl).1]
  have h3 : r 3 = nI (nN (r 3)) := nI_nN b11
  have h0 : r 0 = nI (nN (r 0)) := nI_nN b8
  unfold mvK
  by_cases c : mvT r l < nN (r 3)
  · rw [if_pos c, if_neg (by rw [h3]; exact nI_ge c (by omega))]
    conv => lhs; rw [h3]
    exact pk_sub (by omega)
  · rw [if_neg c, if_pos (by rw [h3]; exact nI_le (by omega) (by omega))]
    conv => lhs; rw [h3, h0]
    rw [nI_add, pk_sub (by omega)]
/-- a place behind some moves -/
def pbS (r : gR) (k : Nat) : Nat := (nN (r 2) + (nN (r 0) - nN (r 3) + k) / (nN (r 0) + 1)) % nN (r 0)
def pbG (r : gR) (k : Nat) : Nat := nN (r 0) - (nN (r 0) - nN (r 3) + k) % (nN (r 0) + 1)
theorem pb_step {n t : Nat} (_h : 0 < n) : ((t + 1) % (n + 1) = if t % (n + 1) = n then 0 else t % (n + 1) + 1) ∧ ((t + 1) / (n + 1) = if t % (n + 1) = n then t / (n + 1) + 1 else t / (n + 1)) := by
  have h1 := Nat.mod_lt t (show 0 < n + 1 by omega)
  have h2 := Nat.div_add_mod t (n + 1)
  by_cases c : t % (n + 1) = n
  · rw [if_pos c, if_pos c]
    have e : t + 1 = (n + 1) * (t / (n + 1) + 1) := by rw [Nat.mul_add, Nat.mul_one]; omega
    rw [e]
    exact ⟨Nat.mul_mod_right _ _, by rw [Nat.mul_div_cancel_left _ (by omega)]⟩
  · rw [if_neg c, if_neg c]
    have e : t + 1 = (t % (n + 1) + 1) + (n + 1) * (t / (n + 1)) := by omega
    rw [e, Nat.add_mul_mod_self_left, Nat.add_mul_div_left _ _ (by omega), Nat.mod_eq_of_lt (by omega), Nat.div_eq_of_lt (by omega)]
    exact ⟨rfl, by omega⟩
theorem m_rankS {r : gR} {l : Int32} {s : Nat} (h : Inv r) (hl : okL r l) (hs : s < 33) : f_X3_rankOf r l (nI s) = nI ((nN (r 1) * nN l + s) % nN (r 0)) := by
  obtain ⟨b1, b2, b3, b4, b5, b6, b7, b8, b9, b10, b11⟩ := mv_b (m_okG h) hl
  have hkl : nN (r 1) * nN l ≤ 32 * 32 := Nat.mul_le_mul (by omega) (by omega)
  rw [m_rank hl]
  have h1 : r 1 = nI (nN (r 1)) := nI_nN b9
  have h2 : l = nI (nN l) := nI_nN hl.1
  have h0 : r 0 = nI (nN (r 0)) := nI_nN b8
  have e : r 1 * l + nI s = nI (nN (r 1) * nN l + s) := by rw [← nI_add, ← pk_mul, ← h1, ← h2]
  rw [e]
  have e2 := pk_rem (a := nN (r 1) * nN l + s) (d := nN (r 0)) (by omega) b1 (by omega)
  rw [← h0] at e2
  exact e2
theorem m_placeN {r : gR} {l : Int32} (h : Inv r) (hl : okL r l) : f_X3_placeOf r l = nI (pwN (nN (r 0)) (nN (r 1)) (nN l) (nN (r 2)) (nN (r 3))) := by
  obtain ⟨b1, b2, b3, b4, b5, b6, b7, b8, b9, b10, b11⟩ := mv_b (m_okG h) hl
  have h3 : r 3 = nI (nN (r 3)) := nI_nN b11
  unfold f_X3_placeOf
  simp only [gLet]
  rw [(m_rankN h hl).1]
  unfold pwN
  rw [show (nN (r 1) * nN l + nN (r 2)) % nN (r 0) = mvT r l from rfl]
  by_cases c : mvT r l < nN (r 3)
  · rw [if_pos c, if_neg (by rw [h3]; exact nI_ge c (by omega))]
  · rw [if_neg c, if_pos (by rw [h3]; exact nI_le (by omega) (by omega)), nI_1]
theorem m_pl_in {r : gR} {l : Int32} (hi : Inv r) (hl : okL r l) : 0 ≤ (f_X3_placeOf r l).toInt ∧ (f_X3_placeOf r l).toInt ≤ (r 0).toInt := by
  obtain ⟨b1, b2, b3, b4, b5, b6, b7, b8, b9, b10, b11⟩ := mv_b (m_okG hi) hl
  have q := pwN_lt (k := nN (r 1)) (l := nN l) (s := nN (r 2)) (g := nN (r 3)) b1
  have d0 : nN (r 0) = (r 0).toInt.toNat := rfl
  rw [m_placeN hi hl, nI_toInt (by omega)]
  omega
theorem m_after {r : gR} {l : Int32} {m : Nat} (hi : Inv r) (hl : okL r l) (hm : m < 10000) : f_X3_placeAfterMoves r l (nI m) = nI (pwN (nN (r 0)) (nN (r 1)) (nN l) (pbS r m) (pbG r m)) := by
  obtain ⟨b1, b2, b3, b4, b5, b6, b7, b8, b9, b10, b11⟩ := mv_b (m_okG hi) hl
  have h0 : r 0 = nI (nN (r 0)) := nI_nN b8
  have h2 : r 2 = nI (nN (r 2)) := nI_nN b10
  have h3 : r 3 = nI (nN (r 3)) := nI_nN b11
  have hml := Nat.mod_lt (nN (r 0) - nN (r 3) + m) (show 0 < nN (r 0) + 1 by omega)
  have hdl : (nN (r 0) - nN (r 3) + m) / (nN (r 0) + 1) ≤ nN (r 0) - nN (r 3) + m := Nat.div_le_self _ _
  have e1 : r 0 - r 3 + nI m = nI (nN (r 0) - nN (r 3) + m) := by
    have := pk_sub (a := nN (r 0)) (b := nN (r 3)) b5
    rw [← h0, ← h3] at this
    rw [this, nI_add]
  have e0 : r 0 + 1 = nI (nN (r 0) + 1) := by rw [← nI_1, ← h0]
  have ed := pk_div (a := nN (r 0) - nN (r 3) + m) (d := nN (r 0) + 1) (by omega) (by omega) (by omega)
  have er := pk_rem (a := nN (r 0) - nN (r 3) + m) (d := nN (r 0) + 1) (by omega) (by omega) (by omega)
  have es := pk_rem (a := nN (r 2) + (nN (r 0) - nN (r 3) + m) / (nN (r 0) + 1)) (d := nN (r 0)) (by omega) b1 (by omega)
  have eg : r 0 - nI ((nN (r 0) - nN (r 3) + m) % (nN (r 0) + 1)) = nI (pbG r m) := by
    have := pk_sub (a := nN (r 0)) (b := (nN (r 0) - nN (r 3) + m) % (nN (r 0) + 1)) (by omega)
    rw [← h0] at this
    exact this
  have es' : r 2 + nI ((nN (r 0) - nN (r 3) + m) / (nN (r 0) + 1)) - (r 2 + nI ((nN (r 0) - nN (r 3) + m) / (nN (r 0) + 1))) / r 0 * r 0 = nI (pbS r m) := by
    rw [← nI_add, ← h0, ← h2] at es
    exact es
  have hsl : pbS r m < nN (r 0) := Nat.mod_lt _ b1
  have hgl : pbG r m ≤ 32 := by unfold pbG; omega
  have htl := Nat.mod_lt (nN (r 1) * nN l + pbS r m) b1
  unfold f_X3_placeAfterMoves
  simp only [gLet]
  rw [if_neg (m_has.mpr hl), e1, e0, er, ed, eg, es', m_rankS hi hl (by omega)]
  unfold pwN
  by_cases c : (nN (r 1) * nN l + pbS r m) % nN (r 0) < pbG r m
  · rw [if_pos c, if_neg (nI_ge c (by omega))]
  · rw [if_neg c, if_pos (nI_le (by omega) (by omega)), nI_1]
theorem Inv.upd {r : gR} {k : Nat} {x : Int32} (hk : 4 < k ∧ k ≠ 8 ∧ k < 78) (hi : Inv r) : Inv (upd r k x) := by
  unfold Inv
  refine ⟨ok_upd (by omega) hi.1, ?_, ?_, fun j hj => ?_⟩
  · rw [upd_ne (show 0 ≠ k by omega), upd_ne (show 1 ≠ k by omega), upd_ne (show 2 ≠ k by omega), upd_ne (show 3 ≠ k by omega)]
    exact hi.2.1
  · rw [upd_ne (show 4 ≠ k by omega)]
    exact hi.2.2.1
  · rw [upd_ne (show j ≠ k by omega)]
    exact hi.2.2.2 j hj
theorem Inv.upd4 {r : gR} {x : Int32} (hx : 0 ≤ x.toInt) (hi : Inv r) : Inv (_root_.Jvm.Pilot.CGapLinesLaw_law_r2650_f0130c.upd r 4 x) := by
  unfold Inv
  refine ⟨ok_upd (by omega) hi.1, ?_, ?_, fun j hj => ?_⟩
  · rw [upd_ne (show 0 ≠ 4 by omega), upd_ne (show 1 ≠ 4 by omega), upd_ne (show 2 ≠ 4 by omega), upd_ne (show 3 ≠ 4 by omega)]
    exact hi.2.1
  · rw [upd_eq]; exact hx
  · rw [upd_ne (show j ≠ 4 by omega)]
    exact hi.2.2.2 j hj
theorem Inv.upd8 {r : gR} {x : Int32} (hx : x = 0 ∨ x = 1) (hi : Inv r) : Inv (_root_.Jvm.Pilot.CGapLinesLaw_law_r2650_f0130c.upd r 8 x) := by
  unfold Inv
  refine ⟨ok_upd8 hx hi.1, ?_, ?_, fun j hj => ?_⟩
  · rw [upd_ne (show 0 ≠ 8 by omega), upd_ne (show 1 ≠ 8 by omega), upd_ne (show 2 ≠ 8 by omega), upd_ne (show 3 ≠ 8 by omega)]
    exact hi.2.1
  · rw [upd_ne (show 4 ≠ 8 by omega)]; exact hi.2.2.1
  · rw [upd_ne (show j ≠ 8 by omega)]
    exact hi.2.2.2 j hj
theorem m_lay_inv {r : gR} {p : Int32} (hi : Inv r) (h0 : 0 ≤ p.toInt) (h1 : p.toInt ≤ (r 0).toInt) : Inv (f_X3_layAt r p) := by
  have hk : 45 + p.toNatClampNeg < 78 := by
    have : p.toNatClampNeg = p.toInt.toNat := rfl
    have := hi.1.2.1
    omega
  unfold f_X3_layAt
  refine gIf_i (P := fun z : gR => Inv z) (fun _ => hi) (fun _ => ?_)
  refine gIf_i (P := fun z : gR => Inv z) (fun _ => ?_) (fun _ => hi)
  refine gLet_i (P := fun z : gR => Inv z) (fun r3 e3 => ?_)
  have i3 : Inv r3 := by rw [← e3]; exact hi.upd (by omega)
  have i10 := i3.upd (k := 10) (x := r3 10 + 1) (by omega)
  refine gIf_i (P := fun z : gR => Inv z) (fun _ => ?_) (fun _ => i10)
  refine gIf_i (P := fun z : gR => Inv z) (fun _ => i10.upd8 (Or.inr rfl)) (fun c => ?_)
  refine gLet_i (P := fun z : gR => Inv z) (fun r6 e6 => ?_)
  have h4 := i3.2.2.1
  have e1 : (1 : Int32).toInt = 1 := by decide
  have hh := i_hi (r3 4)
  have hp : 0 ≤ (r3 4 - 1).toInt := by
    have : (r3 4).toInt ≠ 0 := fun q => c (i_eq.mpr (by rw [q, i_z]))
    rw [i_sub (by omega) (by omega), e1]
    omega
  have i6 : Inv r6 := by rw [← e6]; exact ((i10.upd4 hp).upd (by omega)).upd (by omega)
  exact i6.upd (by omega)
theorem Inv.upd3 {r : gR} {x : Int32} (hn : ¬ r 0 = 0) (h0 : 0 ≤ x.toInt) (h1 : x.toInt ≤ (r 0).toInt) (hi : Inv r) : Inv (_root_.Jvm.Pilot.CGapLinesLaw_law_r2650_f0130c.upd r 3 x) := by
  obtain ⟨l0, l1, l2, l3, l4, l5, l6⟩ := hi.pos hn
  unfold Inv
  refine ⟨ok_upd (by omega) hi.1, ?_, ?_, fun j hj => ?_⟩
  · rw [upd_ne (show 0 ≠ 3 by omega), upd_ne (show 1 ≠ 3 by omega), upd_ne (show 2 ≠ 3 by omega), upd_eq]
    exact Or.inr ⟨l0, l1, l2, l3, l4, h0, h1⟩
  · rw [upd_ne (show 4 ≠ 3 by omega)]; exact hi.2.2.1
  · rw [upd_ne (show j ≠ 3 by omega)]
    exact hi.2.2.2 j hj
theorem Inv.upd2 {r : gR} {x : Int32} (hn : ¬ r 0 = 0) (h0 : 0 ≤ x.toInt) (h1 : x.toInt < (r 0).toInt) (hi : Inv r) : Inv (_root_.Jvm.Pilot.CGapLinesLaw_law_r2650_f0130c.upd r 2 x) := by
  obtain ⟨l0, l1, l2, l3, l4, l5, l6⟩ := hi.pos hn
  unfold Inv
  refine ⟨ok_upd (by omega) hi.1, ?_, ?_, fun j hj => ?_⟩
  · rw [upd_ne (show 0 ≠ 2 by omega), upd_ne (show 1 ≠ 2 by omega), upd_ne (show 3 ≠ 2 by omega), upd_eq]
    exact Or.inr ⟨l0, l1, l2, h0, h1, l5, l6⟩
  · rw [upd_ne (show 4 ≠ 2 by omega)]; exact hi.2.2.1
  · rw [upd_ne (show j ≠ 2 by omega)]
    exact hi.2.2.2 j hj
theorem m_move_inv {r : gR} (hi : Inv r) (h : ¬ r 0 = 0) : Inv (f_X3_moveGap r) := by
  obtain ⟨l0, l1, l2, l3, l4, l5, l6⟩ := hi.pos h
  have l7 := hi.1.2.1
  have e1 : (1 : Int32).toInt = 1 := by decide
  unfold f_X3_moveGap
  refine gLet_i (P := fun z : gR => Inv z) (fun u eu => ?_)
  have iu : Inv u := by rw [← eu]; exact m_lay_inv hi l5 l6
  have k0 : u 0 = r 0 := by rw [← eu]; exact m_lay_k l5 (by omega)
  have k2 : u 2 = r 2 := by rw [← eu]; exact m_lay_k l5 (by omega)
  have k3 : u 3 = r 3 := by rw [← eu]; exact m_lay_k l5 (by omega)
  have hu : ¬ u 0 = 0 := by rw [k0]; exact h
  refine gIf_i (P := fun z : gR => Inv z) (fun c => ?_) (fun c => ?_)
  · have i3 : Inv (upd u 3 (u 0)) := iu.upd3 hu (by rw [k0]; omega) (Int.le_refl _)
    have h3 : (upd u 3 (u 0)) 0 = u 0 := upd_ne (by omega)
    refine gIf_i (P := fun z : gR => Inv z) (fun d => ?_) (fun d => ?_)
    · exact ((i3.upd2 (by rw [h3]; exact hu) (by rw [i_z]; exact Int.le_refl _) (by rw [h3, k0, i_z]; omega)).upd (by omega)).upd (by omega)
    · have d1 := i_lt.mp (Int32.not_le.mp d)
      have d2 : (u 2 + 1).toInt = (u 2).toInt + 1 := by rw [i_add (by rw [k2, e1]; omega) (by rw [k2, e1]; omega), e1]
      exact ((i3.upd2 (by rw [h3]; exact hu) (by rw [d2, k2]; omega) (by rw [h3]; exact d1)).upd (by omega)).upd (by omega)
  · have c1 := i_lt.mp (Int32.not_le.mp c)
    rw [i_z] at c1
    have d2 : (u 3 - 1).toInt = (u 3).toInt - 1 := by rw [i_sub (by rw [k3, e1]; omega) (by rw [k3, e1]; omega), e1]
    exact ((iu.upd3 hu (by rw [d2]; omega) (by rw [d2, k3, k0]; omega)).upd (by omega)).upd (by omega)
theorem m_write_inv {r : gR} {l v : Int32} (hi : Inv r) : Inv (f_X3_writeLine r l v).2 := by
  unfold f_X3_writeLine
  refine gLet_i (P := fun z : Int32 × gR => Inv z.2) (fun a ea => ?_)
  refine gIf_i (P := fun z : Int32 × gR => Inv z.2) (fun _ => hi) (fun c => ?_)
  have hl : okL r l := m_has.mp (by rw [ea]; exact c)
  have l7 := hi.1.2.1
  have q0 := hl.1
  have q1 := hl.2
  have hk : 13 + l.toNatClampNeg < 45 := by
    have : l.toNatClampNeg = l.toInt.toNat := rfl
    omega
  refine gLet_i (P := fun z : Int32 × gR => Inv z.2) (fun r4 e4 => ?_)
  have i4 : Inv r4 := by rw [← e4]; exact hi.upd (by omega)
  have hl4 : okL r4 l := by rw [← e4]; unfold okL; rw [upd_ne (by omega)]; exact hl
  obtain ⟨p0, p1⟩ := m_pl_in i4 hl4
  refine gLet_i (P := fun z : Int32 × gR => Inv z.2) (fun pl epl => ?_)
  rw [epl] at p0 p1
  refine gLet_i (P := fun z : Int32 × gR => Inv z.2) (fun u eu => ?_)
  have iu : Inv u := by rw [← eu]; exact m_lay_inv i4 p0 p1
  have u0 : u 0 = r4 0 := by rw [← eu]; exact m_lay_k p0 (by omega)
  have hr0 : ¬ r4 0 = 0 := fun e => by have := hl4.1; have := hl4.2; rw [e, i_z] at this; omega
  have iw : Inv (upd (upd u 5 (u 5 + 1)) 7 (u 7 + 1)) := (iu.upd (by omega)).upd (by omega)
  have w0 : ¬ (upd (upd u 5 (u 5 + 1)) 7 (u 7 + 1)) 0 = 0 := by rw [upd_ne (by omega), upd_ne (by omega), u0]; exact hr0
  refine gIf_i (P := fun z : Int32 × gR => Inv z.2) (fun _ => ?_) (fun _ => iw)
  refine gIf_i (P := fun z : Int32 × gR => Inv z.2) (fun _ => iw) (fun _ => ?_)
  refine gLet_i (P := fun z : Int32 × gR => Inv z.2) (fun w ew => ?_)
  exact (show Inv w by rw [← ew]; exact m_move_inv iw w0)
theorem m_write_0 (r : gR) (l v : Int32) : (f_X3_writeLine r l v).2 0 = r 0 := z_X3_writeLine r l v
/-- nothing behind the 78 numbers -/
def Tl (r : gR) : Prop := ∀ k, 78 ≤ k → r k = 0
theorem Tl.upd {r : gR} {k : Nat} {x : Int32} (hk : k < 78) (h : Tl r) : Tl (upd r k x) := fun j hj => by
  rw [upd_ne (show j ≠ k by omega)]
  exact h j hj
theorem m_L85 : ∀ (d i : Nat) (r : gR), i + d = 33 → f_X3_begin_L85 (d + 1) (nI i) r = fun j => if 45 + i ≤ j ∧ j < 78 then 0 else r j
  | 0, i, r, h => by
    rw [f_X3_begin_L85_s, if_pos (show (33 : Int32) ≤ nI i by rw [show i = 33 by omega]; decide)]
    funext j
    rw [if_neg (by omega)]
  | d + 1, i, r, h => by
    rw [f_X3_begin_L85_s, if_neg (show ¬ (33 : Int32) ≤ nI i from nI_ge (b := 33) (by omega) (by omega)), nI_1, nI_clamp (by omega)]
    show f_X3_begin_L85 (d + 1) (nI (i + 1)) (upd r (45 + i) 0) = _
    rw [m_L85 d (i + 1) _ (by omega)]
    funext j
    by_cases e : j = 45 + i
    · rw [e, if_neg (by omega), upd_eq, if_pos (by omega)]
    · rw [upd_ne e]
      by_cases c : 45 + i ≤ j ∧ j < 78
      · rw [if_pos c, if_pos (by omega)]
      · rw [if_neg c, if_neg (by omega)]
theorem m_L58 : ∀ (d i : Nat) (r : gR), i + d = 32 → f_X3_begin_L58 (d + 1) (nI i) r = fun j => if 13 + i ≤ j ∧ j < 78 then 0 else r j
  | 0, i, r, h => by
    rw [f_X3_begin_L58_s, if_pos (show (32 : Int32) ≤ nI i by rw [show i = 32 by omega]; decide)]
    have e := m_L85 33 0 r rfl
    have e2 : (((33 : Int32).toInt - (0 : Int32).toInt).toNat + 1) = 33 + 1 := by decide
    rw [e2]
    refine e.trans (funext fun j => ?_)
    by_cases c : 13 + i ≤ j ∧ j < 78
    · rw [if_pos c, if_pos (by omega)]
    · rw [if_neg c, if_neg (by omega)]
  | d + 1, i, r, h => by
    rw [f_X3_begin_L58_s, if_neg (show ¬ (32 : Int32) ≤ nI i from nI_ge (b := 32) (by omega) (by omega)), nI_1, nI_clamp (by omega)]
    show f_X3_begin_L58 (d + 1) (nI (i + 1)) (upd r (13 + i) 0) = _
    rw [m_L58 d (i + 1) _ (by omega)]
    funext j
    by_cases e : j = 13 + i
    · rw [e, if_neg (by omega), upd_eq, if_pos (by omega)]
    · rw [upd_ne e]
      by_cases c : 13 + i ≤ j ∧ j < 78
      · rw [if_pos c, if_pos (by omega)]
      · rw [if_neg c, if_neg (by omega)]
/-- a new store of n lines -/
def bgF (r : gR) (n k s : Int32) : gR := fun j => if j = 0 then n else if j = 1 then k else if j = 3 then n else if j = 4 then s else if j = 11 then r 11 else if j = 12 then r 12 else 0
theorem m_begin {r : gR} (ht : Tl r) (n k s : Int32) : f_X3_begin r n k s = bgF r n k s := by
  unfold f_X3_begin
  have e2 : (((32 : Int32).toInt - (0 : Int32).toInt).toNat + 1) = 32 + 1 := by decide
  rw [e2]
  have e := m_L58 32 0 (upd (upd (upd (upd (upd (upd (upd (upd (upd (upd (upd r 0 n) 1 k) 2 0) 3 n) 4 s) 5 0) 6 0) 7 0) 9 0) 10 0) 8 0) rfl
  refine e.trans (funext fun j => ?_)
  unfold bgF
  by_cases c : 13 ≤ j
  · by_cases d : j < 78
    · rw [if_pos ⟨by omega, d⟩, if_neg (by omega), if_neg (by omega), if_neg (by omega), if_neg (by omega), if_neg (by omega), if_neg (by omega)]
    · rw [if_neg (by omega), if_neg (by omega), if_neg (by omega), if_neg (by omega), if_neg (by omega), if_neg (by omega), if_neg (by omega)]
      rw [upd_ne (by omega), upd_ne (by omega), upd_ne (by omega), upd_ne (by omega), upd_ne (by omega), upd_ne (by omega), upd_ne (by omega), upd_ne (by omega), upd_ne (by omega), upd_ne (by omega), upd_ne (by omega)]
      exact ht j (by omega)
  · rw [if_neg (by omega)]
    have hj : j = 0 ∨ j = 1 ∨ j = 2 ∨ j = 3 ∨ j = 4 ∨ j = 5 ∨ j = 6 ∨ j = 7 ∨ j = 8 ∨ j = 9 ∨ j = 10 ∨ j = 11 ∨ j = 12 := by omega
    rcases hj with rfl | rfl | rfl | rfl | rfl | rfl | rfl | rfl | rfl | rfl | rfl | rfl | rfl <;> rfl
def InvW (r : gR) : Prop := (r 11).toInt ≤ 999 ∧ (∀ j, j < 33 → 0 ≤ (r (45 + j)).toInt ∧ (r (45 + j)).toInt ≤ 999 ∧ (r 8 = 0 → (r (45 + j)).toInt ≤ 998)) ∧ ∀ j, j < 32 → 0 ≤ (r (13 + j)).toInt ∧ (r (13 + j)).toInt ≤ 999
theorem InvW.upd0 {r : gR} {k : Nat} {x : Int32} (hk : k < 13 ∧ k ≠ 11 ∧ k ≠ 8) (h : InvW r) : InvW (upd r k x) := by
  refine ⟨?_, fun j hj => ?_, fun j hj => ?_⟩
  · rw [upd_ne (show 11 ≠ k by omega)]; exact h.1
  · rw [upd_ne (show 45 + j ≠ k by omega), upd_ne (show 8 ≠ k by omega)]; exact h.2.1 j hj
  · rw [upd_ne (show 13 + j ≠ k by omega)]; exact h.2.2 j hj
theorem InvW.upd11 {r : gR} {x : Int32} (hx : x.toInt ≤ 999) (h : InvW r) : InvW (upd r 11 x) := by
  refine ⟨?_, fun j hj => ?_, fun j hj => ?_⟩
  · rw [upd_eq]; exact hx
  · rw [upd_ne (show 45 + j ≠ 11 by omega), upd_ne (show 8 ≠ 11 by omega)]; exact h.2.1 j hj
  · rw [upd_ne (show 13 + j ≠ 11 by omega)]; exact h.2.2 j hj
theorem InvW.updV {r : gR} {k : Nat} {x : Int32} (hk : k < 32) (h0 : 0 ≤ x.toInt) (h1 : x.toInt ≤ 999) (h : InvW r) : InvW (upd r (13 + k) x) := by
  refine ⟨?_, fun j hj => ?_, fun j hj => ?_⟩
  · rw [upd_ne (show 11 ≠ 13 + k by omega)]; exact h.1
  · rw [upd_ne (show 45 + j ≠ 13 + k by omega), upd_ne (show 8 ≠ 13 + k by omega)]; exact h.2.1 j hj
  · by_cases e : j = k
    · rw [e, upd_eq]; exact ⟨h0, h1⟩
    · rw [upd_ne (show 13 + j ≠ 13 + k by omega)]; exact h.2.2 j hj
theorem InvW.updW {r : gR} {k : Nat} {x : Int32} (hk : k < 33) (h0 : 0 ≤ x.toInt) (h1 : x.toInt ≤ 999) (h2 : r 8 = 0 → x.toInt ≤ 998) (h : InvW r) : InvW (upd r (45 + k) x) := by
  refine ⟨?_, fun j hj => ?_, fun j hj => ?_⟩
  · rw [upd_ne (show 11 ≠ 45 + k by omega)]; exact h.1
  · rw [upd_ne (show 8 ≠ 45 + k by omega)]
    by_cases e : j = k
    · rw [e, upd_eq]; exact ⟨h0, h1, h2⟩
    · rw [upd_ne (show 45 + j ≠ 45 + k by omega)]; exact h.2.1 j hj
  · rw [upd_ne (show 13 + j ≠ 45 + k by omega)]; exact h.2.2 j hj
theorem m_lay_W {r : gR} {p : Int32} (h : InvW r) (h8 : r 8 = 0) (h0 : 0 ≤ p.toInt) (h1 : p.toInt ≤ 32) : InvW (f_X3_layAt r p) := by
  have hp : p.toNatClampNeg < 33 := by
    have : p.toNatClampNeg = p.toInt.toNat := rfl
    omega
  obtain ⟨w0, w1, w2⟩ := h.2.1 _ hp
  have w3 := w2 h8
  have e1 : (1 : Int32).toInt = 1 := by decide
  have ew : (r (45 + p.toNatClampNeg) + 1).toInt = (r (45 + p.toNatClampNeg)).toInt + 1 := by rw [i_add (by omega) (by omega), e1]
  unfold f_X3_layAt
  refine gIf_i (P := fun z : gR => InvW z) (fun _ => h) (fun _ => ?_)
  refine gIf_i (P := fun z : gR => InvW z) (fun _ => ?_) (fun _ => h)
  refine gLet_i (P := fun z : gR => InvW z) (fun r3 e3 => ?_)
  have a8 : r3 8 = 0 := by rw [← e3, upd_ne (by omega)]; exact h8
  have a11 : r3 11 = r 11 := by rw [← e3, upd_ne (by omega)]
  have a45 : upd r3 10 (r3 10 + 1) (45 + p.toNatClampNeg) = r (45 + p.toNatClampNeg) + 1 := by rw [upd_ne (by omega), ← e3, upd_eq]
  rw [a45, a11]
  -- the dead store, or the one with a spare medium: the place's number is set anew; the others stay
  have hdead : InvW (upd (upd r3 10 (r3 10 + 1)) 8 1) := by
    refine ⟨?_, fun j hj => ?_, fun j hj => ?_⟩
    · rw [upd_ne (by omega), upd_ne (by omega), a11]; exact h.1
    · rw [upd_ne (show 45 + j ≠ 8 by omega), upd_ne (show 45 + j ≠ 10 by omega), upd_eq]
      by_cases e : j = p.toNatClampNeg
      · rw [← e3, e, upd_eq, ew]
        exact ⟨by omega, by omega, fun q => absurd q (by decide)⟩
      · rw [← e3, upd_ne (show 45 + j ≠ 45 + p.toNatClampNeg by omega)]
        exact ⟨(h.2.1 j hj).1, (h.2.1 j hj).2.1, fun q => absurd q (by decide)⟩
    · rw [upd_ne (show 13 + j ≠ 8 by omega), upd_ne (show 13 + j ≠ 10 by omega), ← e3, upd_ne (show 13 + j ≠ 45 + p.toNatClampNeg by omega)]
      exact h.2.2 j hj
  refine gIf_i (P := fun z : gR => InvW z) (fun c => ?_) (fun c => ?_)
  · refine gIf_i (P := fun z : gR => InvW z) (fun _ => hdead) (fun _ => ?_)
    refine gLet_i (P := fun z : gR => InvW z) (fun r6 e6 => ?_)
    refine InvW.upd0 (by omega) ?_
    rw [← e6, ← e3]
    have : upd (upd (upd (upd (upd r (45 + p.toNatClampNeg) (r (45 + p.toNatClampNeg) + 1)) 10 ((upd r (45 + p.toNatClampNeg) (r (45 + p.toNatClampNeg) + 1)) 10 + 1)) 4 ((upd r (45 + p.toNatClampNeg) (r (45 + p.toNatClampNeg) + 1)) 4 - 1)) 9 ((upd r (45 + p.toNatClampNeg) (r (45 + p.toNatClampNeg) + 1)) 9 + 1)) (45 + p.toNatClampNeg) 1 = upd (upd (upd (upd r 10 ((upd r (45 + p.toNatClampNeg) (r (45 + p.toNatClampNeg) + 1)) 10 + 1)) 4 ((upd r (45 + p.toNatClampNeg) (r (45 + p.toNatClampNeg) + 1)) 4 - 1)) 9 ((upd r (45 + p.toNatClampNeg) (r (45 + p.toNatClampNeg) + 1)) 9 + 1)) (45 + p.toNatClampNeg) 1 := by
      funext j
      by_cases e : j = 45 + p.toNatClampNeg
      · rw [e, upd_eq, upd_eq]
      · rw [upd_ne e, upd_ne e]
        unfold upd
        repeat' split
        all_goals first | rfl | exact absurd (by assumption) e
    rw [this]
    exact (((h.upd0 (by omega)).upd0 (by omega)).upd0 (by omega)).updW hp (by decide) (by decide) (fun _ => by decide)
  · have c1 := i_lt.mp (Int32.not_le.mp c)
    have hr := h.1
    refine InvW.upd0 (by omega) ?_
    rw [← e3]
    exact h.updW hp (by omega) (by omega) (fun _ => by omega)
theorem m_move_W {r : gR} (hi : Inv r) (h : InvW r) (h8 : r 8 = 0) (hn : ¬ r 0 = 0) : InvW (f_X3_moveGap r) := by
  obtain ⟨l0, l1, l2, l3, l4, l5, l6⟩ := hi.pos hn
  have l7 := hi.1.2.1
  unfold f_X3_moveGap
  refine gLet_i (P := fun z : gR => InvW z) (fun u eu => ?_)
  have iu : InvW u := by rw [← eu]; exact m_lay_W h h8 l5 (by omega)
  refine gIf_i (P := fun z : gR => InvW z) (fun _ => ?_) (fun _ => ?_)
  · refine gIf_i (P := fun z : gR => InvW z) (fun _ => ?_) (fun _ => ?_)
    · exact (((iu.upd0 (by omega)).upd0 (by omega)).upd0 (by omega)).upd0 (by omega)
    · exact (((iu.upd0 (by omega)).upd0 (by omega)).upd0 (by omega)).upd0 (by omega)
  · exact ((iu.upd0 (by omega)).upd0 (by omega)).upd0 (by omega)
theorem m_write_W {r : gR} {l v : Int32} (hi : Inv r) (h : InvW r) (h8 : r 8 = 0) (hv : okL r l → 0 ≤ v.toInt ∧ v.toInt ≤ 999) : InvW (f_X3_writeLine r l v).2 := by
  unfold f_X3_writeLine
  refine gLet_i (P := fun z : Int32 × gR => InvW z.2) (fun a ea => ?_)
  refine gIf_i (P := fun z : Int32 × gR => InvW z.2) (fun _ => h) (fun c => ?_)
  have hl : okL r l := m_has.mp (by rw [ea]; exact c)
  have l7 := hi.1.2.1
  have q0 := hl.1
  have q1 := hl.2
  have hk : l.toNatClampNeg < 32 := by
    have : l.toNatClampNeg = l.toInt.toNat := rfl
    omega
  refine gLet_i (P := fun z : Int32 × gR => InvW z.2) (fun r4 e4 => ?_)
  have i4 : Inv r4 := by rw [← e4]; exact hi.upd (by omega)
  have w4 : InvW r4 := by rw [← e4]; exact h.updV hk (hv hl).1 (hv hl).2
  have d4 : r4 8 = 0 := by rw [← e4, upd_ne (by omega)]; exact h8
  have hl4 : okL r4 l := by rw [← e4]; unfold okL; rw [upd_ne (by omega)]; exact hl
  obtain ⟨p0, p1⟩ := m_pl_in i4 hl4
  refine gLet_i (P := fun z : Int32 × gR => InvW z.2) (fun pl epl => ?_)
  rw [epl] at p0 p1
  have l74 := i4.1.2.1
  refine gLet_i (P := fun z : Int32 × gR => InvW z.2) (fun u eu => ?_)
  have iu : Inv u := by rw [← eu]; exact m_lay_inv i4 p0 p1
  have wu : InvW u := by rw [← eu]; exact m_lay_W w4 d4 p0 (by omega)
  have u0 : u 0 = r4 0 := by rw [← eu]; exact m_lay_k p0 (by omega)
  have hr0 : ¬ r4 0 = 0 := fun e => by have := hl4.1; have := hl4.2; rw [e, i_z] at this; omega
  have iw : Inv (upd (upd u 5 (u 5 + 1)) 7 (u 7 + 1)) := (iu.upd (by omega)).upd (by omega)
  have ww : InvW (upd (upd u 5 (u 5 + 1)) 7 (u 7 + 1)) := (wu.upd0 (by omega)).upd0 (by omega)
  have w0 : ¬ (upd (upd u 5 (u 5 + 1)) 7 (u 7 + 1)) 0 = 0 := by rw [upd_ne (by omega), upd_ne (by omega), u0]; exact hr0
  refine gIf_i (P := fun z : Int32 × gR => InvW z.2) (fun c8 => ?_) (fun _ => ww)
  refine gIf_i (P := fun z : Int32 × gR => InvW z.2) (fun _ => ww) (fun _ => ?_)
  refine gLet_i (P := fun z : Int32 × gR => InvW z.2) (fun w ew => ?_)
  exact (show InvW w by rw [← ew]; exact m_move_W iw ww (by rw [upd_ne (by omega), upd_ne (by omega)]; exact c8) w0)
theorem m_valueV {r : gR} {l : Int32} (hl : okL r l) : f_X3_valueOf r l = r (13 + l.toNatClampNeg) := by
  unfold f_X3_valueOf
  simp only [gLet]
  rw [if_neg (m_has.mpr hl)]
theorem m_had {r : gR} {l v : Int32} (hl : okL r l) : (f_X3_writeLine r l v).1 = r (13 + l.toNatClampNeg) := by
  unfold f_X3_writeLine
  refine gLet_i (P := fun z : Int32 × gR => z.1 = r (13 + l.toNatClampNeg)) (fun a ea => ?_)
  rw [if_neg (show ¬ a = 0 from fun e => m_has.mpr hl (by rw [ea]; exact e))]
  refine gLet_i (P := fun z : Int32 × gR => z.1 = r (13 + l.toNatClampNeg)) (fun r4 _ => ?_)
  refine gLet_i (P := fun z : Int32 × gR => z.1 = r (13 + l.toNatClampNeg)) (fun pl _ => ?_)
  refine gLet_i (P := fun z : Int32 × gR => z.1 = r (13 + l.toNatClampNeg)) (fun u _ => ?_)
  refine gIf_i (P := fun z : Int32 × gR => z.1 = r (13 + l.toNatClampNeg)) (fun _ => ?_) (fun _ => rfl)
  refine gIf_i (P := fun z : Int32 × gR => z.1 = r (13 + l.toNatClampNeg)) (fun _ => rfl) (fun _ => ?_)
  refine gLet_i (P := fun z : Int32 × gR => z.1 = r (13 + l.toNatClampNeg)) (fun _ _ => rfl)
