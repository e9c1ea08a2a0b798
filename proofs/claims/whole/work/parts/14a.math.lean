/-! THE TWO SIDES AGREE: a store's own steps -/
theorem m_at {b : Int32} {n : Nat} (hb : b.toInt = n) (hn : n < 1000) {p : Int32} (h0 : 0 ≤ p.toInt) (h1 : p.toInt ≤ 32) : (b + p).toNatClampNeg = n + p.toNatClampNeg := by
  have e : (b + p).toInt = b.toInt + p.toInt := i_add (by omega) (by omega)
  have e1 : (b + p).toNatClampNeg = (b + p).toInt.toNat := rfl
  have e2 : p.toNatClampNeg = p.toInt.toNat := rfl
  rw [e1, e2, e, hb]
  omega
theorem m_45 {p : Int32} (h0 : 0 ≤ p.toInt) (h1 : p.toInt ≤ 32) : (45 + p).toNatClampNeg = 45 + p.toNatClampNeg := m_at (by decide) (by decide) h0 h1
theorem m_13 {p : Int32} (h0 : 0 ≤ p.toInt) (h1 : p.toInt ≤ 32) : (13 + p).toNatClampNeg = 13 + p.toNatClampNeg := m_at (by decide) (by decide) h0 h1
theorem i_z : (0 : Int32).toInt = 0 := by decide
theorem m_layAt {r : gR} {p : Int32} (h0 : 0 ≤ p.toInt) (h1 : p.toInt ≤ (r 0).toInt) (hr : (r 0).toInt ≤ 32) (hs : 0 ≤ (r 4).toInt) : f_X3_layAt r p = f_X6_layAt r p := by
  have g0 : ¬ p < 0 := by rw [i_lt, i_z]; omega
  have g1 : p ≤ r 0 := i_le.mpr h1
  unfold f_X3_layAt f_X6_layAt
  rw [if_neg g0, if_pos g1, m_45 h0 (by omega)]
  simp only [gLet]
  generalize hr3 : upd r (45 + p.toNatClampNeg) (r (45 + p.toNatClampNeg) + 1) = r3
  have e11 : (upd r3 10 (r3 10 + 1)) 11 = r3 11 := upd_ne (by omega)
  have e4 : (upd r3 10 (r3 10 + 1)) 4 = r3 4 := upd_ne (by omega)
  have h4 : r3 4 = r 4 := by rw [← hr3]; exact upd_ne (by omega)
  rw [e11, e4]
  generalize hr2 : upd r3 10 (r3 10 + 1) = r2
  by_cases c : r3 11 ≤ r2 (45 + p.toNatClampNeg)
  · rw [if_pos c, if_neg (Int32.not_lt.mpr c)]
    by_cases d : r3 4 = 0
    · rw [if_pos d, if_pos (by rw [d]; decide)]
    · rw [if_neg d, if_neg (fun q => d (by
        rw [h4] at q ⊢
        have := i_le.mp q
        rw [i_z] at this
        exact i_eq.mpr (by rw [i_z]; omega)))]
      have e9 : (upd r2 4 (r3 4 - 1)) 9 = r3 9 := by rw [upd_ne (by omega), ← hr2]; exact upd_ne (by omega)
      rw [e9]
  · rw [if_neg c, if_pos (Int32.not_le.mp c)]
