/-! THE TWO SIDES AGREE: writing in turn -/
theorem m_next {a n : Nat} (hn : 0 < n) : (a + 1) % n = if n ≤ a % n + 1 then 0 else a % n + 1 := by
  have h1 := Nat.mod_lt a hn
  have h2 := Nat.div_add_mod a n
  by_cases c : n ≤ a % n + 1
  · rw [if_pos c]
    have e : a + 1 = n * (a / n + 1) := by rw [Nat.mul_add, Nat.mul_one]; omega
    rw [e]; exact Nat.mul_mod_right _ _
  · rw [if_neg c, Nat.add_mod, Nat.mod_eq_of_lt (a := 1) (by omega), Nat.mod_eq_of_lt (by omega)]
theorem m_all_L {m : Int32} (hm : m.toInt < 100000) : ∀ (n a : Nat) (r : gR), Inv r → ¬ r 0 = 0 → a < 100000 → f_X3_writeInTurn_L4 m n (nI a) (nI (a % nN (r 0))) r = f_X6_allOn_L2 m n (nI a) r
  | 0, _, _, _, _, _ => rfl
  | n + 1, a, r, hi, h0, ha => by
    obtain ⟨l0, -⟩ := hi.pos h0
    have l7 := hi.1.2.1
    have d0 : nN (r 0) = (r 0).toInt.toNat := rfl
    have hr : r 0 = nI (nN (r 0)) := nI_nN (by omega)
    have hmod := Nat.mod_lt a (show 0 < nN (r 0) by omega)
    have hv : nI a - nI a / r 0 * r 0 = nI (a % nN (r 0)) := by
      rw [hr, pk_rem (by omega) (by omega) (by omega), ← hr]
    have hl : okL r (nI (a % nN (r 0))) := by
      unfold okL
      rw [nI_toInt (by omega)]
      omega
    rw [f_X3_writeInTurn_L4_s, f_X6_allOn_L2_s]
    simp only [gLet]
    by_cases c : m ≤ nI a
    · rw [if_pos c, if_pos c]
    rw [if_neg c, if_neg c]
    by_cases d : r 8 = 0
    · rw [if_pos d, if_pos d, hv, m_value hl l7, m_write hi hl]
      generalize hq : f_X6_writeOn r (nI (a % nN (r 0))) (r ((13 + nI (a % nN (r 0))).toNatClampNeg)) = q
      have hiq : Inv q.2 := by rw [← hq, ← m_write hi hl]; exact m_write_inv hi
      have h0q : q.2 0 = r 0 := by rw [← hq, ← m_write hi hl]; exact m_write_0 _ _ _
      have c1 := i_lt.mp (Int32.not_le.mp c)
      rw [nI_toInt (by omega)] at c1
      have ih := m_all_L hm n (a + 1) q.2 hiq (by rw [h0q]; exact h0) (by omega)
      rw [h0q, m_next (show 0 < nN (r 0) by omega)] at ih
      have e1 : nI a + 1 = nI (a + 1) := nI_1 _
      have e2 : nI (a % nN (r 0)) + 1 = nI (a % nN (r 0) + 1) := nI_1 _
      rw [h0q, e1, e2]
      by_cases f : nN (r 0) ≤ a % nN (r 0) + 1
      · rw [if_pos f] at ih
        rw [if_pos (show r 0 ≤ nI (a % nN (r 0) + 1) by rw [i_le, nI_toInt (by omega)]; omega)]
        exact ih
      · rw [if_neg f] at ih
        rw [if_neg (show ¬ r 0 ≤ nI (a % nN (r 0) + 1) by rw [i_le, nI_toInt (by omega)]; omega)]
        exact ih
    · rw [if_neg d, if_neg d]
