/-! LINES AND PLACES, MOVES OF THE GAP, WEARS -/
theorem k_surj {n k j s t : Nat} (hn : 0 < n) (hj : k * j % n = 1) (hs : s < n) (ht : t < n) : ∃ l, l < n ∧ (k * l + s) % n = t := by
  refine ⟨(j * (t + n - s)) % n, Nat.mod_lt _ hn, ?_⟩
  have e1 : k * ((j * (t + n - s)) % n) % n = (t + n - s) % n := by
    rw [Nat.mul_mod_mod, ← Nat.mul_assoc, ← Nat.mod_mul_mod, hj, Nat.one_mul]
  rw [← Nat.mod_add_mod, e1, Nat.mod_add_mod, show t + n - s + s = t + n by omega, Nat.add_mod_right]
  exact Nat.mod_eq_of_lt ht
/-- what numbers a store has -/
theorem m_num {r : gR} (h : Gd r) : r 0 = nI (nN (r 0)) ∧ r 1 = nI (nN (r 1)) ∧ r 2 = nI (nN (r 2)) ∧ r 3 = nI (nN (r 3)) ∧ 4 ≤ nN (r 0) ∧ nN (r 0) ≤ 32 ∧ 1 ≤ nN (r 1) ∧ nN (r 1) < nN (r 0) ∧ nN (r 2) < nN (r 0) ∧ nN (r 3) ≤ nN (r 0) := by
  obtain ⟨l0, l1, l2, l3, l4, l5, l6⟩ := h.1.pos h.2.2.1
  have l7 := h.1.1.2.1
  have d0 : nN (r 0) = (r 0).toInt.toNat := rfl
  have d1 : nN (r 1) = (r 1).toInt.toNat := rfl
  have d2 : nN (r 2) = (r 2).toInt.toNat := rfl
  have d3 : nN (r 3) = (r 3).toInt.toNat := rfl
  exact ⟨nI_nN (by omega), nI_nN (by omega), nI_nN l3, nI_nN l5, by omega, by omega, by omega, by omega, by omega, by omega⟩
theorem okL_nI {r : gR} (h : Gd r) {j : Nat} (hj : j < nN (r 0)) : okL r (nI j) := by
  obtain ⟨l0, l1, l2, l3, l4, l5, l6⟩ := h.1.pos h.2.2.1
  have l7 := h.1.1.2.1
  have d0 : nN (r 0) = (r 0).toInt.toNat := rfl
  unfold okL
  rw [nI_toInt (by omega)]
  omega
theorem m_lineAt_L {r : gR} (h : Gd r) {t : Nat} (ht : t < 100) : ∀ (n i : Nat), i + n = nN (r 0) + 1 → (∃ L, i ≤ L ∧ L < nN (r 0) ∧ (nN (r 1) * L + nN (r 2)) % nN (r 0) = t) → ∃ L, L < nN (r 0) ∧ (nN (r 1) * L + nN (r 2)) % nN (r 0) = t ∧ f_X3_lineAt_L28 r n (nI t) (nI i) = nI L
  | 0, i, h1, h2 => by obtain ⟨L, a, b, -⟩ := h2; omega
  | n + 1, i, h1, h2 => by
    obtain ⟨L, a, b, c⟩ := h2
    obtain ⟨e0, e1, e2, e3, b0, b1, b2, b3, b4, b5⟩ := m_num h
    have hl : okL r (nI i) := okL_nI h (by omega)
    have hm := Nat.mod_lt (nN (r 1) * i + nN (r 2)) (show 0 < nN (r 0) by omega)
    have er : f_X3_rankOf r (nI i) (r 2) = nI ((nN (r 1) * i + nN (r 2)) % nN (r 0)) := by
      have q := (m_rankN h.1 hl).1
      unfold mvT at q
      rw [nN_nI (show i < 2 ^ 31 by omega)] at q
      exact q
    rw [f_X3_lineAt_L28_s, if_neg (by rw [e0]; exact nI_ge (by omega) (by omega)), gLet_e er]
    by_cases d : (nN (r 1) * i + nN (r 2)) % nN (r 0) = t
    · rw [d, if_pos rfl]; exact ⟨i, by omega, d, rfl⟩
    · rw [if_neg (fun q => d ((nI_eq (by omega) (by omega)).mp q)), nI_1]
      refine m_lineAt_L h ht n (i + 1) (by omega) ⟨L, ?_, b, c⟩
      have : L ≠ i := fun q => d (by rw [← q]; exact c)
      omega
theorem m_lineAt {r : gR} (h : Gd r) {P : Nat} (hP : P ≤ nN (r 0)) (hg : P ≠ nN (r 3)) : ∃ L, L < nN (r 0) ∧ f_X3_lineAt r (nI P) = nI L ∧ pwN (nN (r 0)) (nN (r 1)) L (nN (r 2)) (nN (r 3)) = P := by
  obtain ⟨e0, e1, e2, e3, b0, b1, b2, b3, b4, b5⟩ := m_num h
  obtain ⟨J, hJ⟩ := h.2.2.2.1
  have hf : ((r 0).toInt - (0 : Int32).toInt).toNat + 1 = nN (r 0) + 1 := by
    rw [i_z]; unfold nN; omega
  unfold f_X3_lineAt
  rw [if_neg (by rw [e3]; exact fun q => hg ((nI_eq (by omega) (by omega)).mp q)), hf]
  by_cases c : P < nN (r 3)
  · rw [if_neg (by rw [e3]; exact nI_ge c (by omega))]
    obtain ⟨l, hl, el⟩ := k_surj (by omega) hJ b4 (show P < nN (r 0) by omega)
    obtain ⟨L, a1, a2, a3⟩ := m_lineAt_L h (t := P) (by omega) (nN (r 0) + 1) 0 (by omega) ⟨l, by omega, hl, el⟩
    refine ⟨L, a1, a3, ?_⟩
    unfold pwN
    rw [a2, if_pos c]
  · rw [if_pos (by rw [e3]; exact nI_le (by omega) (by omega))]
    obtain ⟨l, hl, el⟩ := k_surj (by omega) hJ b4 (show P - 1 < nN (r 0) by omega)
    obtain ⟨L, a1, a2, a3⟩ := m_lineAt_L h (t := P - 1) (by omega) (nN (r 0) + 1) 0 (by omega) ⟨l, by omega, hl, el⟩
    have ep : nI P - 1 = nI (P - 1) := pk_sub (b := 1) (by omega)
    refine ⟨L, a1, by rw [ep]; exact a3, ?_⟩
    unfold pwN
    rw [a2, if_neg (by omega)]
    omega
theorem m_lineGap {r : gR} : f_X3_lineAt r (r 3) = -1 := by unfold f_X3_lineAt; rw [if_pos rfl]
theorem dm0 {x n : Nat} (h : x < n + 1) : x / (n + 1) = 0 ∧ x % (n + 1) = x := ⟨Nat.div_eq_of_lt h, Nat.mod_eq_of_lt h⟩
theorem dm1 {x n : Nat} (h1 : n + 1 ≤ x) (h2 : x < 2 * (n + 1)) : x / (n + 1) = 1 ∧ x % (n + 1) = x - (n + 1) := by
  have e : x = (x - (n + 1)) + (n + 1) * 1 := by omega
  have q : x - (n + 1) < n + 1 := by omega
  constructor
  · rw [e, Nat.add_mul_div_left _ _ (by omega), Nat.div_eq_of_lt q]
  · conv => lhs; rw [e]
    rw [Nat.add_mul_mod_self_left, Nat.mod_eq_of_lt q]
theorem mv_K {r : gR} {l : Int32} (hi : Inv r) (hl : okL r l) : 1 ≤ mvK r l ∧ mvK r l ≤ nN (r 0) := by
  obtain ⟨b1, b2, b3, b4, b5, b6, b7, -⟩ := mv_b (m_okG hi) hl
  unfold mvK
  split <;> omega
theorem pb_at0 {r : gR} {m : Nat} (hs : nN (r 2) < nN (r 0)) (h : nN (r 0) - nN (r 3) + m < nN (r 0) + 1) : pbS r m = nN (r 2) ∧ pbG r m = nN (r 0) - (nN (r 0) - nN (r 3) + m) := by
  unfold pbS pbG
  rw [(dm0 h).1, (dm0 h).2]
  exact ⟨Nat.mod_eq_of_lt (by omega), rfl⟩
theorem pb_at1 {r : gR} {m : Nat} (h : nN (r 0) + 1 ≤ nN (r 0) - nN (r 3) + m) (h2 : nN (r 0) - nN (r 3) + m < 2 * (nN (r 0) + 1)) : pbS r m = (nN (r 2) + 1) % nN (r 0) ∧ pbG r m = nN (r 0) - (nN (r 0) - nN (r 3) + m - (nN (r 0) + 1)) := by
  unfold pbS pbG
  rw [(dm1 h h2).1, (dm1 h h2).2]
  exact ⟨rfl, rfl⟩
/-- behind so many moves of the gap: still there; elsewhere; there again -/
theorem m_behind {r : gR} {l : Int32} (hi : Inv r) (hl : okL r l) : (pwN (nN (r 0)) (nN (r 1)) (nN l) (pbS r 0) (pbG r 0) = pwN (nN (r 0)) (nN (r 1)) (nN l) (nN (r 2)) (nN (r 3))) ∧ (pwN (nN (r 0)) (nN (r 1)) (nN l) (pbS r (mvK r l - 1)) (pbG r (mvK r l - 1)) = pwN (nN (r 0)) (nN (r 1)) (nN l) (nN (r 2)) (nN (r 3))) ∧ (pwN (nN (r 0)) (nN (r 1)) (nN l) (pbS r (mvK r l)) (pbG r (mvK r l)) = (pwN (nN (r 0)) (nN (r 1)) (nN l) (nN (r 2)) (nN (r 3)) + 1) % (nN (r 0) + 1)) ∧ (pwN (nN (r 0)) (nN (r 1)) (nN l) (pbS r (nN (r 0) * (nN (r 0) + 1))) (pbG r (nN (r 0) * (nN (r 0) + 1))) = pwN (nN (r 0)) (nN (r 1)) (nN l) (nN (r 2)) (nN (r 3))) := by
  obtain ⟨b1, b2, b3, b4, b5, b6, b7, b8, b9, b10, b11⟩ := mv_b (m_okG hi) hl
  have ht2 := mv_t2 (m_okG hi) hl
  have ht : (nN (r 1) * nN l + nN (r 2)) % nN (r 0) = mvT r l := rfl
  have hw : ∀ g, pwN (nN (r 0)) (nN (r 1)) (nN l) (nN (r 2)) g = if mvT r l < g then mvT r l else mvT r l + 1 := fun g => by unfold pwN; rw [ht]
  have hw2 : ∀ g, pwN (nN (r 0)) (nN (r 1)) (nN l) ((nN (r 2) + 1) % nN (r 0)) g = if (mvT r l + 1) % nN (r 0) < g then (mvT r l + 1) % nN (r 0) else (mvT r l + 1) % nN (r 0) + 1 := fun g => by unfold pwN; rw [ht2]
  have hm1 : (mvT r l + 1) % nN (r 0) = if mvT r l + 1 = nN (r 0) then 0 else mvT r l + 1 := by
    by_cases c : mvT r l + 1 = nN (r 0)
    · rw [if_pos c, c, Nat.mod_self]
    · rw [if_neg c, Nat.mod_eq_of_lt (by omega)]
  have hK : mvK r l = if mvT r l < nN (r 3) then nN (r 3) - mvT r l else nN (r 3) + nN (r 0) - mvT r l := rfl
  refine ⟨?_, ?_, ?_, ?_⟩
  · obtain ⟨s0, s1⟩ := pb_at0 (r := r) (m := 0) b4 (by omega)
    rw [s0, s1, show nN (r 0) - (nN (r 0) - nN (r 3) + 0) = nN (r 3) by omega]
  · by_cases c : mvT r l < nN (r 3)
    · rw [if_pos c] at hK
      obtain ⟨s0, s1⟩ := pb_at0 (r := r) (m := mvK r l - 1) b4 (by omega)
      rw [s0, s1, hw, hw, if_pos (by omega), if_pos c]
    · rw [if_neg c] at hK
      by_cases d : mvT r l + 1 = nN (r 0)
      · obtain ⟨s0, s1⟩ := pb_at0 (r := r) (m := mvK r l - 1) b4 (by omega)
        rw [s0, s1, hw, hw, if_neg (by omega), if_neg c]
      · obtain ⟨s0, s1⟩ := pb_at1 (r := r) (m := mvK r l - 1) (by omega) (by omega)
        rw [if_neg d] at hm1
        rw [s0, s1, hw, hw2, hm1, if_pos (by omega), if_neg c]
  · by_cases c : mvT r l < nN (r 3)
    · rw [if_pos c] at hK
      obtain ⟨s0, s1⟩ := pb_at0 (r := r) (m := mvK r l) b4 (by omega)
      rw [s0, s1, hw, hw, if_neg (by omega), if_pos c, Nat.mod_eq_of_lt (by omega)]
    · rw [if_neg c] at hK
      obtain ⟨s0, s1⟩ := pb_at1 (r := r) (m := mvK r l) (by omega) (by omega)
      rw [s0, s1, hw, hw2, if_neg c]
      by_cases d : mvT r l + 1 = nN (r 0)
      · rw [if_pos d] at hm1
        rw [hm1, if_pos (by omega), d, Nat.mod_self]
      · rw [if_neg d] at hm1
        rw [hm1, if_neg (by omega), Nat.mod_eq_of_lt (by omega)]
  · have e1 : (nN (r 0) - nN (r 3) + nN (r 0) * (nN (r 0) + 1)) / (nN (r 0) + 1) = nN (r 0) := by
      rw [Nat.add_mul_div_right _ _ (by omega), Nat.div_eq_of_lt (by omega), Nat.zero_add]
    have e2 : (nN (r 0) - nN (r 3) + nN (r 0) * (nN (r 0) + 1)) % (nN (r 0) + 1) = nN (r 0) - nN (r 3) := by
      rw [Nat.add_mul_mod_self_right, Nat.mod_eq_of_lt (by omega)]
    unfold pbS pbG
    rw [e1, e2, Nat.add_mod_right, Nat.mod_eq_of_lt b4, show nN (r 0) - (nN (r 0) - nN (r 3)) = nN (r 3) by omega]
/-- the greatest wear, and the least -/
def mxW (r : gR) : Nat → Nat
  | 0 => 0
  | n + 1 => if mxW r n < nN (r (45 + n)) then nN (r (45 + n)) else mxW r n
def mnW (r : gR) : Nat → Nat
  | 0 => 1000000
  | n + 1 => if nN (r (45 + n)) < mnW r n then nN (r (45 + n)) else mnW r n
theorem m_wearN {r : gR} (h : InvW r) {j : Nat} (hj : j < 33) : r (45 + j) = nI (nN (r (45 + j))) ∧ nN (r (45 + j)) ≤ 999 := by
  obtain ⟨w0, w1, -⟩ := h.2.1 j hj
  refine ⟨nI_nN w0, ?_⟩
  unfold nN; omega
theorem mxW_le {r : gR} (h : InvW r) : ∀ n, n ≤ 33 → mxW r n ≤ 999
  | 0, _ => by unfold mxW; omega
  | n + 1, hn => by
    have a := mxW_le h n (by omega)
    have b := (m_wearN h (j := n) (by omega)).2
    unfold mxW
    split <;> omega
theorem mnW_le {r : gR} : ∀ n, mnW r n ≤ 1000000
  | 0 => by unfold mnW; omega
  | n + 1 => by
    have a := mnW_le (r := r) n
    unfold mnW
    split <;> omega
theorem m_great_L {r : gR} (h : Gd r) : ∀ (n i : Nat), i + n = nN (r 0) + 1 → f_X3_greatestWear_L9 r (n + 1) (nI (mxW r i)) (nI i) = nI (mxW r (nN (r 0) + 1))
  | 0, i, hi => by
    obtain ⟨e0, e1, e2, e3, b0, b1, -⟩ := m_num h
    rw [f_X3_greatestWear_L9_s, if_pos (by rw [e0]; exact nI_lt (by omega) (by omega)), show i = nN (r 0) + 1 by omega]
  | n + 1, i, hi => by
    obtain ⟨e0, e1, e2, e3, b0, b1, -⟩ := m_num h
    obtain ⟨w0, w1⟩ := m_wearN h.2.1 (j := i) (by omega)
    have hx := mxW_le h.2.1 i (by omega)
    have em : (if nI (mxW r i) < r (45 + (nI i).toNatClampNeg) then r (45 + (nI i).toNatClampNeg) else nI (mxW r i)) = nI (mxW r (i + 1)) := by
      rw [nI_clamp (by omega)]
      conv => rhs; unfold mxW
      by_cases c : mxW r i < nN (r (45 + i))
      · rw [if_pos c, if_pos (by rw [w0]; exact nI_lt c (by omega))]; exact w0
      · rw [if_neg c, if_neg (by rw [w0]; exact nI_nlt (by omega) (by omega))]
    rw [f_X3_greatestWear_L9_s, if_neg (by rw [e0]; exact nI_nlt (by omega) (by omega)), gLet_e em, nI_1]
    exact m_great_L h n (i + 1) (by omega)
theorem m_great {r : gR} (h : Gd r) : f_X3_greatestWear r = nI (mxW r (nN (r 0) + 1)) := by
  obtain ⟨e0, e1, e2, e3, b0, b1, -⟩ := m_num h
  obtain ⟨w0, w1⟩ := m_wearN h.2.1 (j := 0) (by omega)
  have h1 : (1 : Int32).toInt = 1 := by decide
  have hf : ((r 0).toInt + 1 - (1 : Int32).toInt).toNat + 1 = nN (r 0) + 1 := by rw [h1]; unfold nN; omega
  have e45 : r 45 = nI (mxW r 1) := by
    have : mxW r 1 = nN (r (45 + 0)) := by unfold mxW; unfold mxW; split <;> omega
    rw [this]; exact w0
  unfold f_X3_greatestWear
  rw [hf, e45]
  exact m_great_L h (nN (r 0)) 1 (by omega)
theorem m_least_L {r : gR} (h : Gd r) : ∀ (n i : Nat), i + n = nN (r 0) + 1 → f_X3_leastWear_L9 r (n + 1) (nI (mnW r i)) (nI i) = nI (mnW r (nN (r 0) + 1))
  | 0, i, hi => by
    obtain ⟨e0, e1, e2, e3, b0, b1, -⟩ := m_num h
    rw [f_X3_leastWear_L9_s, if_pos (by rw [e0]; exact nI_lt (by omega) (by omega)), show i = nN (r 0) + 1 by omega]
  | n + 1, i, hi => by
    obtain ⟨e0, e1, e2, e3, b0, b1, -⟩ := m_num h
    obtain ⟨w0, w1⟩ := m_wearN h.2.1 (j := i) (by omega)
    have hx := mnW_le (r := r) i
    have em : (if r (45 + (nI i).toNatClampNeg) < nI (mnW r i) then r (45 + (nI i).toNatClampNeg) else nI (mnW r i)) = nI (mnW r (i + 1)) := by
      rw [nI_clamp (by omega)]
      conv => rhs; unfold mnW
      by_cases c : nN (r (45 + i)) < mnW r i
      · rw [if_pos c, if_pos (by rw [w0]; exact nI_lt c (by omega))]; exact w0
      · rw [if_neg c, if_neg (by rw [w0]; exact nI_nlt (by omega) (by omega))]
    rw [f_X3_leastWear_L9_s, if_neg (by rw [e0]; exact nI_nlt (by omega) (by omega)), gLet_e em, nI_1]
    exact m_least_L h n (i + 1) (by omega)
theorem m_least {r : gR} (h : Gd r) : f_X3_leastWear r = nI (mnW r (nN (r 0) + 1)) := by
  obtain ⟨e0, e1, e2, e3, b0, b1, -⟩ := m_num h
  obtain ⟨w0, w1⟩ := m_wearN h.2.1 (j := 0) (by omega)
  have h1 : (1 : Int32).toInt = 1 := by decide
  have hf : ((r 0).toInt + 1 - (1 : Int32).toInt).toNat + 1 = nN (r 0) + 1 := by rw [h1]; unfold nN; omega
  have e45 : r 45 = nI (mnW r 1) := by
    have : mnW r 1 = nN (r (45 + 0)) := by unfold mnW; unfold mnW; split <;> omega
    rw [this]; exact w0
  unfold f_X3_leastWear
  rw [hf, e45]
  exact m_least_L h (nN (r 0)) 1 (by omega)
