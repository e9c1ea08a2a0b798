/-! THE TWO SIDES AGREE: the text -/
theorem m_ne1 {k : Nat} (h : k < 2 ^ 31) : ¬ nI k = -1 := fun e => by
  have h1 := nI_toInt h
  rw [e] at h1
  have h2 : (-1 : Int32).toInt = -1 := by decide
  omega
theorem m_sign {N : Nat} {tf : Nat → Int32} {S : Nat} (hN : N ≤ 120) (hS : S < 1000) : f_X4_signAt (nI N) tf (nI S) = if N ≤ S then 0 else tf S := by
  unfold f_X4_signAt
  rw [if_neg (nI_pos (by omega)), nI_clamp (by omega)]
  by_cases c : N ≤ S
  · rw [if_pos c, if_pos (nI_le c (by omega))]
  · rw [if_neg c, if_neg (nI_ge (by omega) (by omega))]
theorem m_pow10 {d : Nat} (h : d ≤ 3) : d = 0 ∧ 10 ^ d = 1 ∨ d = 1 ∧ 10 ^ d = 10 ∨ d = 2 ∧ 10 ^ d = 100 ∨ d = 3 ∧ 10 ^ d = 1000 := by
  have : d = 0 ∨ d = 1 ∨ d = 2 ∨ d = 3 := by omega
  rcases this with rfl | rfl | rfl | rfl <;> decide
theorem m_fig_L {N S m : Nat} {tf : Nat → Int32} {p0 lo hi : Int32} (hN : N ≤ 120) (hS : S < 900) (hm : m ≤ 3) (hp : ¬ p0 = -1) (ht : ∀ j, ∃ c, c < 256 ∧ tf j = nI c) : ∀ (d i x fuel : Nat), i + d = m → x < 10 ^ i → d < fuel →
    (f_X4_errorInNumber_L31 (nI N) tf (nI S) (nI m) lo hi (d + 1) (nI (x * 10 ^ d)) (nI (10 ^ d)) (nI i) = -1 ∧ f_X6_figures_L26 (nI N) tf p0 lo hi fuel (nI (x * 10 ^ d)) (nI (10 ^ d / 10)) (nI (S + i)) = (f_X4_numberAt_L5 (nI N) tf (nI S) (nI m) (d + 1) (nI x) (nI i), nI (S + m)) ∧ (∃ y, f_X4_numberAt_L5 (nI N) tf (nI S) (nI m) (d + 1) (nI x) (nI i) = nI y ∧ y < 10 ^ m) ∧ (0 < d → S + m ≤ N ∧ ¬ hi < f_X4_numberAt_L5 (nI N) tf (nI S) (nI m) (d + 1) (nI x) (nI i) ∧ lo ≤ f_X4_numberAt_L5 (nI N) tf (nI S) (nI m) (d + 1) (nI x) (nI i))) ∨
    (∃ e, e < 1000 ∧ f_X4_errorInNumber_L31 (nI N) tf (nI S) (nI m) lo hi (d + 1) (nI (x * 10 ^ d)) (nI (10 ^ d)) (nI i) = nI e ∧ f_X6_figures_L26 (nI N) tf p0 lo hi fuel (nI (x * 10 ^ d)) (nI (10 ^ d / 10)) (nI (S + i)) = (-1, nI e))
  | _, _, _, 0, _, _, h => absurd h (by omega)
  | 0, i, x, fuel + 1, hid, hx, hf => by
    refine Or.inl ⟨?_, ?_, ⟨x, ?_, by rw [show m = i by omega]; exact hx⟩, fun h => absurd h (by omega)⟩
    · rw [f_X4_errorInNumber_L31_s, if_pos (nI_le (by omega) (by omega))]
    · rw [f_X6_figures_L26_s, f_X4_numberAt_L5_s, if_pos (show nI (10 ^ 0 / 10) ≤ 0 by decide), if_neg hp, if_pos (nI_le (by omega) (by omega)), Nat.pow_zero, Nat.mul_one, show S + i = S + m by omega]
    · rw [f_X4_numberAt_L5_s, if_pos (nI_le (by omega) (by omega))]
  | d + 1, i, x, fuel + 1, hid, hx, hf => by
    have hp10 := m_pow10 (d := d) (by omega)
    have hi10 := m_pow10 (d := i) (by omega)
    have e10 : 10 ^ (d + 1) = 10 ^ d * 10 := Nat.pow_succ ..
    have hun : nI (10 ^ (d + 1)) / 10 = nI (10 ^ d) := by
      have := pk_div (a := 10 ^ (d + 1)) (d := 10) (by omega) (by omega) (by omega)
      rw [show nI 10 = 10 from rfl] at this
      rw [this, e10, Nat.mul_div_cancel _ (by omega)]
    have hun2 : 10 ^ (d + 1) / 10 = 10 ^ d := by rw [e10, Nat.mul_div_cancel _ (by omega)]
    have hun3 : nI (10 ^ d) / 10 = nI (10 ^ d / 10) := pk_div (d := 10) (by omega) (by omega) (by omega)
    have hmi : ¬ nI m ≤ nI i := nI_ge (by omega) (by omega)
    rw [f_X4_errorInNumber_L31_s, f_X6_figures_L26_s, f_X4_numberAt_L5_s, if_neg hmi, if_neg hmi, hun2, if_neg (show ¬ nI (10 ^ d) ≤ 0 from nI_nle (by omega) (by omega)), if_neg hp, nI_add]
    simp only [gLet]
    rw [hun, hun3, m_sign hN (by omega), nI_clamp (by omega)]
    by_cases c : N ≤ S + i
    · rw [if_pos c, if_pos (nI_le c (by omega)), if_pos (show (0 : Int32) < 48 by decide)]
      exact Or.inr ⟨S + i, by omega, rfl, rfl⟩
    · rw [if_neg c, if_neg (nI_ge (by omega) (by omega))]
      obtain ⟨c', hc, hch⟩ := ht (S + i)
      rw [hch]
      have hin : f_X6_in (nI c' - 48).toInt64 0 9 = if nI c' - 48 < 0 then 0 else if 9 < nI c' - 48 then 0 else 1 := m_in (nI c' - 48) 0 9
      rw [hin]
      by_cases c1 : c' < 48
      · rw [if_pos (show nI c' < 48 from nI_lt (b := 48) c1 (by omega)), if_pos (show nI c' - 48 < 0 from pk_sneg (b := 48) (by omega) c1), if_pos rfl]
        exact Or.inr ⟨S + i, by omega, rfl, rfl⟩
      have hsub : nI c' - 48 = nI (c' - 48) := pk_sub (b := 48) (by omega)
      rw [if_neg (show ¬ nI c' < 48 from nI_nlt (b := 48) (by omega) (by omega)), hsub, if_neg (nI_pos (by omega))]
      by_cases c2 : 57 < c'
      · rw [if_neg (show ¬ nI c' ≤ 57 from nI_ge (a := 57) c2 (by omega)), if_pos (show 9 < nI (c' - 48) from nI_lt (a := 9) (by omega) (by omega)), if_pos rfl]
        exact Or.inr ⟨S + i, by omega, rfl, rfl⟩
      rw [if_pos (show nI c' ≤ 57 from nI_le (b := 57) (by omega) (by omega)), if_neg (show ¬ 9 < nI (c' - 48) from nI_nlt (a := 9) (by omega) (by omega)), if_neg (show ¬ (1 : Int32) = 0 by decide)]
      have hx' : x * 10 + (c' - 48) < 10 ^ (i + 1) := by rw [Nat.pow_succ]; omega
      have hbeg : nI (x * 10 ^ (d + 1)) + nI (c' - 48) * nI (10 ^ d) = nI ((x * 10 + (c' - 48)) * 10 ^ d) := by
        rw [pk_mul, nI_add, Nat.add_mul, e10, Nat.mul_comm (10 ^ d) 10, Nat.mul_assoc]
      have hnum : nI x * 10 + nI (c' - 48) = nI (x * 10 + (c' - 48)) := by
        rw [show (10 : Int32) = nI 10 from rfl, pk_mul, nI_add]
      rw [hbeg, hnum, nI_1, nI_1]
      by_cases c3 : hi < nI ((x * 10 + (c' - 48)) * 10 ^ d)
      · rw [if_pos c3, if_pos c3]
        exact Or.inr ⟨S + i, by omega, rfl, rfl⟩
      rw [if_neg c3, if_neg c3]
      by_cases c4 : lo ≤ nI ((x * 10 + (c' - 48)) * 10 ^ d) + nI (10 ^ d) - 1
      · rw [if_pos c4, if_pos c4]
        rcases m_fig_L (lo := lo) (hi := hi) hN hS hm hp ht d (i + 1) (x * 10 + (c' - 48)) fuel (by omega) hx' (by omega) with ⟨a1, a2, a3, a4⟩ | h
        · refine Or.inl ⟨a1, a2, a3, fun _ => ?_⟩
          by_cases hd : 0 < d
          · exact a4 hd
          · have hd0 : d = 0 := by omega
            subst hd0
            have e : f_X4_numberAt_L5 (nI N) tf (nI S) (nI m) (0 + 1) (nI (x * 10 + (c' - 48))) (nI (i + 1)) = nI (x * 10 + (c' - 48)) := by
              rw [f_X4_numberAt_L5_s, if_pos (nI_le (by omega) (by omega))]
            rw [e]
            rw [Nat.pow_zero, Nat.mul_one] at c3 c4
            have e2 : nI (x * 10 + (c' - 48)) + nI 1 - 1 = nI (x * 10 + (c' - 48)) := by
              rw [nI_add]; exact pk_sub (a := x * 10 + (c' - 48) + 1) (b := 1) (by omega)
            rw [e2] at c4
            exact ⟨by omega, c3, c4⟩
        · exact Or.inr h
      · rw [if_neg c4, if_neg c4]
        exact Or.inr ⟨S + i, by omega, rfl, rfl⟩
theorem m_fig {N S m : Nat} {tf : Nat → Int32} {rf ac ou p0 lo hi : Int32} (hN : N ≤ 120) (hS : S < 900) (hm : m = 1 ∨ m = 2 ∨ m = 3) (hp : ¬ p0 = -1) (ht : ∀ j, ∃ c, c < 256 ∧ tf j = nI c) :
    (f_X4_errorInNumber (nI N) tf (nI S) (nI m) lo hi = -1 ∧ f_X6_figures rf (nI N) ac (nI S) ou tf p0 (nI m) lo hi = (f_X4_numberAt (nI N) tf (nI S) (nI m), nI (S + m)) ∧ (∃ y, f_X4_numberAt (nI N) tf (nI S) (nI m) = nI y ∧ y < 10 ^ m) ∧ S + m ≤ N ∧ ¬ hi < f_X4_numberAt (nI N) tf (nI S) (nI m) ∧ lo ≤ f_X4_numberAt (nI N) tf (nI S) (nI m)) ∨
    (∃ e, e < 1000 ∧ f_X4_errorInNumber (nI N) tf (nI S) (nI m) lo hi = nI e ∧ f_X6_figures rf (nI N) ac (nI S) ou tf p0 (nI m) lo hi = (-1, nI e)) := by
  have f1 : (((nI 1).toInt - (0 : Int32).toInt).toNat + 1) = 1 + 1 := by decide
  have f2 : (((nI 2).toInt - (0 : Int32).toInt).toNat + 1) = 2 + 1 := by decide
  have f3 : (((nI 3).toInt - (0 : Int32).toInt).toNat + 1) = 3 + 1 := by decide
  have n13 : ¬ nI 1 = 3 := by decide
  have n12 : ¬ nI 1 = 2 := by decide
  have n23 : ¬ nI 2 = 3 := by decide
  have y22 : nI 2 = 2 := rfl
  have y33 : nI 3 = 3 := rfl
  have hE : f_X4_errorInNumber (nI N) tf (nI S) (nI m) lo hi = f_X4_errorInNumber_L31 (nI N) tf (nI S) (nI m) lo hi (m + 1) (nI (0 * 10 ^ m)) (nI (10 ^ m)) (nI 0) := by
    unfold f_X4_errorInNumber
    rcases hm with rfl | rfl | rfl
    · rw [if_neg n13, if_neg n12, f1]; rfl
    · rw [if_neg n23, if_pos y22, f2]; rfl
    · rw [if_pos y33, f3]; rfl
  have hF : ∃ fuel, m < fuel ∧ f_X6_figures rf (nI N) ac (nI S) ou tf p0 (nI m) lo hi = f_X6_figures_L26 (nI N) tf p0 lo hi fuel (nI (0 * 10 ^ m)) (nI (10 ^ m / 10)) (nI (S + 0)) := by
    unfold f_X6_figures
    rcases hm with rfl | rfl | rfl
    · rw [if_neg n13, if_neg n12]; exact ⟨_, show 1 < ((1 : Int32).toInt.toNat + 1) by decide, rfl⟩
    · rw [if_neg n23, if_pos y22]; exact ⟨_, show 2 < ((10 : Int32).toInt.toNat + 1) by decide, rfl⟩
    · rw [if_pos y33]; exact ⟨_, show 3 < ((100 : Int32).toInt.toNat + 1) by decide, rfl⟩
  have hA : f_X4_numberAt (nI N) tf (nI S) (nI m) = f_X4_numberAt_L5 (nI N) tf (nI S) (nI m) (m + 1) (nI 0) (nI 0) := by
    unfold f_X4_numberAt
    rcases hm with rfl | rfl | rfl
    · rw [f1]; rfl
    · rw [f2]; rfl
    · rw [f3]; rfl
  obtain ⟨fuel, hf, hF⟩ := hF
  rw [hE, hF, hA]
  rcases m_fig_L (m := m) (lo := lo) (hi := hi) hN hS (by omega) hp ht m 0 0 fuel (by omega) (by decide) hf with ⟨a1, a2, a3, a4⟩ | h
  · exact Or.inl ⟨a1, a2, a3, a4 (by omega)⟩
  · exact Or.inr h
/-- behind a number that is wrong nothing is read -/
theorem m_fig0 {N S m : Nat} {tf : Nat → Int32} {rf ac ou lo hi : Int32} : f_X6_figures rf (nI N) ac (nI S) ou tf (-1) (nI m) lo hi = (-1, nI S) := by
  have hs : ∀ (n : Nat) (x5 x6 : Int32), f_X6_figures_L26 (nI N) tf (-1) lo hi (n + 1) x5 x6 (nI S) = (-1, nI S) := by
    intro n x5 x6
    rw [f_X6_figures_L26_s]
    by_cases c : x6 ≤ 0
    · rw [if_pos c, if_pos rfl]
    · rw [if_neg c, if_pos rfl, if_pos rfl]
  unfold f_X6_figures
  by_cases c3 : nI m = 3
  · rw [if_pos c3]; exact hs _ _ _
  · rw [if_neg c3]
    by_cases c2 : nI m = 2
    · rw [if_pos c2]; exact hs _ _ _
    · rw [if_neg c2]; exact hs _ _ _
/-- what the class does at a command -/
def tellAct (N : Nat) (tf : Nat → Int32) (S : Nat) (r : gR) : Int32 × gR :=
  if tf S = 104 then f_X3_doHammer r (f_X4_numberAt (nI N) tf (nI (S + 1)) (nI 2)) (f_X4_numberAt (nI N) tf (nI (S + 3)) (nI 2))
  else if tf S = 119 then f_X3_doWrite r (f_X4_numberAt (nI N) tf (nI (S + 1)) (nI 2)) (f_X4_numberAt (nI N) tf (nI (S + 3)) (nI 3))
  else f_X3_doAll r (f_X4_numberAt (nI N) tf (nI (S + 1)) (nI 1))
def cmdLen (tf : Nat → Int32) (S : Nat) : Nat := if tf S = 104 then 5 else if tf S = 119 then 6 else 2
theorem m_len {N S : Nat} {tf : Nat → Int32} (hN : N ≤ 120) (hS : S < N) : f_X4_commandLength (nI N) tf (nI S) = nI (cmdLen tf S) := by
  unfold f_X4_commandLength cmdLen
  rw [m_sign hN (by omega), if_neg (show ¬ N ≤ S by omega)]
  show (if tf S = 104 then (5 : Int32) else if tf S = 119 then 6 else 2) = _
  by_cases c : tf S = 104
  · rw [if_pos c, if_pos c]; rfl
  · rw [if_neg c, if_neg c]
    by_cases d : tf S = 119
    · rw [if_pos d, if_pos d]; rfl
    · rw [if_neg d, if_neg d]; rfl
theorem m_tell_A {N S : Nat} {tf : Nat → Int32} {r : gR} (h : InvA r) : InvA (tellAct N tf S r).2 := by
  unfold tellAct
  refine gIf_i (P := fun z : Int32 × gR => InvA z.2) (fun _ => m_doH_A h) (fun _ => ?_)
  exact gIf_i (P := fun z : Int32 × gR => InvA z.2) (fun _ => m_doW_A h) (fun _ => m_doA_A h)
theorem m_b1 {v : Int32} (h0 : 1 ≤ v) (h1 : ¬ 99 < v) : ¬ f_X5_isHammered v = 0 := by
  have a1 := i_le.mp h0
  have b1 := i_le.mp (Int32.not_lt.mp h1)
  have e1 : (1 : Int32).toInt = 1 := by decide
  have e99 : (99 : Int32).toInt = 99 := by decide
  have e500 : (500 : Int32).toInt = 500 := by decide
  unfold f_X5_isHammered
  rw [if_neg (by rw [i_lt]; omega), if_neg (by rw [i_lt]; omega)]
  decide
theorem m_b2 {v : Int32} (h0 : 1 ≤ v) (h1 : ¬ 9 < v) : ¬ f_X5_isRounds v = 0 := by
  have a1 := i_le.mp h0
  have b1 := i_le.mp (Int32.not_lt.mp h1)
  have e1 : (1 : Int32).toInt = 1 := by decide
  have e9 : (9 : Int32).toInt = 9 := by decide
  have e50 : (50 : Int32).toInt = 50 := by decide
  unfold f_X5_isRounds
  rw [if_neg (by rw [i_lt]; omega), if_neg (by rw [i_lt]; omega)]
  decide
