/-! THE TWO SIDES AGREE: scripts, simulations, the best step -/
theorem m_1p6 : (1000000 : Int64) = lN 1000000 := rfl
theorem m_wo_L : ∀ (d i s : Nat), s < 2 ^ 63 → i + d < 100 → f_X5_withoutLastCommands_L5 (nI (i + d)) (d + 1) (lN s) (nI i) = lN (s / 1000000 ^ d)
  | 0, i, s, hs, h => by
    rw [f_X5_withoutLastCommands_L5_s, if_pos (nI_le (by omega) (by omega)), Nat.pow_zero, Nat.div_one]
  | d + 1, i, s, hs, h => by
    rw [f_X5_withoutLastCommands_L5_s, if_neg (nI_ge (by omega) (by omega)), m_1p6, pk_lDiv hs (by omega) (by omega), nI_1, show i + (d + 1) = (i + 1) + d by omega]
    rw [m_wo_L d (i + 1) (s / 1000000) (by have := Nat.div_le_self s 1000000; omega) (by omega), Nat.div_div_eq_div_mul, Nat.pow_succ, Nat.mul_comm]
theorem m_wo {k s : Nat} (hs : s < 2 ^ 63) (hk : k < 100) : f_X5_withoutLastCommands (lN s) (nI k) = lN (s / 1000000 ^ k) := by
  unfold f_X5_withoutLastCommands
  rw [nI_toInt (by omega), i_z, show ((k : Int) - 0).toNat + 1 = k + 1 by omega]
  have e := m_wo_L k 0 s hs (by omega)
  rw [Nat.zero_add] at e
  exact e
theorem m_run_s {sz ac sp ou : Int32} {tx : Nat → Int32} {nw r : gR} {dy kp ik : Nat → Int32} {rf : Int32} {s m d k g : Nat} (hs : s < 2 ^ 63) (hm : m ≤ 3) (h : k + (d + 1) = m) (hr : InvA r) (eg : s / 1000000 ^ d % 1000000 = g) : f_X6_runScript_L86 sz ac sp ou tx nw dy kp ik (nI m) (lN s) (d + 1 + 1) (lN (1000000 ^ (d + 1))) (nI k) rf r = if (f_X1_succeeds r (nI g)).1 = 0 then (nI k, rf, sz, ac, sp, ou, tx, nw, (f_X1_succeeds r (nI g)).2, dy, kp, ik) else f_X6_runScript_L86 sz ac sp ou tx nw dy kp ik (nI m) (lN s) (d + 1) (lN (1000000 ^ d)) (nI (k + 1)) rf (f_X1_succeeds r (nI g)).2 := by
  have hp : 1000000 ^ (d + 1) / 1000000 = 1000000 ^ d := by rw [Nat.pow_succ]; exact Nat.mul_div_cancel _ (by omega)
  have hd : d = 0 ∨ d = 1 ∨ d = 2 := by omega
  have hpl : 0 < 1000000 ^ (d + 1) ∧ 1000000 ^ (d + 1) < 2 ^ 63 ∧ 0 < 1000000 ^ d ∧ 1000000 ^ d < 2 ^ 63 := by
    rcases hd with rfl | rfl | rfl <;> decide
  have e2 : lN (1000000 ^ (d + 1)) / 1000000 = lN (1000000 ^ d) := by
    rw [m_1p6, pk_lDiv hpl.2.1 (by omega) (by omega), hp]
  have e3 : lN s / lN (1000000 ^ d) = lN (s / 1000000 ^ d) := pk_lDiv hs hpl.2.2.1 hpl.2.2.2
  have hq : s / 1000000 ^ d < 2 ^ 63 := Nat.lt_of_le_of_lt (Nat.div_le_self _ _) hs
  have e4 : lN (s / 1000000 ^ d) - lN (s / 1000000 ^ d) / 1000000 * 1000000 = lN (s / 1000000 ^ d % 1000000) := by
    rw [m_1p6, pk_lRem hq (by omega) (by omega)]
  have hg := Nat.mod_lt (s / 1000000 ^ d) (show 0 < 1000000 by omega)
  rw [eg] at hg
  have e5 : nI g / 100000 = nI (g / 100000) := pk_div (d := 100000) (by omega) (by omega) (by omega)
  have e6 : nI g - nI (g / 100000) * 100000 = nI (g % 100000) := by
    rw [← e5, show (100000 : Int32) = nI 100000 from rfl, pk_rem (by omega) (by omega) (by omega)]
  rw [f_X6_runScript_L86_s, if_neg (nI_ge (by omega) (by omega)), e2, e3, e4, eg]
  rw [gLet_e (b := lN g) rfl, gLet_e (lN_i g), e5, e6, gLet_e (b := nI (g % 100000)) rfl, gLet_e (m_command (rf := rf) (sz := sz) (ac := ac) (sp := sp) (ou := ou) hr hg).symm, nI_1]
theorem m_run_c {nw r : gR} {s m d k g : Nat} (hs : s < 2 ^ 63) (hm : m ≤ 3) (h : k + (d + 1) = m) (eg : s / 1000000 ^ d % 1000000 = g) : f_X5_runScript_L60 (nI m) (lN s) (d + 1 + 1) (nI k) r = if (f_X1_succeeds r (nI g)).1 = 0 then (0, nI k, (f_X1_succeeds r (nI g)).2) else f_X5_runScript_L60 (nI m) (lN s) (d + 1) (nI (k + 1)) (f_X1_succeeds r (nI g)).2 := by
  have e1 : nI m - 1 - nI k = nI d := by
    have := pk_sub (a := m) (b := 1) (by omega)
    have e : nI m - 1 = nI (m - 1) := this
    rw [e, pk_sub (by omega)]
    congr 1
    omega
  have hq : s / 1000000 ^ d < 2 ^ 63 := Nat.lt_of_le_of_lt (Nat.div_le_self _ _) hs
  have e4 : lN (s / 1000000 ^ d) - lN (s / 1000000 ^ d) / 1000000 * 1000000 = lN (s / 1000000 ^ d % 1000000) := by
    rw [m_1p6, pk_lRem hq (by omega) (by omega)]
  rw [f_X5_runScript_L60_s, if_neg (nI_ge (by omega) (by omega)), e1, gLet_e (m_wo hs (by omega)), e4, eg, gLet_e (b := lN g) rfl, gLet_e (lN_i g), gLet_e (b := f_X1_succeeds r (nI g)) rfl, nI_1]
def runP (sz ac sp ou : Int32) (tx : Nat → Int32) (nw : gR) (dy kp ik : Nat → Int32) (rf : Int32) (X : Int32 × Int32 × Int32 × Int32 × Int32 × Int32 × (Nat → Int32) × gR × gR × (Nat → Int32) × (Nat → Int32) × (Nat → Int32)) (Y : Nat × Int32 × gR) : Prop := X = (Y.2.1, rf, sz, ac, sp, ou, tx, nw, Y.2.2, dy, kp, ik) ∧ Y.1 = 0 ∧ InvA Y.2.2
theorem m_run_L {sz ac sp ou : Int32} {tx : Nat → Int32} {nw : gR} {dy kp ik : Nat → Int32} {rf : Int32} {s m : Nat} (hs : s < 2 ^ 63) (hm : m ≤ 3) : ∀ (d k : Nat) (r : gR), k + d = m → InvA r → runP sz ac sp ou tx nw dy kp ik rf (f_X6_runScript_L86 sz ac sp ou tx nw dy kp ik (nI m) (lN s) (d + 1) (lN (1000000 ^ d)) (nI k) rf r) (f_X5_runScript_L60 (nI m) (lN s) (d + 1) (nI k) r)
  | 0, k, r, h, hr => by
    rw [f_X6_runScript_L86_s, f_X5_runScript_L60_s, if_pos (nI_le (by omega) (by omega)), if_pos (nI_le (by omega) (by omega))]
    exact ⟨rfl, rfl, hr⟩
  | d + 1, k, r, h, hr => by
    rw [m_run_s hs hm h hr rfl, m_run_c (nw := nw) hs hm h rfl]
    have hA := m_cmd_A (c := nI (s / 1000000 ^ d % 1000000)) hr
    generalize f_X1_succeeds r (nI (s / 1000000 ^ d % 1000000)) = q at hA
    by_cases c : q.1 = 0
    · rw [if_pos c, if_pos c]
      exact ⟨rfl, rfl, hA⟩
    · rw [if_neg c, if_neg c]
      exact m_run_L hs hm d (k + 1) q.2 (by omega) hA
