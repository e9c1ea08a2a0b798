/-! THE TWO SIDES AGREE: scripts, simulations, the best step -/
theorem m_1p6 : (1000000 : Int64) = lN 1000000 := rfl
theorem m_wo_L : ∀ (d i s : Nat), s < 2 ^ 63 → i + d < 100 → f_X5_withoutLastCommands_L5 (nI (i + d)) (d + 1) (lN s) (nI i) = lN (s / 1000000 ^ d)
  | 0, i, s, hs, h => by
    show (if nI (i + 0) ≤ nI i then lN s else _) = _
    rw [if_pos (nI_le (by omega) (by omega)), Nat.pow_zero, Nat.div_one]
  | d + 1, i, s, hs, h => by
    show (if nI (i + (d + 1)) ≤ nI i then lN s else f_X5_withoutLastCommands_L5 (nI (i + (d + 1))) (d + 1) (lN s / 1000000) (nI i + 1)) = _
    rw [if_neg (nI_ge (by omega) (by omega)), m_1p6, pk_lDiv hs (by omega) (by omega), nI_1, show i + (d + 1) = (i + 1) + d by omega]
    rw [m_wo_L d (i + 1) (s / 1000000) (by have := Nat.div_le_self s 1000000; omega) (by omega), Nat.div_div_eq_div_mul, Nat.pow_succ, Nat.mul_comm]
theorem m_wo {k s : Nat} (hs : s < 2 ^ 63) (hk : k < 100) : f_X5_withoutLastCommands (lN s) (nI k) = lN (s / 1000000 ^ k) := by
  unfold f_X5_withoutLastCommands
  rw [nI_toInt (by omega), i_z, show ((k : Int) - 0).toNat + 1 = k + 1 by omega]
  have e := m_wo_L k 0 s hs (by omega)
  rw [Nat.zero_add] at e
  exact e
theorem m_run_L {sz ac sp ou : Int32} {tx : Nat → Int32} {nw : gR} {dy kp ik : Nat → Int32} {rf : Int32} {s m : Nat} (hs : s < 2 ^ 63) (hm : m ≤ 3) : ∀ (d k : Nat) (r : gR), k + d = m → InvA r → f_X6_runScript_L86 sz ac sp ou tx nw dy kp ik (nI m) (lN s) (d + 1) (lN (1000000 ^ d)) (nI k) rf r = ((f_X5_runScript_L60 (nI m) (lN s) (d + 1) (nI k) r).2.1, rf, sz, ac, sp, ou, tx, nw, (f_X5_runScript_L60 (nI m) (lN s) (d + 1) (nI k) r).2.2, dy, kp, ik) ∧ (f_X5_runScript_L60 (nI m) (lN s) (d + 1) (nI k) r).1 = 0 ∧ InvA (f_X5_runScript_L60 (nI m) (lN s) (d + 1) (nI k) r).2.2
  | 0, k, r, h, hr => by
    rw [f_X6_runScript_L86_s, f_X5_runScript_L60_s, if_pos (nI_le (by omega) (by omega)), if_pos (nI_le (by omega) (by omega))]
    exact ⟨rfl, rfl, hr⟩
  | d + 1, k, r, h, hr => by
    have hp : 1000000 ^ (d + 1) / 1000000 = 1000000 ^ d := by rw [Nat.pow_succ]; exact Nat.mul_div_cancel _ (by omega)
    have hd : d = 0 ∨ d = 1 ∨ d = 2 := by omega
    have hpl : 0 < 1000000 ^ (d + 1) ∧ 1000000 ^ (d + 1) < 2 ^ 63 ∧ 0 < 1000000 ^ d ∧ 1000000 ^ d < 2 ^ 63 := by
      rcases hd with rfl | rfl | rfl <;> decide
    rw [f_X6_runScript_L86_s, f_X5_runScript_L60_s, if_neg (nI_ge (by omega) (by omega)), if_neg (nI_ge (by omega) (by omega))]
    simp only [gLet]
    have e1 : nI m - 1 - nI k = nI d := by
      have := pk_sub (a := m) (b := 1) (by omega)
      rw [show nI 1 = 1 from rfl] at this
      rw [this, pk_sub (by omega)]
      congr 1
      omega
    have e2 : lN (1000000 ^ (d + 1)) / 1000000 = lN (1000000 ^ d) := by
      rw [m_1p6, pk_lDiv hpl.2.1 (by omega) (by omega), hp]
    have e3 : lN s / lN (1000000 ^ d) = lN (s / 1000000 ^ d) := pk_lDiv hs hpl.2.2.1 hpl.2.2.2
    have hq : s / 1000000 ^ d < 2 ^ 63 := Nat.lt_of_le_of_lt (Nat.div_le_self _ _) hs
    have e4 : lN (s / 1000000 ^ d) - lN (s / 1000000 ^ d) / 1000000 * 1000000 = lN (s / 1000000 ^ d % 1000000) := by
      rw [m_1p6, pk_lRem hq (by omega) (by omega)]
    have hg := Nat.mod_lt (s / 1000000 ^ d) (show 0 < 1000000 by omega)
    rw [e1, m_wo hs (by omega), e2, e3, e4, lN_i]
    generalize s / 1000000 ^ d % 1000000 = g at hg
    have e5 : nI g / 100000 = nI (g / 100000) := pk_div (by omega) (by omega) (by omega)
    have e6 : nI g - nI (g / 100000) * 100000 = nI (g % 100000) := by
      rw [← e5, show (100000 : Int32) = nI 100000 from rfl, pk_rem (by omega) (by omega) (by omega)]
    rw [e5, e6, ← m_command (rf := rf) (sz := sz) (ac := ac) (sp := sp) (ou := ou) hr hg, nI_1]
    have hA := m_cmd_A (c := nI g) hr
    generalize f_X1_succeeds r (nI g) = q at hA
    by_cases c : q.1 = 0
    · rw [if_pos c, if_pos c]
      exact ⟨rfl, rfl, hA⟩
    · rw [if_neg c, if_neg c]
      exact m_run_L hs hm d (k + 1) q.2 (by omega) hA
/-- a number drawn by chance is not negative -/
theorem m_rnd (x : Int64) : ∃ k : Nat, k < 2 ^ 31 ∧ ((x.toUInt64 >>> ((33 : Int32).toInt64.toUInt64 &&& Int64.toUInt64 63)).toInt64).toInt32 = nI k := by
  refine ⟨x.toUInt64.toNat / 2 ^ 33, by have := x.toUInt64.toNat_lt; omega, ?_⟩
  have e : ((33 : Int32).toInt64.toUInt64 &&& Int64.toUInt64 63) = 33 := by decide
  rw [e]
  have h1 : (x.toUInt64 >>> 33) = UInt64.ofNat (x.toUInt64.toNat / 2 ^ 33) := by
    apply UInt64.toNat_inj.mp
    rw [UInt64.toNat_shiftRight, UInt64.toNat_ofNat']
    have h33 : (33 : UInt64).toNat % 64 = 33 := by decide
    rw [h33, Nat.shiftRight_eq_div_pow]
    exact (Nat.mod_eq_of_lt (by have := x.toUInt64.toNat_lt; omega)).symm
  rw [h1]
  exact lN_i _
theorem m_sim_L {sz ac sp ou : Int32} {tx : Nat → Int32} {nw : gR} {dy kp ik : Nat → Int32} {rf : Int32} {m : Nat} (hm : m < 1000) : ∀ (d k : Nat) (x : Int64) (r : gR), k + d = m → InvA r → ¬ r 0 = 0 → f_X6_simulate_L56 sz ac sp ou tx nw dy kp ik (nI m) (d + 1) x (nI k) rf r = (1000 * ((f_X3_writeByChance_L14 (nI m) (d + 1) x (nI k) r) 6 - nw 6) + f_X3_greatestWear (f_X3_writeByChance_L14 (nI m) (d + 1) x (nI k) r), rf, sz, ac, sp, ou, tx, nw, f_X3_writeByChance_L14 (nI m) (d + 1) x (nI k) r, dy, kp, ik) ∧ InvA (f_X3_writeByChance_L14 (nI m) (d + 1) x (nI k) r)
  | 0, k, x, r, h, hr, h0 => by
    rw [f_X6_simulate_L56_s, f_X3_writeByChance_L14_s, if_pos (nI_le (by omega) (by omega)), if_pos (nI_le (by omega) (by omega)), m_greatest hr]
    exact ⟨rfl, hr⟩
  | d + 1, k, x, r, h, hr, h0 => by
    obtain ⟨l0, l1, l2, l3, l4, l5, l6⟩ := hr.1.pos h0
    have l7 := hr.1.1.2.1
    rw [f_X6_simulate_L56_s, f_X3_writeByChance_L14_s, if_neg (nI_ge (by omega) (by omega)), if_neg (nI_ge (by omega) (by omega))]
    simp only [gLet]
    obtain ⟨q, hq, eq⟩ := m_rnd (x * 6364136223846793005 + 1442695040888963407)
    rw [eq, nI_1]
    have t1 : nI q - nI q / 4 * 4 = nI (q % 4) := pk_rem (d := 4) hq (by omega) (by omega)
    have t2 : nI q / 4 = nI (q / 4) := pk_div (d := 4) hq (by omega) (by omega)
    have t3 : nI q / 128 = nI (q / 128) := pk_div (d := 128) hq (by omega) (by omega)
    have t4 : nI (q / 128) - nI (q / 128) / 1000 * 1000 = nI (q / 128 % 1000) := pk_rem (d := 1000) (by omega) (by omega) (by omega)
    have hr0 : r 0 = nI (nN (r 0)) := nI_nN (by omega)
    have d0 : nN (r 0) = (r 0).toInt.toNat := rfl
    have t5 : nI (q / 4) - nI (q / 4) / r 0 * r 0 = nI (q / 4 % nN (r 0)) := by
      have := pk_rem (a := q / 4) (d := nN (r 0)) (by omega) (by omega) (by omega)
      rw [← hr0] at this
      exact this
    have hl5 := Nat.mod_lt (q / 4) (show 0 < nN (r 0) by omega)
    rw [t1, t2, t3, t4, t5]
    have hstep : ∀ l, okL r l → r 8 = 0 → f_X6_writeOn r l (nI (q / 128 % 1000)) = f_X3_writeLine r l (nI (q / 128 % 1000)) ∧ InvA (f_X3_writeLine r l (nI (q / 128 % 1000))).2 ∧ ¬ (f_X3_writeLine r l (nI (q / 128 % 1000))).2 0 = 0 := by
      intro l hl h8
      refine ⟨(m_write hr.1 hl).symm, m_write_A hr h8 (fun _ => ?_), ?_⟩
      · rw [nI_toInt (by omega)]; omega
      · rw [m_write_0]; exact h0
    have hl0 : okL r 0 := ⟨by decide, by rw [i_z]; omega⟩
    have hlq : okL r (nI (q / 4 % nN (r 0))) := ⟨by rw [nI_toInt (by omega)]; omega, by rw [nI_toInt (by omega)]; omega⟩
    by_cases c8 : r 8 = 0
    · rw [if_pos c8]
      by_cases c : nI (q % 4) = 0
      · obtain ⟨s1, s2, s3⟩ := hstep 0 hl0 c8
        rw [if_pos c, if_pos c, if_pos c8, s1]
        exact m_sim_L hm d (k + 1) _ _ (by omega) s2 s3
      · obtain ⟨s1, s2, s3⟩ := hstep _ hlq c8
        rw [if_neg c, if_neg c, if_pos c8, s1]
        exact m_sim_L hm d (k + 1) _ _ (by omega) s2 s3
    · rw [if_neg c8]
      by_cases c : nI (q % 4) = 0
      · rw [if_pos c, if_neg c8]
        exact m_sim_L hm d (k + 1) _ _ (by omega) hr h0
      · rw [if_neg c, if_neg c8]
        exact m_sim_L hm d (k + 1) _ _ (by omega) hr h0
theorem m_worst {rf sz ac sp ou : Int32} {r t rc : gR} {l e m : Int32} (h : InvA r) (hl : okL r l) (ht : Tl t) : f_X6_worst rf sz ac sp ou r t l e m = f_X5_wearIfEvery r rc l e m ∧ InvA (f_X5_wearIfEvery r rc l e m).2 := by
  have h12 : InvA (upd r 12 e) := ⟨h.1.upd (by omega), h.2.1.upd0 (by omega), h.2.2.upd (Or.inr rfl)⟩
  have hl12 : okL (upd r 12 e) l := by unfold okL; rw [upd_ne (by omega)]; exact hl
  have hA := m_hammerA (l := l) (m := m) h12
  unfold f_X6_worst f_X5_wearIfEvery
  simp only [gLet]
  rw [m_copy0 h.tl ht, ← m_hammer h12 hl12, m_greatest hA]
  exact ⟨rfl, hA⟩
theorem m_best_L {sz ac sp ou : Int32} {tx : Nat → Int32} {nw : gR} {dy kp ik : Nat → Int32} {rf l m : Int32} (h : InvA nw) (hl : okL nw l) : ∀ (d : Nat) (x3 x4 : Int32) (t : gR), d < 1000 → Tl t → f_X6_bestEvery_L58 sz ac sp ou tx nw dy kp ik l m (d + 1) x3 x4 (nI d) rf t = ((f_X5_bestEvery_L25 nw l m (d + 1) x3 x4 (nI d) t).2.1, rf, sz, ac, sp, ou, tx, nw, (f_X5_bestEvery_L25 nw l m (d + 1) x3 x4 (nI d) t).2.2, dy, kp, ik) ∧ (f_X5_bestEvery_L25 nw l m (d + 1) x3 x4 (nI d) t).1 = 0 ∧ Tl (f_X5_bestEvery_L25 nw l m (d + 1) x3 x4 (nI d) t).2.2
  | 0, x3, x4, t, hd, ht => by
    rw [f_X6_bestEvery_L58_s, f_X5_bestEvery_L25_s, if_pos (show nI 0 ≤ 0 by decide), if_pos (show nI 0 < 1 by decide)]
    exact ⟨rfl, rfl, ht⟩
  | d + 1, x3, x4, t, hd, ht => by
    rw [f_X6_bestEvery_L58_s, f_X5_bestEvery_L25_s, if_neg (nI_nle (by omega) (by omega)), if_neg (show ¬ nI (d + 1) < 1 from nI_nlt (b := 1) (by omega) (by omega))]
    simp only [gLet]
    obtain ⟨e1, e2⟩ := m_worst (rf := rf) (sz := sz) (ac := ac) (sp := sp) (ou := ou) (rc := t) (e := nI (d + 1)) (m := m) h hl ht
    rw [e1, pk_m1]
    generalize f_X5_wearIfEvery nw t l (nI (d + 1)) m = q at e2
    by_cases c : x4 ≤ q.1
    · rw [if_pos c, if_pos c, if_pos c]
      exact m_best_L h hl d _ _ _ (by omega) e2.tl
    · rw [if_neg c, if_neg c, if_neg c]
      exact m_best_L h hl d _ _ _ (by omega) e2.tl
