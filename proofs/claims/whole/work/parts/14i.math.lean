/-! simulations -/
/-- a number drawn by chance is not negative -/
theorem m_rnd (x : Int64) : ∃ k : Nat, k < 2 ^ 31 ∧ ((x.toUInt64 >>> ((33 : Int32).toInt64.toUInt64 &&& Int64.toUInt64 63)).toInt64).toInt32 = nI k := by
  refine ⟨x.toUInt64.toNat / 2 ^ 33, by have := x.toUInt64.toNat_lt; omega, ?_⟩
  have e : ((33 : Int32).toInt64.toUInt64 &&& Int64.toUInt64 63) = 33 := by decide
  rw [e]
  have h1 : (x.toUInt64 >>> 33) = UInt64.ofNat (x.toUInt64.toNat / 2 ^ 33) := by
    apply UInt64.toNat_inj.mp
    rw [UInt64.toNat_shiftRight, UInt64.toNat_ofNat']
    have h33 : (33 : UInt64).toNat % 64 = 33 := by decide
    rw [h33, Nat.shiftRight_eq_div_pow]
    exact (Nat.mod_eq_of_lt (by have := x.toUInt64.toNat_lt; omega)).symm
  have h2 : ∀ n : Nat, (UInt64.ofNat n).toInt64.toInt32 = nI n := fun n => lN_i n
  rw [h1]
  exact h2 _
/-- one write by chance -/
def chS (r : gR) (q : Nat) : gR := if r 8 = 0 then (f_X3_writeLine r (if q % 4 = 0 then 0 else nI (q / 4 % nN (r 0))) (nI (q / 128 % 1000))).2 else r
def nxt (x : Int64) : Int64 := (x * 6364136223846793005) + 1442695040888963407
def rnd (x : Int64) : Int32 := ((((x * 6364136223846793005) + 1442695040888963407).toUInt64 >>> ((33 : Int32).toInt64.toUInt64 &&& Int64.toUInt64 63)).toInt64).toInt32
theorem m_okl {r : gR} {q : Nat} (h0 : ¬ r 0 = 0) (hi : Inv r) (hq : q < 2 ^ 31) : okL r (if q % 4 = 0 then 0 else nI (q / 4 % nN (r 0))) := by
  obtain ⟨l0, l1, l2, l3, l4, l5, l6⟩ := hi.pos h0
  have d0 : nN (r 0) = (r 0).toInt.toNat := rfl
  have hl5 := Nat.mod_lt (q / 4) (show 0 < nN (r 0) by omega)
  have l7 := hi.1.2.1
  by_cases c : q % 4 = 0
  · rw [if_pos c]; exact ⟨by decide, by rw [i_z]; omega⟩
  · rw [if_neg c]; exact ⟨by rw [nI_toInt (by omega)]; omega, by rw [nI_toInt (by omega)]; omega⟩
theorem m_ch_A {r : gR} {q : Nat} (h : InvA r) (h0 : ¬ r 0 = 0) : InvA (chS r q) ∧ ¬ chS r q 0 = 0 := by
  unfold chS
  by_cases c8 : r 8 = 0
  · rw [if_pos c8]
    refine ⟨m_write_A h c8 (fun _ => ?_), ?_⟩
    · have hlt : q / 128 % 1000 < 1000 := Nat.mod_lt _ (by omega)
      rw [nI_toInt (by omega)]; omega
    · rw [m_write_0]; exact h0
  · rw [if_neg c8]; exact ⟨h, h0⟩
theorem m_sim_v {r : gR} {q : Nat} (h0 : ¬ r 0 = 0) (hi : Inv r) (hq : q < 2 ^ 31) : (nI q - nI q / 4 * 4 = nI (q % 4) ∧ (nI (q % 4) = 0 ↔ q % 4 = 0)) ∧ (nI q / 4 - nI q / 4 / r 0 * r 0 = nI (q / 4 % nN (r 0))) ∧ nI q / 128 - nI q / 128 / 1000 * 1000 = nI (q / 128 % 1000) := by
  obtain ⟨l0, l1, l2, l3, l4, l5, l6⟩ := hi.pos h0
  have l7 := hi.1.2.1
  have t1 : nI q - nI q / 4 * 4 = nI (q % 4) := pk_rem (d := 4) hq (by omega) (by omega)
  have t2 : nI q / 4 = nI (q / 4) := pk_div (d := 4) hq (by omega) (by omega)
  have t3 : nI q / 128 = nI (q / 128) := pk_div (d := 128) hq (by omega) (by omega)
  have t4 : nI (q / 128) - nI (q / 128) / 1000 * 1000 = nI (q / 128 % 1000) := pk_rem (d := 1000) (by omega) (by omega) (by omega)
  have hr0 : r 0 = nI (nN (r 0)) := nI_nN (by omega)
  have d0 : nN (r 0) = (r 0).toInt.toNat := rfl
  have t5 : nI (q / 4) - nI (q / 4) / r 0 * r 0 = nI (q / 4 % nN (r 0)) := by
    have := pk_rem (a := q / 4) (d := nN (r 0)) (by omega) (by omega) (by omega)
    rw [← hr0] at this
    exact this
  have h4 := Nat.mod_lt q (show 0 < 4 by omega)
  refine ⟨⟨t1, nI_eq (b := 0) (by omega) (by omega)⟩, ?_, ?_⟩
  · rw [t2]; exact t5
  · rw [t3]; exact t4
theorem m_sim_s {sz ac sp ou : Int32} {tx : Nat → Int32} {nw r : gR} {dy kp ik : Nat → Int32} {rf : Int32} {m d k q : Nat} {x : Int64} (hm : m < 1000) (h : k + (d + 1) = m) (hr : InvA r) (h0 : ¬ r 0 = 0) (hq : q < 2 ^ 31) (eq : rnd x = nI q) : f_X6_simulate_L56 sz ac sp ou tx nw dy kp ik (nI m) (d + 1 + 1) x (nI k) rf r = f_X6_simulate_L56 sz ac sp ou tx nw dy kp ik (nI m) (d + 1) (nxt x) (nI (k + 1)) rf (chS r q) := by
  obtain ⟨⟨v1, v2⟩, v3, v4⟩ := m_sim_v h0 hr.1 hq
  have hl := m_okl h0 hr.1 hq
  unfold rnd at eq
  rw [f_X6_simulate_L56_s, if_neg (nI_ge (by omega) (by omega)), gLet_e eq, nI_1]
  unfold chS
  by_cases c8 : r 8 = 0
  · rw [if_pos c8, if_pos c8, gLet_e v1]
    by_cases c : q % 4 = 0
    · rw [if_pos c] at hl ⊢
      rw [if_pos (v2.mpr c), gLet_e v4, gLet_e (m_write hr.1 hl).symm]
      rfl
    · rw [if_neg c] at hl ⊢
      rw [if_neg (fun z => c (v2.mp z)), gLet_e v3, gLet_e v4, gLet_e (m_write hr.1 hl).symm]
      rfl
  · rw [if_neg c8, if_neg c8]
    rfl
theorem m_sim_c {r : gR} {m d k q : Nat} {x : Int64} (hm : m < 1000) (h : k + (d + 1) = m) (hr : InvA r) (h0 : ¬ r 0 = 0) (hq : q < 2 ^ 31) (eq : rnd x = nI q) : f_X3_writeByChance_L14 (nI m) (d + 1 + 1) x (nI k) r = f_X3_writeByChance_L14 (nI m) (d + 1) (nxt x) (nI (k + 1)) (chS r q) := by
  obtain ⟨⟨v1, v2⟩, v3, v4⟩ := m_sim_v h0 hr.1 hq
  unfold rnd at eq
  rw [f_X3_writeByChance_L14_s, if_neg (nI_ge (by omega) (by omega)), gLet_e eq, nI_1, gLet_e v1]
  by_cases c8 : r 8 = 0
  · have e : chS r q = (f_X3_writeLine r (if q % 4 = 0 then 0 else nI (q / 4 % nN (r 0))) (nI (q / 128 % 1000))).2 := by unfold chS; rw [if_pos c8]
    rw [e]
    by_cases c : q % 4 = 0
    · rw [if_pos c, if_pos (v2.mpr c), if_pos c8, gLet_e v4, gLet_e (b := f_X3_writeLine r 0 (nI (q / 128 % 1000))) rfl]
      rfl
    · rw [if_neg c, if_neg (fun z => c (v2.mp z)), gLet_e v3, if_pos c8, gLet_e v4, gLet_e (b := f_X3_writeLine r (nI (q / 4 % nN (r 0))) (nI (q / 128 % 1000))) rfl]
      rfl
  · have e : chS r q = r := by unfold chS; rw [if_neg c8]
    rw [e]
    by_cases c : q % 4 = 0
    · rw [if_pos (v2.mpr c), if_neg c8]
      rfl
    · rw [if_neg (fun z => c (v2.mp z)), gLet_e v3, if_neg c8]
      rfl
def simP (sz ac sp ou : Int32) (tx : Nat → Int32) (nw : gR) (dy kp ik : Nat → Int32) (rf : Int32) (X : Int32 × Int32 × Int32 × Int32 × Int32 × Int32 × (Nat → Int32) × gR × gR × (Nat → Int32) × (Nat → Int32) × (Nat → Int32)) (Y : gR) : Prop := X = (1000 * (Y 6 - nw 6) + f_X3_greatestWear Y, rf, sz, ac, sp, ou, tx, nw, Y, dy, kp, ik) ∧ InvA Y
theorem m_sim_L {sz ac sp ou : Int32} {tx : Nat → Int32} {nw : gR} {dy kp ik : Nat → Int32} {rf : Int32} {m : Nat} (hm : m < 1000) : ∀ (d k : Nat) (x : Int64) (r : gR), k + d = m → InvA r → ¬ r 0 = 0 → simP sz ac sp ou tx nw dy kp ik rf (f_X6_simulate_L56 sz ac sp ou tx nw dy kp ik (nI m) (d + 1) x (nI k) rf r) (f_X3_writeByChance_L14 (nI m) (d + 1) x (nI k) r)
  | 0, k, x, r, h, hr, h0 => by
    rw [f_X6_simulate_L56_s, f_X3_writeByChance_L14_s, if_pos (nI_le (by omega) (by omega)), if_pos (nI_le (by omega) (by omega)), gLet_e (m_greatest hr).symm]
    exact ⟨rfl, hr⟩
  | d + 1, k, x, r, h, hr, h0 => by
    obtain ⟨q, hq, eq⟩ := m_rnd ((x * 6364136223846793005) + 1442695040888963407)
    have eq : rnd x = nI q := eq
    obtain ⟨a1, a2⟩ := m_ch_A (q := q) hr h0
    rw [m_sim_s hm h hr h0 hq eq, m_sim_c hm h hr h0 hq eq]
    exact m_sim_L hm d (k + 1) _ _ (by omega) a1 a2
