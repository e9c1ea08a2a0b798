/-! HAMMERINGS: how often, what they leave, how the gap moves -/
def wr (r : gR) (l : Int32) : gR := (f_X3_writeLine r l (f_X3_valueOf r l)).2
def hmF (l : Int32) : Nat → gR → Nat × gR
  | 0, r => (0, r)
  | n + 1, r => if r 8 = 0 then ((hmF l n (wr r l)).1 + 1, (hmF l n (wr r l)).2) else (0, r)
theorem hmF_a {l : Int32} {n : Nat} {r : gR} (h : r 8 = 0) : hmF l (n + 1) r = ((hmF l n (wr r l)).1 + 1, (hmF l n (wr r l)).2) := by
  show (if r 8 = 0 then _ else _) = _
  rw [if_pos h]
theorem hmF_d {l : Int32} {n : Nat} {r : gR} (h : ¬ r 8 = 0) : hmF l (n + 1) r = (0, r) := by
  show (if r 8 = 0 then _ else _) = _
  rw [if_neg h]
theorem m_hm_L {l : Int32} : ∀ (d i : Nat) (r : gR), i + d < 100000 → f_X3_hammerLine_L2 l (nI (i + d)) (d + 1) (nI i) r = (nI (i + (hmF l d r).1), (hmF l d r).2)
  | 0, i, r, h => by
    rw [f_X3_hammerLine_L2_s, if_pos (show nI (i + 0) ≤ nI i from Int32.le_refl _)]
    rfl
  | d + 1, i, r, h => by
    rw [f_X3_hammerLine_L2_s, if_neg (nI_ge (by omega) (by omega))]
    by_cases c : r 8 = 0
    · rw [if_pos c, hmF_a c]
      have ih := m_hm_L (l := l) d (i + 1) (wr r l) (by omega)
      rw [show i + 1 + d = i + (d + 1) by omega] at ih
      show f_X3_hammerLine_L2 l (nI (i + (d + 1))) (d + 1) (nI i + 1) (wr r l) = _
      rw [nI_1, ih, show i + 1 + (hmF l d (wr r l)).1 = i + ((hmF l d (wr r l)).1 + 1) by omega]
    · rw [if_neg c, hmF_d c]
      rfl
theorem m_hm {r : gR} {l : Int32} {m : Nat} (hm : m < 100000) : f_X3_hammerLine r l (nI m) = (nI (hmF l m r).1, (hmF l m r).2) := by
  have h := m_hm_L (l := l) m 0 r (by omega)
  have hf : ((nI m).toInt - (0 : Int32).toInt).toNat + 1 = m + 1 := by rw [i_z, nI_toInt (by omega)]; omega
  rw [Nat.zero_add] at h
  unfold f_X3_hammerLine
  rw [hf]
  rw [Nat.zero_add] at h
  exact h
theorem hmF_le {l : Int32} : ∀ (n : Nat) (r : gR), (hmF l n r).1 ≤ n
  | 0, _ => Nat.le_refl _
  | n + 1, r => by
    by_cases c : r 8 = 0
    · rw [hmF_a c]; have := hmF_le (l := l) n (wr r l); show _ + 1 ≤ _; omega
    · rw [hmF_d c]; exact Nat.zero_le _
theorem hmF_min {l : Int32} : ∀ (n M : Nat) (r : gR), n ≤ M → (hmF l n r).1 = if n < (hmF l M r).1 then n else (hmF l M r).1
  | 0, M, r, _ => by
    show (0 : Nat) = _
    split <;> omega
  | n + 1, 0, r, h => absurd h (by omega)
  | n + 1, M + 1, r, h => by
    by_cases c : r 8 = 0
    · rw [hmF_a c, hmF_a c]
      have := hmF_min (l := l) n M (wr r l) (by omega)
      show (hmF l n (wr r l)).1 + 1 = if n + 1 < (hmF l M (wr r l)).1 + 1 then n + 1 else (hmF l M (wr r l)).1 + 1
      rw [this]
      by_cases d : n < (hmF l M (wr r l)).1
      · rw [if_pos d, if_pos (by omega)]
      · rw [if_neg d, if_neg (by omega)]
    · rw [hmF_d c, hmF_d c]
      show (0 : Nat) = if n + 1 < 0 then n + 1 else 0
      rw [if_neg (by omega)]
theorem hmF_dead {l : Int32} : ∀ (n M : Nat) (r : gR), n < M → (¬ (hmF l n r).2 8 = 0 ↔ (hmF l M r).1 ≤ n)
  | n, 0, _, h => absurd h (by omega)
  | 0, M + 1, r, _ => by
    show ¬ r 8 = 0 ↔ _
    by_cases c : r 8 = 0
    · rw [hmF_a c]; exact ⟨fun q => absurd c q, fun q => absurd q (by show ¬ _ + 1 ≤ 0; omega)⟩
    · rw [hmF_d c]; exact ⟨fun _ => Nat.zero_le _, fun _ => c⟩
  | n + 1, M + 1, r, h => by
    by_cases c : r 8 = 0
    · rw [hmF_a c, hmF_a c]
      have := hmF_dead (l := l) n M (wr r l) (by omega)
      show ¬ (hmF l n (wr r l)).2 8 = 0 ↔ (hmF l M (wr r l)).1 + 1 ≤ n + 1
      rw [this]
      omega
    · rw [hmF_d c, hmF_d c]
      exact ⟨fun _ => Nat.zero_le _, fun _ => c⟩
theorem hmF_0 {l : Int32} {M : Nat} {r : gR} : (hmF l (M + 1) r).1 = 0 ↔ ¬ r 8 = 0 := by
  by_cases c : r 8 = 0
  · rw [hmF_a c]; exact ⟨fun q => absurd q (by show ¬ _ + 1 = 0; omega), fun q => absurd c q⟩
  · rw [hmF_d c]; exact ⟨fun _ => c, fun _ => rfl⟩
theorem wr_inv {r : gR} {l : Int32} (hi : Inv r) : Inv (wr r l) := m_write_inv hi
theorem wr_ok {r : gR} {l k : Int32} (h : okL r k) : okL (wr r l) k := okL_write h
theorem hmF_inv {l : Int32} : ∀ (n : Nat) (r : gR), Inv r → Inv (hmF l n r).2
  | 0, _, h => h
  | n + 1, r, h => by
    by_cases c : r 8 = 0
    · rw [hmF_a c]; exact hmF_inv n (wr r l) (wr_inv h)
    · rw [hmF_d c]; exact h
theorem hmF_ok {l k : Int32} : ∀ (n : Nat) (r : gR), okL r k → okL (hmF l n r).2 k
  | 0, _, h => h
  | n + 1, r, h => by
    by_cases c : r 8 = 0
    · rw [hmF_a c]; exact hmF_ok n (wr r l) (wr_ok h)
    · rw [hmF_d c]; exact h
theorem hmF_5 {l : Int32} : ∀ (n : Nat) (r : gR), Inv r → okL r l → (hmF l n r).2 5 = r 5 + nI (hmF l n r).1
  | 0, r, _, _ => by show r 5 = r 5 + nI 0; rw [nI_0, Int32.add_zero]
  | n + 1, r, hi, hl => by
    by_cases c : r 8 = 0
    · rw [hmF_a c]
      show (hmF l n (wr r l)).2 5 = r 5 + nI ((hmF l n (wr r l)).1 + 1)
      rw [hmF_5 n (wr r l) (wr_inv hi) (wr_ok hl), show wr r l 5 = r 5 + 1 from m_write_5 hi hl, nI_succ, Int32.add_assoc, Int32.add_comm 1]
    · rw [hmF_d c]; show r 5 = r 5 + nI 0; rw [nI_0, Int32.add_zero]
theorem hmF_v {l : Int32} {j : Nat} (hj : j < 32) : ∀ (n : Nat) (r : gR), Inv r → okL r l → (hmF l n r).2 (13 + j) = r (13 + j)
  | 0, r, _, _ => rfl
  | n + 1, r, hi, hl => by
    by_cases c : r 8 = 0
    · rw [hmF_a c]
      show (hmF l n (wr r l)).2 (13 + j) = _
      rw [hmF_v hj n (wr r l) (wr_inv hi) (wr_ok hl)]
      refine (m_write_v hi hl hj).trans ?_
      rw [m_valueV hl]
      by_cases e : 13 + j = 13 + l.toNatClampNeg
      · rw [e, upd_eq]
      · rw [upd_ne e]
    · rw [hmF_d c]
/-- the gap has moved k times since -/
def MV (r r' : gR) (k : Nat) : Prop := r' 0 = r 0 ∧ r' 1 = r 1 ∧ r' 2 = nI (pbS r k) ∧ r' 3 = nI (pbG r k) ∧ r' 6 = r 6 + nI k
theorem mv_0 {r : gR} (h : Gd r) : MV r r 0 := by
  obtain ⟨e0, e1, e2, e3, b0, b1, b2, b3, b4, b5⟩ := m_num h
  obtain ⟨s0, s1⟩ := pb_at0 (r := r) (m := 0) b4 (by omega)
  refine ⟨rfl, rfl, by rw [s0]; exact e2, ?_, by rw [nI_0, Int32.add_zero]⟩
  rw [s1, show nN (r 0) - (nN (r 0) - nN (r 3) + 0) = nN (r 3) by omega]
  exact e3
theorem m_move_23 {r : gR} (hi : Inv r) (h : ¬ r 0 = 0) : (r 3 ≤ 0 → f_X3_moveGap r 3 = r 0 ∧ f_X3_moveGap r 2 = if r 0 ≤ r 2 + 1 then 0 else r 2 + 1) ∧ (¬ r 3 ≤ 0 → f_X3_moveGap r 3 = r 3 - 1 ∧ f_X3_moveGap r 2 = r 2) := by
  obtain ⟨l0, l1, l2, l3, l4, l5, l6⟩ := hi.pos h
  have e0 : f_X3_layAt r (r 3) 0 = r 0 := m_lay_k l5 (by omega)
  have e2 : f_X3_layAt r (r 3) 2 = r 2 := m_lay_k l5 (by omega)
  have e3 : f_X3_layAt r (r 3) 3 = r 3 := m_lay_k l5 (by omega)
  unfold f_X3_moveGap
  simp only [gLet]
  generalize f_X3_layAt r (r 3) = u at e0 e2 e3
  rw [e0, e2, e3]
  constructor
  · intro c
    rw [if_pos c]
    by_cases d : r 0 ≤ r 2 + 1
    · rw [if_pos d, if_pos d]
      exact ⟨by rw [upd_ne (by omega), upd_ne (by omega), upd_ne (by omega), upd_eq], by rw [upd_ne (by omega), upd_ne (by omega), upd_eq]⟩
    · rw [if_neg d, if_neg d]
      exact ⟨by rw [upd_ne (by omega), upd_ne (by omega), upd_ne (by omega), upd_eq], by rw [upd_ne (by omega), upd_ne (by omega), upd_eq]⟩
  · intro c
    rw [if_neg c]
    exact ⟨by rw [upd_ne (by omega), upd_ne (by omega), upd_eq], by rw [upd_ne (by omega), upd_ne (by omega), upd_ne (by omega), e2]⟩
theorem mv_move {r r' : gR} {k : Nat} (hr : Gd r) (hi : Inv r') (h : ¬ r' 0 = 0) (hm : MV r r' k) : MV r (f_X3_moveGap r') (k + 1) := by
  obtain ⟨m0, m1, m2, m3, m6⟩ := hm
  obtain ⟨l0, l1, l2, l3, l4, l5, l6⟩ := hi.pos h
  obtain ⟨e0, e1, e2, e3, b0, b1, b2, b3, b4, b5⟩ := m_num hr
  obtain ⟨q1, q2⟩ := pb_step (n := nN (r 0)) (t := nN (r 0) - nN (r 3) + k) (by omega)
  have hml := Nat.mod_lt (nN (r 0) - nN (r 3) + k) (show 0 < nN (r 0) + 1 by omega)
  have hsl : pbS r k < nN (r 0) := Nat.mod_lt _ (by omega)
  have hS : pbS r (k + 1) = if (nN (r 0) - nN (r 3) + k) % (nN (r 0) + 1) = nN (r 0) then (pbS r k + 1) % nN (r 0) else pbS r k := by
    unfold pbS
    rw [← Nat.add_assoc, q2]
    by_cases c : (nN (r 0) - nN (r 3) + k) % (nN (r 0) + 1) = nN (r 0)
    · rw [if_pos c, if_pos c, ← Nat.add_assoc, Nat.mod_add_mod]
    · rw [if_neg c, if_neg c]
  have hG : pbG r (k + 1) = if (nN (r 0) - nN (r 3) + k) % (nN (r 0) + 1) = nN (r 0) then nN (r 0) else pbG r k - 1 := by
    unfold pbG
    rw [← Nat.add_assoc, q1]
    by_cases c : (nN (r 0) - nN (r 3) + k) % (nN (r 0) + 1) = nN (r 0)
    · rw [if_pos c, if_pos c]; omega
    · rw [if_neg c, if_neg c]; omega
  have a0 : f_X3_moveGap r' 0 = r 0 := by rw [m_move_k (by omega) (by omega) (by omega) (by omega), m_lay_k l5 (by omega), m0]
  have a1 : f_X3_moveGap r' 1 = r 1 := by rw [m_move_k (by omega) (by omega) (by omega) (by omega), m_lay_k l5 (by omega), m1]
  have a6 : f_X3_moveGap r' 6 = r 6 + nI (k + 1) := by rw [m_move_6 l5, m6, nI_succ, Int32.add_assoc]
  obtain ⟨z1, z2⟩ := m_move_23 hi h
  by_cases c : (nN (r 0) - nN (r 3) + k) % (nN (r 0) + 1) = nN (r 0)
  · have hg0 : pbG r k = 0 := by unfold pbG; omega
    rw [if_pos c] at hS hG
    obtain ⟨z3, z4⟩ := z1 (by rw [m3, hg0]; decide)
    refine ⟨a0, a1, ?_, ?_, a6⟩
    · rw [z4, m0, m2, hS, nI_1]
      by_cases d : nN (r 0) ≤ pbS r k + 1
      · rw [if_pos (by rw [e0]; exact nI_le d (by omega)), show pbS r k + 1 = nN (r 0) by omega, Nat.mod_self, nI_0]
      · rw [if_neg (by rw [e0]; exact nI_ge (by omega) (by omega)), Nat.mod_eq_of_lt (by omega)]
    · rw [z3, m0, hG]; exact e0
  · have hg0 : 0 < pbG r k := by unfold pbG; omega
    have hgl : pbG r k ≤ 32 := by unfold pbG; omega
    rw [if_neg c] at hS hG
    obtain ⟨z3, z4⟩ := z2 (by rw [m3]; exact nI_nle hg0 (by omega))
    refine ⟨a0, a1, by rw [z4, m2, hS], ?_, a6⟩
    rw [z3, m3, hG]
    exact pk_sub (b := 1) (by omega)
theorem mv_wr {r r' : gR} {k : Nat} {l : Int32} (hr : Gd r) (hi : Inv r') (hl : okL r' l) (hm : MV r r' k) : ∃ k', k' ≤ k + 1 ∧ MV r (wr r' l) k' := by
  obtain ⟨m0, m1, m2, m3, m6⟩ := hm
  obtain ⟨p, p0, p1, i4, w, ew, iw, w0, hw⟩ := m_wr (v := f_X3_valueOf r' l) hi hl
  have a : ∀ j, j = 0 ∨ j = 1 ∨ j = 2 ∨ j = 3 ∨ j = 6 → w j = r' j := fun j hj => by rw [ew, upd_ne (by omega), upd_ne (by omega), m_lay_k p0 (by omega), upd_ne (by omega)]
  have mw : MV r w k := ⟨by rw [a 0 (by omega)]; exact m0, by rw [a 1 (by omega)]; exact m1, by rw [a 2 (by omega)]; exact m2, by rw [a 3 (by omega)]; exact m3, by rw [a 6 (by omega)]; exact m6⟩
  unfold wr
  rcases hw with e | e
  · rw [e]; exact ⟨k, by omega, mw⟩
  · rw [e]; exact ⟨k + 1, by omega, mv_move hr iw w0 mw⟩
theorem hmF_mv {r : gR} {l : Int32} (hr : Gd r) : ∀ (n k : Nat) (r' : gR), Inv r' → okL r' l → MV r r' k → ∃ k', k' ≤ k + n ∧ MV r (hmF l n r').2 k'
  | 0, k, r', _, _, h => ⟨k, by omega, h⟩
  | n + 1, k, r', hi, hl, h => by
    by_cases c : r' 8 = 0
    · rw [hmF_a c]
      obtain ⟨k1, h1, h2⟩ := mv_wr hr hi hl h
      obtain ⟨k2, h3, h4⟩ := hmF_mv hr n k1 (wr r' l) (wr_inv hi) (wr_ok hl) h2
      exact ⟨k2, by omega, h4⟩
    · rw [hmF_d c]; exact ⟨k, by omega, h⟩
/-- where a line lies behind the hammering: as it would lie behind that many moves -/
theorem hmF_place {r : gR} {l k : Int32} {n : Nat} (hr : Gd r) (hl : okL r l) (hk : okL r k) (hn : n < 1000) : ∃ j, j ≤ n ∧ (hmF l n r).2 6 - r 6 = nI j ∧ f_X3_placeOf (hmF l n r).2 k = f_X3_placeAfterMoves r k (nI j) := by
  obtain ⟨j, hj, m0, m1, m2, m3, m6⟩ := hmF_mv hr n 0 r hr.1 hl (mv_0 hr)
  obtain ⟨e0, e1, e2, e3, b0, b1, b2, b3, b4, b5⟩ := m_num hr
  refine ⟨j, by omega, ?_, ?_⟩
  · rw [m6, Int32.add_comm, Int32.add_sub_cancel]
  · have hml := Nat.mod_lt (nN (r 0) - nN (r 3) + j) (show 0 < nN (r 0) + 1 by omega)
    have hsl : pbS r j < nN (r 0) := Nat.mod_lt _ (by omega)
    have hgl : pbG r j ≤ 32 := by unfold pbG; omega
    rw [m_placeN (hmF_inv n r hr.1) (hmF_ok n r hk), m_after hr.1 hk (by omega), m0, m1, m2, m3, nN_nI (by omega), nN_nI (by omega)]
/-- all lines in turn: none, if the store is dead -/
theorem m_turn_j : ∀ (d i : Nat) (l : Int32) (r : gR), i + d = 4000 → ∃ j, i ≤ j ∧ j ≤ 4000 ∧ (f_X3_writeInTurn_L4 4000 (d + 1) (nI i) l r).1 = nI j
  | 0, i, l, r, h => by
    rw [f_X3_writeInTurn_L4_s, if_pos (show (4000 : Int32) ≤ nI i by rw [show i = 4000 by omega]; decide)]
    exact ⟨i, by omega, by omega, rfl⟩
  | d + 1, i, l, r, h => by
    rw [f_X3_writeInTurn_L4_s, if_neg (show ¬ (4000 : Int32) ≤ nI i from nI_ge (b := 4000) (by omega) (by omega))]
    by_cases c : r 8 = 0
    · rw [if_pos c]
      simp only [gLet]
      rw [nI_1]
      split
      · obtain ⟨j, h1, h2, h3⟩ := m_turn_j d (i + 1) 0 (f_X3_writeLine r l (f_X3_valueOf r l)).2 (by omega)
        exact ⟨j, by omega, h2, h3⟩
      · obtain ⟨j, h1, h2, h3⟩ := m_turn_j d (i + 1) (l + 1) (f_X3_writeLine r l (f_X3_valueOf r l)).2 (by omega)
        exact ⟨j, by omega, h2, h3⟩
    · rw [if_neg c]; exact ⟨i, by omega, by omega, rfl⟩
theorem m_long {r : gR} : ∃ j, j ≤ 4000 ∧ (f_X3_writeInTurn r 4000).1 = nI j ∧ (j = 0 ↔ ¬ r 8 = 0) := by
  have hf : ((4000 : Int32).toInt - (0 : Int32).toInt).toNat + 1 = 3999 + 1 + 1 := by decide
  unfold f_X3_writeInTurn
  rw [hf, f_X3_writeInTurn_L4_s, if_neg (by decide)]
  by_cases c : r 8 = 0
  · rw [if_pos c]
    simp only [gLet]
    have e1 : (0 : Int32) + 1 = nI 1 := by decide
    rw [e1]
    split
    · obtain ⟨j, h1, h2, h3⟩ := m_turn_j 3999 1 0 (f_X3_writeLine r 0 (f_X3_valueOf r 0)).2 (by omega)
      exact ⟨j, h2, h3, fun q => absurd q (by omega), fun q => absurd c q⟩
    · obtain ⟨j, h1, h2, h3⟩ := m_turn_j 3999 1 (nI 1) (f_X3_writeLine r 0 (f_X3_valueOf r 0)).2 (by omega)
      exact ⟨j, h2, h3, fun q => absurd q (by omega), fun q => absurd c q⟩
  · rw [if_neg c]; exact ⟨0, by omega, rfl, fun _ => c, fun _ => rfl⟩
/-- which setting is best -/
theorem m_we_rc {r rc rc' : gR} {l e m : Int32} : f_X5_wearIfEvery r rc l e m = f_X5_wearIfEvery r rc' l e m := rfl
def wE (r : gR) (l m : Int32) (e : Nat) : Int32 := (f_X5_wearIfEvery r r l (nI e) m).1
theorem m_best_L {r : gR} {l m : Int32} : ∀ (d b : Nat) (rc : gR), d < b → b ≤ 50 → (∀ e, d < e → e ≤ 50 → wE r l m b ≤ wE r l m e ∧ (b < e → wE r l m b < wE r l m e)) → ∃ B rc', f_X5_bestEvery_L25 r l m (d + 1) (nI b) (wE r l m b) (nI d) rc = (0, nI B, rc') ∧ 1 ≤ B ∧ B ≤ 50 ∧ ∀ e, 1 ≤ e → e ≤ 50 → wE r l m B ≤ wE r l m e ∧ (B < e → wE r l m B < wE r l m e)
  | 0, b, rc, h1, h2, h3 => by
    rw [f_X5_bestEvery_L25_s, if_pos (show nI 0 < 1 by decide)]
    exact ⟨b, rc, rfl, by omega, h2, fun e a1 a2 => h3 e (by omega) a2⟩
  | d + 1, b, rc, h1, h2, h3 => by
    have em : nI (d + 1) + (-1) = nI d := by
      rw [nI_succ, Int32.add_assoc, show (1 : Int32) + (-1) = 0 from by decide, Int32.add_zero]
    rw [f_X5_bestEvery_L25_s, if_neg (show ¬ nI (d + 1) < 1 from nI_nlt (b := 1) (by omega) (by omega))]
    simp only [gLet]
    rw [em]
    have ew : (f_X5_wearIfEvery r rc l (nI (d + 1)) m).1 = wE r l m (d + 1) := rfl
    rw [ew]
    by_cases c : wE r l m b ≤ wE r l m (d + 1)
    · rw [if_pos c]
      refine m_best_L d b _ (by omega) h2 (fun e a1 a2 => ?_)
      by_cases q : e = d + 1
      · rw [q]; exact ⟨c, fun z => absurd z (by omega)⟩
      · exact h3 e (by omega) a2
    · rw [if_neg c]
      have c1 := i_lt.mp (Int32.not_le.mp c)
      refine m_best_L d (d + 1) _ (by omega) (by omega) (fun e a1 a2 => ?_)
      by_cases q : e = d + 1
      · rw [q]; exact ⟨Int32.le_refl _, fun z => absurd z (by omega)⟩
      · have h4 := i_le.mp (h3 e (by omega) a2).1
        exact ⟨i_le.mpr (by omega), fun _ => i_lt.mpr (by omega)⟩
theorem m_best {r rc : gR} {l : Int32} {m : Nat} (hl : okL r l) (h1 : 1 ≤ m) (h2 : m ≤ 500) : ∃ B rc', f_X5_bestEvery r rc l (nI m) = (0, nI B, rc') ∧ 1 ≤ B ∧ B ≤ 50 ∧ ∀ e, 1 ≤ e → e ≤ 50 → wE r l (nI m) B ≤ wE r l (nI m) e ∧ (B < e → wE r l (nI m) B < wE r l (nI m) e) := by
  have e1 : f_X5_requireLine r l = 0 := by
    unfold f_X5_requireLine; rw [gLet_e (b := f_X3_hasLine r l) rfl, if_neg (m_has.mpr hl)]
  have e2 : f_X5_requireHammered (nI m) = 0 := by
    have : f_X5_isHammered (nI m) = 1 := by
      unfold f_X5_isHammered
      rw [if_neg (show ¬ nI m < 1 from nI_nlt (b := 1) h1 (by omega)), if_neg (show ¬ 500 < nI m from nI_nlt (a := 500) (by omega) (by omega))]
    unfold f_X5_requireHammered; rw [gLet_e this, if_neg (by decide)]
  have hf : (49 : Int32).toInt.toNat + 1 = 49 + 1 := by decide
  have e50 : f_X5_wearIfEvery r rc l 50 (nI m) = (wE r l (nI m) 50, (f_X5_wearIfEvery r r l (nI 50) (nI m)).2) := rfl
  have hb := m_best_L (r := r) (l := l) (m := nI m) 49 50 (f_X5_wearIfEvery r r l (nI 50) (nI m)).2 (by omega) (by omega) (fun e a1 a2 => by
    have : e = 50 := by omega
    rw [this]; exact ⟨Int32.le_refl _, fun z => absurd z (by omega)⟩)
  have e2' : f_X5_bestEvery r rc l (nI m) = f_X5_bestEvery_L25 r l (nI m) (49 + 1) (nI 50) (wE r l (nI m) 50) (nI 49) (f_X5_wearIfEvery r r l (nI 50) (nI m)).2 := by
    unfold f_X5_bestEvery
    rw [gLet_e e1, if_pos rfl, gLet_e e2, if_pos rfl, hf, gLet_e e50, show (50 : Int32) = nI 50 from rfl, show (49 : Int32) = nI 49 from rfl]
  rw [e2']
  exact hb
