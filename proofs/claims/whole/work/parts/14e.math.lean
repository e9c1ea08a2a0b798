/-! THE TWO SIDES AGREE: ranges, keys, places, moves -/
theorem m_in (p a b : Int32) : f_X6_in p.toInt64 a.toInt64 b.toInt64 = if p < a then 0 else if b < p then 0 else 1 := by
  have h := in_iff p.toInt64 a.toInt64 b.toInt64
  rw [Int32.toInt_toInt64, Int32.toInt_toInt64, Int32.toInt_toInt64] at h
  by_cases c : p < a
  · rw [if_pos c]
    have c1 := i_lt.mp c
    exact Classical.byContradiction fun q => by have := h.mp q; omega
  · rw [if_neg c]
    have c1 := i_le.mp (Int32.not_lt.mp c)
    by_cases d : b < p
    · rw [if_pos d]
      have d1 := i_lt.mp d
      exact Classical.byContradiction fun q => by have := h.mp q; omega
    · rw [if_neg d]
      have d1 := i_le.mp (Int32.not_lt.mp d)
      have hq := h.mpr ⟨c1, d1⟩
      unfold f_X6_in at hq ⊢
      by_cases e1 : lg_cmp p.toInt64 a.toInt64 < 0
      · rw [if_pos e1] at hq; exact absurd rfl hq
      · rw [if_neg e1] at hq ⊢
        by_cases e2 : 0 < lg_cmp p.toInt64 b.toInt64
        · rw [if_pos e2] at hq; exact absurd rfl hq
        · rw [if_neg e2]
theorem m_isValue (v : Int32) : f_X6_isValue v = f_X5_isValue v := by
  unfold f_X6_isValue f_X5_isValue
  exact m_in v 0 999
theorem m_hammered (v : Int32) : f_X6_in v.toInt64 1 500 = f_X5_isHammered v := by
  unfold f_X5_isHammered
  exact m_in v 1 500
theorem m_rounds (v : Int32) : f_X6_in v.toInt64 1 50 = f_X5_isRounds v := by
  unfold f_X5_isRounds
  exact m_in v 1 50
theorem m_bz {a : Int32} (h : a = 0 ∨ a = 1) : (if a = 0 then (0 : Int32) else 1) = a := by
  rcases h with rfl | rfl
  · rfl
  · rfl
theorem m_if01 {c d : Prop} [Decidable c] [Decidable d] : (if c then (0 : Int32) else if d then 0 else 1) = 0 ∨ (if c then (0 : Int32) else if d then 0 else 1) = 1 := by
  by_cases hc : c
  · exact Or.inl (if_pos hc)
  · rw [if_neg hc]
    by_cases hd : d
    · exact Or.inl (if_pos hd)
    · exact Or.inr (if_neg hd)
theorem m_isSet (p v : Int32) : f_X6_isSetting p v = f_X5_isSettingValue p v := by
  have e1 : f_X6_in v.toInt64 5 999 = if v < 5 then 0 else if 999 < v then 0 else 1 := m_in v 5 999
  have e2 : f_X6_in v.toInt64 1 50 = if v < 1 then 0 else if 50 < v then 0 else 1 := m_in v 1 50
  unfold f_X6_isSetting f_X5_isSettingValue
  simp only [gLet]
  rw [e1, e2]
  by_cases c : p = 0
  · rw [if_pos c, if_pos c, if_neg (show ¬ p = 1 by rw [c]; decide)]
    exact m_bz m_if01
  · rw [if_neg c, if_neg c]
    by_cases d : p = 1
    · rw [if_pos d, if_pos d]
      exact m_bz m_if01
    · rw [if_neg d, if_neg d]
theorem m_key : ∀ n, n < 33 → ∀ k, k < 33 → 1 ≤ k → k < n → f_X6_isKey (nI n) (nI k) = if f_X5_haveCommonDivisor (nI n) (nI k) = 0 then 1 else 0 := by decide +kernel
theorem m_shape (n k : Int32) : f_X5_isShape n k = if n < 4 then 0 else if 32 < n then 0 else if k < 1 then 0 else if n ≤ k then 0 else f_X6_isKey n k := by
  unfold f_X5_isShape
  by_cases c1 : n < 4
  · rw [if_pos c1, if_pos c1]
  rw [if_neg c1, if_neg c1]
  by_cases c2 : 32 < n
  · rw [if_pos c2, if_pos c2]
  rw [if_neg c2, if_neg c2]
  by_cases c3 : k < 1
  · rw [if_pos c3, if_pos c3]
  rw [if_neg c3, if_neg c3]
  by_cases c4 : n ≤ k
  · rw [if_pos c4, if_pos c4]
  rw [if_neg c4, if_neg c4]
  have a2 := i_le.mp (Int32.not_lt.mp c2)
  have a3 := i_le.mp (Int32.not_lt.mp c3)
  have a4 := i_lt.mp (Int32.not_le.mp c4)
  have e32 : (32 : Int32).toInt = 32 := by decide
  have e1 : (1 : Int32).toInt = 1 := by decide
  have hn : n = nI (nN n) := nI_nN (by omega)
  have hk : k = nI (nN k) := nI_nN (by omega)
  have d1 : nN n = n.toInt.toNat := rfl
  have d2 : nN k = k.toInt.toNat := rfl
  rw [hn, hk]
  exact (m_key _ (by omega) _ (by omega) (by omega) (by omega)).symm
theorem m_can (n k s : Int32) : f_X6_canMake n k s = if f_X5_isShape n k = 0 then 0 else if s < 0 then 0 else if 4 < s then 0 else 1 := by
  have e1 : f_X6_in n.toInt64 4 32 = if n < 4 then 0 else if 32 < n then 0 else 1 := m_in n 4 32
  have e2 : f_X6_in k.toInt64 1 ((n - 1).toInt64) = if k < 1 then 0 else if n - 1 < k then 0 else 1 := m_in k 1 (n - 1)
  have e3 : f_X6_in s.toInt64 0 4 = if s < 0 then 0 else if 4 < s then 0 else 1 := m_in s 0 4
  unfold f_X6_canMake
  simp only [gLet]
  rw [e1, e2, e3, m_shape]
  have z : ((0 : Int32) = 0) = True := eq_true rfl
  have z1 : ((1 : Int32) = 0) = False := eq_false (by decide)
  by_cases c1 : n < 4
  · simp only [if_pos c1, z, if_true]
  by_cases c2 : 32 < n
  · simp only [if_neg c1, if_pos c2, z, if_true]
  have a1 := i_le.mp (Int32.not_lt.mp c1)
  have e4 : (4 : Int32).toInt = 4 := by decide
  have e1' : (1 : Int32).toInt = 1 := by decide
  have hh := i_hi n
  have hs : (n - 1).toInt = n.toInt - 1 := by rw [i_sub (by omega) (by omega), e1']
  by_cases c3 : k < 1
  · simp only [if_neg c1, if_neg c2, if_pos c3, z, z1, if_true, if_false]
  by_cases c4 : n ≤ k
  · have c4' : n - 1 < k := by rw [i_lt, hs]; have := i_le.mp c4; omega
    simp only [if_neg c1, if_neg c2, if_neg c3, if_pos c4, if_pos c4', z, z1, if_true, if_false]
  · have c4' : ¬ n - 1 < k := by rw [i_lt, hs]; have := i_lt.mp (Int32.not_le.mp c4); omega
    simp only [if_neg c1, if_neg c2, if_neg c3, if_neg c4, if_neg c4', z1, if_false]
    by_cases c5 : f_X6_isKey n k = 0
    · rw [if_pos c5, if_pos c5]
    · rw [if_neg c5, if_neg c5]
      exact m_bz m_if01
theorem m_exists {r : gR} (h : 0 ≤ (r 0).toInt) : f_X3_exists r = if r 0 = 0 then 0 else 1 := by
  unfold f_X3_exists
  by_cases c : r 0 = 0
  · rw [if_pos c, if_pos (by rw [c]; exact Int32.le_refl _)]
  · rw [if_neg c, if_neg (fun q => c (by
      have := i_le.mp q
      rw [i_z] at this
      exact i_eq.mpr (by rw [i_z]; omega)))]
theorem m_le0 {r : gR} (h : 0 ≤ (r 0).toInt) : r 0 ≤ 0 ↔ r 0 = 0 := by
  constructor
  · intro q
    have := i_le.mp q
    rw [i_z] at this
    exact i_eq.mpr (by rw [i_z]; omega)
  · intro q; rw [q]; exact Int32.le_refl _
theorem m_isPlace {r : gR} {p : Int32} : f_X6_isPlace r p = f_X3_hasPlace r p := by
  unfold f_X6_isPlace f_X3_hasPlace
  by_cases c : r 0 ≤ 0
  · rw [if_pos c, if_pos c]
  · rw [if_neg c, if_neg c]
    have e : f_X6_in p.toInt64 0 (r 0).toInt64 = if p < 0 then 0 else if r 0 < p then 0 else 1 := m_in p 0 (r 0)
    simp only [gLet]
    rw [e]
    exact m_bz m_if01
theorem m_okG {r : gR} (h : Inv r) : okG r := by
  rcases h.2.1 with q | q
  · exact Or.inl q
  · exact Or.inr ⟨h.1.2.1, q.2⟩
theorem m_rank {r : gR} {l s : Int32} (hl : okL r l) : f_X3_rankOf r l s = r 1 * l + s - (r 1 * l + s) / r 0 * r 0 := by
  unfold f_X3_rankOf
  rw [if_neg (by rw [i_lt, i_z]; have := hl.1; omega), if_neg (by rw [i_le]; have := hl.2; omega)]
  rfl
theorem m_rankN {r : gR} {l : Int32} (h : Inv r) (hl : okL r l) : f_X3_rankOf r l (r 2) = nI (mvT r l) ∧ mvT r l < nN (r 0) := by
  obtain ⟨b1, b2, b3, b4, b5, b6, b7, b8, b9, b10, b11⟩ := mv_b (m_okG h) hl
  refine ⟨?_, b7⟩
  have hkl : nN (r 1) * nN l ≤ 32 * 32 := Nat.mul_le_mul (by omega) (by omega)
  rw [m_rank hl]
  have h1 : r 1 = nI (nN (r 1)) := nI_nN b9
  have h2 : l = nI (nN l) := nI_nN hl.1
  have h3 : r 2 = nI (nN (r 2)) := nI_nN b10
  have h0 : r 0 = nI (nN (r 0)) := nI_nN b8
  have e : r 1 * l + r 2 = nI (nN (r 1) * nN l + nN (r 2)) := by rw [← nI_add, ← pk_mul, ← h1, ← h2, ← h3]
  rw [e]
  have e2 := pk_rem (a := nN (r 1) * nN l + nN (r 2)) (d := nN (r 0)) (by omega) b1 (by omega)
  rw [← h0] at e2
  exact e2
/-- moves until a line lies elsewhere -/
theorem m_moved {r : gR} {l : Int32} (h : Inv r) (hl : okL r l) : f_X3_movesUntilMoved r l = nI (mvK r l) := by
  obtain ⟨b1, b2, b3, b4, b5, b6, b7, b8, b9, b10, b11⟩ := mv_b (m_okG h) hl
  unfold f_X3_movesUntilMoved
  simp only [gLet]
  rw [(m_rankN h hl).1]
  have h3 : r 3 = nI (nN (r 3)) := nI_nN b11
  have h0 : r 0 = nI (nN (r 0)) := nI_nN b8
  unfold mvK
  by_cases c : mvT r l < nN (r 3)
  · rw [if_pos c, if_neg (by rw [h3]; exact nI_ge c (by omega))]
    conv => lhs; rw [h3]
    exact pk_sub (by omega)
  · rw [if_neg c, if_pos (by rw [h3]; exact nI_le (by omega) (by omega))]
    conv => lhs; rw [h3, h0]
    rw [nI_add, pk_sub (by omega)]
theorem m_movesTo_L {sz ac sp ou : Int32} {tx : Nat → Int32} {nw tr : gR} {dy kp ik : Nat → Int32} {l : Int32} (hg : okG nw) (hl : okL nw l) {rf : Int32} : ∀ (n : Nat) (x2 x3 x4 : Int32), mvI nw l x2 x3 x4 → mvK nw l - nN x4 < n → f_X6_movesTo_L42 sz ac sp ou tx nw tr dy kp ik l n x2 x3 x4 rf = (nI (mvK nw l), rf, sz, ac, sp, ou, tx, nw, tr, dy, kp, ik)
  | 0, _, _, _, _, h => absurd h (by omega)
  | n + 1, x2, x3, x4, hI, h => by
    rw [f_X6_movesTo_L42_s]
    refine gLet_i (P := fun z => z = _) (fun v1 e1 => ?_)
    refine gLet_i (P := fun z => z = _) (fun v2 e2 => ?_)
    by_cases c : v1 = v2
    · rw [if_pos c]
      have hd := mv_dec hg hl hI e1 e2 c h
      by_cases d : x3 ≤ 0
      · rw [if_pos d]
        refine gLet_i (P := fun z => z = _) (fun v e => ?_)
        exact m_movesTo_L hg hl n _ _ _ (mv_S0 hg hl hI e1 e2 c d e) hd
      · rw [if_neg d]
        exact m_movesTo_L hg hl n _ _ _ (mv_S1 hg hl hI e1 e2 c d) hd
    · rw [if_neg c]
      obtain ⟨i, h1, h2, h3, h4⟩ := hI
      obtain ⟨b1, b2, -⟩ := mv_b hg hl
      rw [← e1, ← e2, h3, h4, mv_pw hg hl, mv_po hg hl] at c
      have : ¬ i < mvK nw l := fun q => c (by rw [(mv_iff hg hl h2).mpr q])
      rw [h1, show i = mvK nw l by omega]
/-- a place behind some moves -/
def pbS (r : gR) (k : Nat) : Nat := (nN (r 2) + (nN (r 0) - nN (r 3) + k) / (nN (r 0) + 1)) % nN (r 0)
def pbG (r : gR) (k : Nat) : Nat := nN (r 0) - (nN (r 0) - nN (r 3) + k) % (nN (r 0) + 1)
theorem pb_step {n t : Nat} (_h : 0 < n) : ((t + 1) % (n + 1) = if t % (n + 1) = n then 0 else t % (n + 1) + 1) ∧ ((t + 1) / (n + 1) = if t % (n + 1) = n then t / (n + 1) + 1 else t / (n + 1)) := by
  have h1 := Nat.mod_lt t (show 0 < n + 1 by omega)
  have h2 := Nat.div_add_mod t (n + 1)
  by_cases c : t % (n + 1) = n
  · rw [if_pos c, if_pos c]
    have e : t + 1 = (n + 1) * (t / (n + 1) + 1) := by rw [Nat.mul_add, Nat.mul_one]; omega
    rw [e]
    exact ⟨Nat.mul_mod_right _ _, by rw [Nat.mul_div_cancel_left _ (by omega)]⟩
  · rw [if_neg c, if_neg c]
    have e : t + 1 = (t % (n + 1) + 1) + (n + 1) * (t / (n + 1)) := by omega
    rw [e, Nat.add_mul_mod_self_left, Nat.add_mul_div_left _ _ (by omega), Nat.mod_eq_of_lt (by omega), Nat.div_eq_of_lt (by omega)]
    exact ⟨rfl, by omega⟩
theorem m_pb_L {sz ac sp ou : Int32} {tx : Nat → Int32} {nw tr : gR} {dy kp ik : Nat → Int32} {l : Int32} (hi : Inv nw) (hl : okL nw l) {rf : Int32} {m : Nat} (hm : m < 10000) : ∀ (d k : Nat), k + d = m → f_X6_placeBehind_L59 sz ac sp ou tx nw tr dy kp ik l (nI m) (d + 1) (nI (pbS nw k)) (nI (pbG nw k)) (nI k) rf = (f_X6_placeWith nw l (nI (pbS nw m)) (nI (pbG nw m)), rf, sz, ac, sp, ou, tx, nw, tr, dy, kp, ik)
  | 0, k, h => by
    rw [f_X6_placeBehind_L59_s, if_pos (nI_le (by omega) (by omega)), show k = m by omega]
    rfl
  | d + 1, k, h => by
    obtain ⟨b1, b2, b3, b4, b5, b6, b7, b8, b9, b10, b11⟩ := mv_b (m_okG hi) hl
    have h0 : nw 0 = nI (nN (nw 0)) := nI_nN b8
    have ih := m_pb_L (sz := sz) (ac := ac) (sp := sp) (ou := ou) (tx := tx) (tr := tr) (dy := dy) (kp := kp) (ik := ik) hi hl (rf := rf) hm d (k + 1) (by omega)
    rw [← ih, f_X6_placeBehind_L59_s, if_neg (nI_ge (by omega) (by omega))]
    obtain ⟨q1, q2⟩ := pb_step (n := nN (nw 0)) (t := nN (nw 0) - nN (nw 3) + k) b1
    have hml := Nat.mod_lt (nN (nw 0) - nN (nw 3) + k) (show 0 < nN (nw 0) + 1 by omega)
    have hsl : pbS nw k < nN (nw 0) := Nat.mod_lt _ b1
    have hS : pbS nw (k + 1) = if (nN (nw 0) - nN (nw 3) + k) % (nN (nw 0) + 1) = nN (nw 0) then (pbS nw k + 1) % nN (nw 0) else pbS nw k := by
      unfold pbS
      rw [← Nat.add_assoc, q2]
      by_cases c : (nN (nw 0) - nN (nw 3) + k) % (nN (nw 0) + 1) = nN (nw 0)
      · rw [if_pos c, if_pos c, ← Nat.add_assoc, Nat.mod_add_mod]
      · rw [if_neg c, if_neg c]
    have hG : pbG nw (k + 1) = if (nN (nw 0) - nN (nw 3) + k) % (nN (nw 0) + 1) = nN (nw 0) then nN (nw 0) else pbG nw k - 1 := by
      unfold pbG
      rw [← Nat.add_assoc, q1]
      by_cases c : (nN (nw 0) - nN (nw 3) + k) % (nN (nw 0) + 1) = nN (nw 0)
      · rw [if_pos c, if_pos c]; omega
      · rw [if_neg c, if_neg c]; omega
    rw [nI_1]
    by_cases c : (nN (nw 0) - nN (nw 3) + k) % (nN (nw 0) + 1) = nN (nw 0)
    · have hg0 : pbG nw k = 0 := by unfold pbG; omega
      rw [if_pos c] at hS hG
      have z : nI (pbG nw k) ≤ 0 := by rw [hg0]; decide
      rw [if_pos z]
      simp only [gLet]
      rw [if_pos z]
      have e2 := pk_rem (a := pbS nw k + 1) (d := nN (nw 0)) (by omega) b1 (by omega)
      rw [← h0] at e2
      rw [nI_1, e2, hS, hG, ← h0]
    · have hg0 : 0 < pbG nw k := by unfold pbG; omega
      rw [if_neg c] at hS hG
      have hgl : pbG nw k ≤ 32 := by unfold pbG; omega
      have z : ¬ nI (pbG nw k) ≤ 0 := nI_nle hg0 (by omega)
      rw [if_neg z, if_neg z]
      have e1 : nI (pbG nw k) - 1 = nI (pbG nw k - 1) := pk_sub (b := 1) (by omega)
      rw [e1, hS, hG, nI_1]
theorem m_after {r : gR} {l : Int32} {m : Nat} (hi : Inv r) (hl : okL r l) (hm : m < 10000) : f_X3_placeAfterMoves r l (nI m) = f_X6_placeWith r l (nI (pbS r m)) (nI (pbG r m)) := by
  obtain ⟨b1, b2, b3, b4, b5, b6, b7, b8, b9, b10, b11⟩ := mv_b (m_okG hi) hl
  have h0 : r 0 = nI (nN (r 0)) := nI_nN b8
  have h2 : r 2 = nI (nN (r 2)) := nI_nN b10
  have h3 : r 3 = nI (nN (r 3)) := nI_nN b11
  have hml := Nat.mod_lt (nN (r 0) - nN (r 3) + m) (show 0 < nN (r 0) + 1 by omega)
  have hdl : (nN (r 0) - nN (r 3) + m) / (nN (r 0) + 1) ≤ nN (r 0) - nN (r 3) + m := Nat.div_le_self _ _
  have e1 : r 0 - r 3 + nI m = nI (nN (r 0) - nN (r 3) + m) := by
    have := pk_sub (a := nN (r 0)) (b := nN (r 3)) b5
    rw [← h0, ← h3] at this
    rw [this, nI_add]
  have e0 : r 0 + 1 = nI (nN (r 0) + 1) := by rw [← nI_1, ← h0]
  have ed := pk_div (a := nN (r 0) - nN (r 3) + m) (d := nN (r 0) + 1) (by omega) (by omega) (by omega)
  have er := pk_rem (a := nN (r 0) - nN (r 3) + m) (d := nN (r 0) + 1) (by omega) (by omega) (by omega)
  have es := pk_rem (a := nN (r 2) + (nN (r 0) - nN (r 3) + m) / (nN (r 0) + 1)) (d := nN (r 0)) (by omega) b1 (by omega)
  have eg : r 0 - nI ((nN (r 0) - nN (r 3) + m) % (nN (r 0) + 1)) = nI (pbG r m) := by
    have := pk_sub (a := nN (r 0)) (b := (nN (r 0) - nN (r 3) + m) % (nN (r 0) + 1)) (by omega)
    rw [← h0] at this
    exact this
  have es' : r 2 + nI ((nN (r 0) - nN (r 3) + m) / (nN (r 0) + 1)) - (r 2 + nI ((nN (r 0) - nN (r 3) + m) / (nN (r 0) + 1))) / r 0 * r 0 = nI (pbS r m) := by
    rw [← nI_add, ← h0, ← h2] at es
    exact es
  unfold f_X3_placeAfterMoves f_X6_placeWith
  simp only [gLet]
  rw [if_neg (m_has.mpr hl), e1, e0, er, ed, eg, es', m_rank hl]
/-- which line lies at a place -/
theorem m_lineAt_L {sz ac sp ou : Int32} {tx : Nat → Int32} {nw tr : gR} {dy kp ik : Nat → Int32} {p q : Int32} (hi : Inv nw) (hq : ∀ l, okL nw l → (f_X3_rankOf nw l (nw 2) = q ↔ f_X6_placeOf nw l = p)) {rf : Int32} : ∀ (n i : Nat), i < 100 → nN (nw 0) < i + n → f_X6_line_L27 sz ac sp ou tx nw tr dy kp ik p n (nI i) rf = (f_X3_lineAt_L28 nw n q (nI i), rf, sz, ac, sp, ou, tx, nw, tr, dy, kp, ik)
  | 0, _, _, _ => rfl
  | n + 1, i, h, h2 => by
    have l7 := hi.1.2.1
    have l8 := hi.1.1
    rw [f_X6_line_L27_s, f_X3_lineAt_L28_s]
    by_cases c : nw 0 ≤ nI i
    · rw [if_pos c, if_pos c]
    · rw [if_neg c, if_neg c]
      have c1 := i_lt.mp (Int32.not_le.mp c)
      have hl : okL nw (nI i) := ⟨by rw [nI_toInt (by omega)]; omega, c1⟩
      rw [nI_toInt (by omega)] at c1
      simp only [gLet]
      rw [nI_1]
      by_cases d : f_X6_placeOf nw (nI i) = p
      · rw [if_pos d, if_pos ((hq _ hl).mpr d)]
      · rw [if_neg d, if_neg (fun e => d ((hq _ hl).mp e))]
        exact m_lineAt_L hi hq n (i + 1) (by omega) (by omega)
theorem m_lineAt {sz ac sp ou : Int32} {tx : Nat → Int32} {nw tr : gR} {dy kp ik : Nat → Int32} {p rf : Int32} (hi : Inv nw) (hp : ¬ f_X3_hasPlace nw p = 0) : f_X6_line_L27 sz ac sp ou tx nw tr dy kp ik p (((nw 0).toInt - (0 : Int32).toInt).toNat + 1) 0 rf = (f_X3_lineAt nw p, rf, sz, ac, sp, ou, tx, nw, tr, dy, kp, ik) := by
  have l7 := hi.1.2.1
  have l8 := hi.1.1
  have hb : ¬ nw 0 ≤ 0 ∧ ¬ p < 0 ∧ ¬ nw 0 < p := by
    unfold f_X3_hasPlace at hp
    by_cases a : nw 0 ≤ 0
    · rw [if_pos a] at hp; exact absurd rfl hp
    rw [if_neg a] at hp
    by_cases b : p < 0
    · rw [if_pos b] at hp; exact absurd rfl hp
    rw [if_neg b] at hp
    by_cases c : nw 0 < p
    · rw [if_pos c] at hp; exact absurd rfl hp
    exact ⟨a, b, c⟩
  obtain ⟨a, b, c⟩ := hb
  have a1 := i_lt.mp (Int32.not_le.mp a)
  have b1 := i_le.mp (Int32.not_lt.mp b)
  have c1 := i_le.mp (Int32.not_lt.mp c)
  rw [i_z] at a1 b1
  have hn : ¬ nw 0 = 0 := fun e => by rw [e, i_z] at a1; omega
  obtain ⟨l0, l1, l2, l3, l4, l5, l6⟩ := hi.pos hn
  have hp' : p = nI (nN p) := nI_nN b1
  have h3 : nw 3 = nI (nN (nw 3)) := nI_nN l5
  have dp : nN p = p.toInt.toNat := rfl
  have d3 : nN (nw 3) = (nw 3).toInt.toNat := rfl
  have d0 : nN (nw 0) = (nw 0).toInt.toNat := rfl
  have hpl : ∀ l, okL nw l → f_X6_placeOf nw l = nI (if mvT nw l < nN (nw 3) then mvT nw l else mvT nw l + 1) := fun l hl => mv_po (m_okG hi) hl
  unfold f_X3_lineAt
  by_cases e : p = nw 3
  · rw [if_pos e]
    -- no line lies in the gap
    have key : ∀ (n i : Nat), i ≤ nN (nw 0) → nN (nw 0) < i + n → f_X6_line_L27 sz ac sp ou tx nw tr dy kp ik p n (nI i) rf = (-1, rf, sz, ac, sp, ou, tx, nw, tr, dy, kp, ik) := by
      intro n
      induction n with
      | zero => intro i h1 h2; exfalso; omega
      | succ n ih =>
        intro i h1 h2
        rw [f_X6_line_L27_s]
        by_cases c : nw 0 ≤ nI i
        · rw [if_pos c]
        · rw [if_neg c]
          have c1 := i_lt.mp (Int32.not_le.mp c)
          have hl : okL nw (nI i) := ⟨by rw [nI_toInt (by omega)]; omega, c1⟩
          have b7 := (m_rankN hi hl).2
          rw [nI_toInt (by omega)] at c1
          simp only [gLet]
          rw [nI_1, if_neg (by
            rw [hpl _ hl, e]
            intro q
            have q := q.trans h3
            by_cases w : mvT nw (nI i) < nN (nw 3)
            · rw [if_pos w] at q
              have := (nI_eq (by omega) (by omega)).mp q
              omega
            · rw [if_neg w] at q
              have := (nI_eq (by omega) (by omega)).mp q
              omega)]
          exact ih (i + 1) (by omega) (by omega)
    exact key _ 0 (by omega) (by rw [i_z]; omega)
  · rw [if_neg e]
    have hne : nN p ≠ nN (nw 3) := fun q => e (by rw [hp', h3, q])
    by_cases f : nw 3 ≤ p
    · rw [if_pos f]
      have f1 := i_le.mp f
      have hpm : p - 1 = nI (nN p - 1) := by
        rw [hp', nN_nI (by omega)]
        exact pk_sub (b := 1) (by omega)
      rw [hpm]
      refine m_lineAt_L hi (fun l hl => ?_) _ 0 (by omega) (by rw [i_z]; omega)
      obtain ⟨k1, k2⟩ := m_rankN hi hl
      rw [k1, hpl l hl, hp', nN_nI (by omega), nI_eq (by omega) (by omega), nI_eq (by split <;> omega) (by omega)]
      split <;> omega
    · rw [if_neg f]
      have f1 := i_lt.mp (Int32.not_le.mp f)
      refine m_lineAt_L hi (fun l hl => ?_) _ 0 (by omega) (by rw [i_z]; omega)
      obtain ⟨k1, k2⟩ := m_rankN hi hl
      rw [k1, hpl l hl, hp', nI_eq (by omega) (by omega), nI_eq (by split <;> omega) (by omega)]
      split <;> omega
