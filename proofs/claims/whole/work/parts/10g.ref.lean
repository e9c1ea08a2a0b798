/-! THE REFERENCE: MOVES, SCRIPTS, SIMULATIONS -/
/-- start, gap and key of a store -/
def okG (r : gR) : Prop := r 0 = 0 ∨ ((r 0).toInt ≤ 32 ∧ 1 ≤ (r 1).toInt ∧ (r 1).toInt < (r 0).toInt ∧ 0 ≤ (r 2).toInt ∧ (r 2).toInt < (r 0).toInt ∧ 0 ≤ (r 3).toInt ∧ (r 3).toInt ≤ (r 0).toInt)
def nN (x : Int32) : Nat := x.toInt.toNat
theorem nI_nN {x : Int32} (h : 0 ≤ x.toInt) : x = nI (nN x) := by
  apply i_eq.mpr
  have h2 := i_hi x
  rw [nI_toInt (show nN x < 2 ^ 31 by unfold nN; omega)]
  unfold nN
  omega
theorem nN_nI {k : Nat} (h : k < 2 ^ 31) : nN (nI k) = k := by
  unfold nN
  rw [nI_toInt h]
  rfl
def pwN (n k l s g : Nat) : Nat := if (k * l + s) % n < g then (k * l + s) % n else (k * l + s) % n + 1
theorem pw_N (r : gR) {n k l s g : Nat} (hn : r 0 = nI n) (hk : r 1 = nI k) (h0 : 0 < n) (h1 : n ≤ 32) (h2 : k < 33) (h3 : l < 33) (h4 : s < 33) (h5 : g < 34) : f_X6_placeWith r (nI l) (nI s) (nI g) = nI (pwN n k l s g) := by
  have hkl : k * l ≤ 32 * 32 := Nat.mul_le_mul (by omega) (by omega)
  have hm := Nat.mod_lt (k * l + s) h0
  unfold f_X6_placeWith
  simp only [gLet]
  rw [hn, hk, pk_mul, nI_add, pk_rem (by omega) h0 (by omega)]
  unfold pwN
  by_cases c : (k * l + s) % n < g
  · rw [if_neg (nI_ge c (by omega)), if_pos c]
  · rw [if_pos (nI_le (by omega) (by omega)), if_neg c, nI_1]
def mvT (r : gR) (l : Int32) : Nat := (nN (r 1) * nN l + nN (r 2)) % nN (r 0)
/-- how many moves of the gap, until a line lies elsewhere -/
def mvK (r : gR) (l : Int32) : Nat := if mvT r l < nN (r 3) then nN (r 3) - mvT r l else nN (r 3) + nN (r 0) - mvT r l
def mvs (r : gR) (i : Nat) : Nat := if i ≤ nN (r 3) then nN (r 2) else (nN (r 2) + 1) % nN (r 0)
def mvg (r : gR) (i : Nat) : Nat := if i ≤ nN (r 3) then nN (r 3) - i else nN (r 0) - (i - nN (r 3) - 1)
def mvI (r : gR) (l x2 x3 x4 : Int32) : Prop := ∃ i : Nat, x4 = nI i ∧ i ≤ mvK r l ∧ x2 = nI (mvs r i) ∧ x3 = nI (mvg r i)
theorem mv_b {r : gR} {l : Int32} (hg : okG r) (hl : okL r l) : 0 < nN (r 0) ∧ nN (r 0) ≤ 32 ∧ nN (r 1) < 32 ∧ nN (r 2) < nN (r 0) ∧ nN (r 3) ≤ nN (r 0) ∧ nN l < nN (r 0) ∧ mvT r l < nN (r 0) ∧ 0 ≤ (r 0).toInt ∧ 0 ≤ (r 1).toInt ∧ 0 ≤ (r 2).toInt ∧ 0 ≤ (r 3).toInt := by
  obtain ⟨l1, l2⟩ := hl
  rcases hg with h | ⟨h1, h2, h3, h4, h5, h6, h7⟩
  · rw [h] at l2
    have e : (0 : Int32).toInt = 0 := (by decide)
    omega
  · have q : 0 < nN (r 0) := by unfold nN; omega
    refine ⟨q, ?_, ?_, ?_, ?_, ?_, Nat.mod_lt _ q, by omega, by omega, h4, h6⟩ <;> unfold nN <;> omega
theorem mv_pw {r : gR} {l : Int32} (hg : okG r) (hl : okL r l) (i : Nat) : f_X6_placeWith r l (nI (mvs r i)) (nI (mvg r i)) = nI (pwN (nN (r 0)) (nN (r 1)) (nN l) (mvs r i) (mvg r i)) := by
  obtain ⟨b1, b2, b3, b4, b5, b6, b7, b8, b9, b10, b11⟩ := mv_b hg hl
  have hs : mvs r i < 33 := by
    unfold mvs
    split
    · omega
    · have := Nat.mod_lt (nN (r 2) + 1) b1; omega
  have hgp : mvg r i < 34 := by unfold mvg; split <;> omega
  have := pw_N r (n := nN (r 0)) (k := nN (r 1)) (l := nN l) (s := mvs r i) (g := mvg r i) (nI_nN b8) (nI_nN b9) b1 b2 (by omega) (by omega) hs hgp
  rwa [← nI_nN hl.1] at this
theorem mv_po {r : gR} {l : Int32} (hg : okG r) (hl : okL r l) : f_X6_placeOf r l = nI (pwN (nN (r 0)) (nN (r 1)) (nN l) (nN (r 2)) (nN (r 3))) := by
  have h := mv_pw hg hl 0
  obtain ⟨b1, b2, b3, b4, b5, b6, b7, b8, b9, b10, b11⟩ := mv_b hg hl
  have e1 : mvs r 0 = nN (r 2) := by unfold mvs; rw [if_pos (Nat.zero_le _)]
  have e2 : mvg r 0 = nN (r 3) := by unfold mvg; rw [if_pos (Nat.zero_le _)]; rfl
  rw [e1, e2, ← nI_nN b10, ← nI_nN b11] at h
  exact h
theorem mv_t2 {r : gR} {l : Int32} (hg : okG r) (hl : okL r l) : (nN (r 1) * nN l + (nN (r 2) + 1) % nN (r 0)) % nN (r 0) = (mvT r l + 1) % nN (r 0) := by
  unfold mvT
  rw [Nat.add_mod_mod, ← Nat.add_assoc, Nat.mod_add_mod]
/-- the line lies where it lay as long as there were fewer moves than that -/
theorem mv_iff {r : gR} {l : Int32} (hg : okG r) (hl : okL r l) {i : Nat} (hi : i ≤ mvK r l) : pwN (nN (r 0)) (nN (r 1)) (nN l) (mvs r i) (mvg r i) = pwN (nN (r 0)) (nN (r 1)) (nN l) (nN (r 2)) (nN (r 3)) ↔ i < mvK r l := by
  obtain ⟨b1, b2, b3, b4, b5, b6, b7, b8, b9, b10, b11⟩ := mv_b hg hl
  have ht2 := mv_t2 hg hl
  have ht : (nN (r 1) * nN l + nN (r 2)) % nN (r 0) = mvT r l := rfl
  unfold mvK at hi ⊢
  unfold pwN mvs mvg
  rw [ht]
  generalize mvT r l = t at *
  generalize nN (r 3) = g0 at *
  by_cases c : t < g0
  · rw [if_pos c] at hi ⊢
    rw [if_pos (show i ≤ g0 by omega), if_pos (show i ≤ g0 by omega), ht, if_pos c]
    by_cases d : t < g0 - i
    · rw [if_pos d]; constructor <;> intro _ <;> omega
    · rw [if_neg d]; constructor <;> intro _ <;> omega
  · rw [if_neg c] at hi ⊢
    rw [if_neg c]
    by_cases q : i ≤ g0
    · rw [if_pos q, if_pos q, ht, if_neg (by omega)]
      constructor <;> intro _ <;> omega
    · rw [if_neg q, if_neg q, ht2]
      by_cases w : t + 1 = nN (r 0)
      · have e : (t + 1) % nN (r 0) = 0 := by rw [w]; exact Nat.mod_self _
        rw [e, if_pos (by omega)]
        constructor <;> intro _ <;> omega
      · have e : (t + 1) % nN (r 0) = t + 1 := Nat.mod_eq_of_lt (by omega)
        rw [e]
        by_cases d : t + 1 < nN (r 0) - (i - g0 - 1)
        · rw [if_pos d]; constructor <;> intro _ <;> omega
        · rw [if_neg d]; constructor <;> intro _ <;> omega
theorem pwN_lt {n k l s g : Nat} (h : 0 < n) : pwN n k l s g ≤ n := by
  have := Nat.mod_lt (k * l + s) h
  unfold pwN
  split <;> omega
theorem mv_lt {r : gR} {l x2 x3 x4 v1 v2 : Int32} (hg : okG r) (hl : okL r l) (h : mvI r l x2 x3 x4) (e1 : f_X6_placeWith r l x2 x3 = v1) (e2 : f_X6_placeOf r l = v2) (c : v1 = v2) : ∃ i : Nat, x4 = nI i ∧ i < mvK r l ∧ x2 = nI (mvs r i) ∧ x3 = nI (mvg r i) := by
  obtain ⟨i, h1, h2, h3, h4⟩ := h
  refine ⟨i, h1, ?_, h3, h4⟩
  obtain ⟨b1, b2, -⟩ := mv_b hg hl
  rw [← e1, ← e2, h3, h4, mv_pw hg hl, mv_po hg hl] at c
  have q1 := pwN_lt (k := nN (r 1)) (l := nN l) (s := mvs r i) (g := mvg r i) b1
  have q2 := pwN_lt (k := nN (r 1)) (l := nN l) (s := nN (r 2)) (g := nN (r 3)) b1
  exact (mv_iff hg hl h2).mp ((nI_eq (by omega) (by omega)).mp c)
theorem mvK_le {r : gR} {l : Int32} (hg : okG r) (hl : okL r l) : mvK r l ≤ 64 := by
  obtain ⟨b1, b2, b3, b4, b5, b6, b7, -⟩ := mv_b hg hl
  unfold mvK
  split <;> omega
theorem mv_0 {r : gR} {l : Int32} (hg : okG r) (hl : okL r l) : mvI r l (r 2) (r 3) 0 := by
  obtain ⟨b1, b2, b3, b4, b5, b6, b7, b8, b9, b10, b11⟩ := mv_b hg hl
  refine ⟨0, nI_0.symm, Nat.zero_le _, ?_, ?_⟩
  · unfold mvs; rw [if_pos (Nat.zero_le _)]; exact nI_nN b10
  · unfold mvg; rw [if_pos (Nat.zero_le _)]; exact nI_nN b11
theorem mv_S1 {r : gR} {l x2 x3 x4 v1 v2 : Int32} (hg : okG r) (hl : okL r l) (h : mvI r l x2 x3 x4) (e1 : f_X6_placeWith r l x2 x3 = v1) (e2 : f_X6_placeOf r l = v2) (c : v1 = v2) (d : ¬ x3 ≤ 0) : mvI r l x2 (x3 - 1) (x4 + 1) := by
  obtain ⟨i, h1, h2, h3, h4⟩ := mv_lt hg hl h e1 e2 c
  obtain ⟨b1, b2, b3, b4, b5, b6, b7, b8, b9, b10, b11⟩ := mv_b hg hl
  have hg0 : 0 < mvg r i := by
    apply Nat.pos_of_ne_zero
    intro z
    rw [h4, z] at d
    exact d (by decide)
  refine ⟨i + 1, by rw [h1, nI_1], by omega, ?_, ?_⟩
  · rw [h3]
    congr 1
    unfold mvs
    unfold mvg at hg0
    by_cases q : i ≤ nN (r 3)
    · rw [if_pos q] at hg0 ⊢
      rw [if_pos (by omega)]
    · rw [if_neg q, if_neg (by omega)]
  · rw [h4, show (1 : Int32) = nI 1 from rfl, pk_sub (by omega)]
    congr 1
    unfold mvg at hg0 ⊢
    by_cases q : i ≤ nN (r 3)
    · rw [if_pos q] at hg0 ⊢
      rw [if_pos (by omega)]
      omega
    · rw [if_neg q] at hg0 ⊢
      rw [if_neg (by omega)]
      omega
theorem mv_S0 {r : gR} {l x2 x3 x4 v1 v2 v : Int32} (hg : okG r) (hl : okL r l) (h : mvI r l x2 x3 x4) (e1 : f_X6_placeWith r l x2 x3 = v1) (e2 : f_X6_placeOf r l = v2) (c : v1 = v2) (d : x3 ≤ 0) (e : (x2 + 1) - (x2 + 1) / (r 0) * (r 0) = v) : mvI r l v (r 0) (x4 + 1) := by
  obtain ⟨i, h1, h2, h3, h4⟩ := mv_lt hg hl h e1 e2 c
  obtain ⟨b1, b2, b3, b4, b5, b6, b7, b8, b9, b10, b11⟩ := mv_b hg hl
  have hgl : mvg r i < 34 := by unfold mvg; split <;> omega
  have hg0 : mvg r i = 0 := by
    rw [h4] at d
    have := (nI_leI (a := mvg r i) (b := 0) (by omega) (by decide)).mp (by rw [nI_0]; exact d)
    omega
  have hi : i = nN (r 3) := by
    unfold mvg at hg0
    unfold mvK at h2
    by_cases q : i ≤ nN (r 3)
    · rw [if_pos q] at hg0; omega
    · rw [if_neg q] at hg0
      split at h2 <;> omega
  refine ⟨i + 1, by rw [h1, nI_1], by omega, ?_, ?_⟩
  · rw [← e, h3]
    have hs : mvs r i = nN (r 2) := by unfold mvs; rw [if_pos (by omega)]
    have hr0 : r 0 = nI (nN (r 0)) := nI_nN b8
    have hq := pk_rem (a := nN (r 2) + 1) (d := nN (r 0)) (by omega) b1 (by omega)
    rw [← hr0] at hq
    rw [hs, nI_1, hq]
    congr 1
    unfold mvs
    rw [if_neg (by omega)]
  · unfold mvg
    rw [if_neg (by omega), hi]
    rw [show nN (r 3) + 1 - nN (r 3) - 1 = 0 by omega]
    exact nI_nN b8
theorem mv_dec {r : gR} {l x2 x3 x4 v1 v2 : Int32} {n : Nat} (hg : okG r) (hl : okL r l) (h : mvI r l x2 x3 x4) (e1 : f_X6_placeWith r l x2 x3 = v1) (e2 : f_X6_placeOf r l = v2) (c : v1 = v2) (hμ : mvK r l - nN x4 < n + 1) : mvK r l - nN (x4 + 1) < n := by
  obtain ⟨i, h1, h2, h3, h4⟩ := mv_lt hg hl h e1 e2 c
  have hk := mvK_le hg hl
  rw [h1, nN_nI (by omega)] at hμ
  rw [h1, nI_1, nN_nI (by omega)]
  omega
/-- the powers of a script -/
def rsA (p0 : Int32) (x4 : Int64) (x6 : Int32) : Prop := ((x6 = 0 ∧ x4 = 1) ∨ (x6 = 1 ∧ x4 = 1000000) ∨ (x6 = 2 ∧ x4 = 1000000000000) ∨ (x6 = 3 ∧ x4 = 1000000000000000000)) ∧ (x6 ≤ p0 ∨ x6 = 0)
def rsB (p0 : Int32) (x4 : Int64) (x6 : Int32) : Prop := (p0 = 1 ∧ ((x6 = 0 ∧ x4 = 1000000) ∨ (x6 = 1 ∧ x4 = 1))) ∨ (p0 = 2 ∧ ((x6 = 0 ∧ x4 = 1000000000000) ∨ (x6 = 1 ∧ x4 = 1000000) ∨ (x6 = 2 ∧ x4 = 1))) ∨ (p0 = 3 ∧ ((x6 = 0 ∧ x4 = 1000000000000000000) ∨ (x6 = 1 ∧ x4 = 1000000000000) ∨ (x6 = 2 ∧ x4 = 1000000) ∨ (x6 = 3 ∧ x4 = 1)))
theorem rsA_0 (p0 : Int32) : rsA p0 1 0 := ⟨Or.inl ⟨rfl, rfl⟩, Or.inr rfl⟩
theorem rsA_s {p0 : Int32} {x4 : Int64} {x6 : Int32} (h : rsA p0 x4 x6) (c : ¬ p0 ≤ x6) (d : ¬ 3 ≤ x6) : rsA p0 (x4 * 1000000) (x6 + 1) := by
  have c1 := Int32.not_le.mp c
  have c2 := i_lt.mp c1
  have e := i_up c1
  refine ⟨?_, Or.inl (i_le.mpr (by omega))⟩
  rcases h.1 with ⟨a, b⟩ | ⟨a, b⟩ | ⟨a, b⟩ | ⟨a, b⟩
  · subst a; subst b; exact Or.inr (Or.inl ⟨by decide, by decide⟩)
  · subst a; subst b; exact Or.inr (Or.inr (Or.inl ⟨by decide, by decide⟩))
  · subst a; subst b; exact Or.inr (Or.inr (Or.inr ⟨by decide, by decide⟩))
  · subst a; exact absurd (by decide) d
theorem rs_AB {p0 v : Int32} {x4 : Int64} {x6 : Int32} (h : rsA p0 x4 x6) (c : p0 ≤ x6 ∨ 3 ≤ x6) (e : f_X6_in p0.toInt64 1 3 = v) (d : ¬ v = 0) : rsB p0 x4 0 := by
  have q := in_i e d
  have e1 : (1 : Int64).toInt = 1 := (by decide)
  have e3 : (3 : Int64).toInt = 3 := (by decide)
  have z0 : (0 : Int32).toInt = 0 := (by decide)
  have z1 : (1 : Int32).toInt = 1 := (by decide)
  have z2 : (2 : Int32).toInt = 2 := (by decide)
  have z3 : (3 : Int32).toInt = 3 := (by decide)
  have hx : x6.toInt = p0.toInt := by
    have h2 : x6.toInt ≤ p0.toInt := by
      rcases h.2 with w | w
      · exact i_le.mp w
      · rw [w, z0]; omega
    rcases c with w | w
    · have := i_le.mp w; omega
    · have := i_le.mp w
      rw [z3] at this
      omega
  rcases h.1 with ⟨a, b⟩ | ⟨a, b⟩ | ⟨a, b⟩ | ⟨a, b⟩
  · rw [a] at hx; omega
  · exact Or.inl ⟨i_eq.mpr (by rw [← hx, a]), Or.inl ⟨rfl, b⟩⟩
  · exact Or.inr (Or.inl ⟨i_eq.mpr (by rw [← hx, a]), Or.inl ⟨rfl, b⟩⟩)
  · exact Or.inr (Or.inr ⟨i_eq.mpr (by rw [← hx, a]), Or.inl ⟨rfl, b⟩⟩)
theorem rsB_s {p0 : Int32} {x4 : Int64} {x6 : Int32} (h : rsB p0 x4 x6) (c : ¬ p0 ≤ x6) : rsB p0 (x4 / 1000000) (x6 + 1) ∧ ¬ x4 / 1000000 = 0 := by
  rcases h with ⟨a, ⟨b, d⟩ | ⟨b, d⟩⟩ | ⟨a, ⟨b, d⟩ | ⟨b, d⟩ | ⟨b, d⟩⟩ | ⟨a, ⟨b, d⟩ | ⟨b, d⟩ | ⟨b, d⟩ | ⟨b, d⟩⟩ <;> subst a <;> subst b <;> subst d <;> first | exact absurd (by decide) c | exact ⟨by unfold rsB; decide, by decide⟩
theorem sh33 (x : Int64) : 0 ≤ ((x.toUInt64 >>> ((33 : Int32).toInt64.toUInt64 &&& Int64.toUInt64 63)).toInt64).toInt32.toInt := by
  have h1 : ((33 : Int32).toInt64.toUInt64 &&& Int64.toUInt64 63) = 33 := (by decide)
  rw [h1]
  have h2 : ((x.toUInt64 >>> 33).toInt64).toInt32.toBitVec.toNat = x.toUInt64.toNat / 2 ^ 33 := by
    show (BitVec.signExtend 32 (x.toUInt64 >>> 33).toBitVec).toNat = _
    rw [BitVec.signExtend_eq_setWidth_of_le _ (by decide), BitVec.toNat_setWidth]
    have h3 : (x.toUInt64 >>> 33).toBitVec.toNat = x.toUInt64.toNat / 2 ^ 33 := by
      rw [UInt64.toNat_toBitVec, UInt64.toNat_shiftRight]
      simp [Nat.shiftRight_eq_div_pow]
    rw [h3]
    have h4 := UInt64.toNat_lt x.toUInt64
    exact Nat.mod_eq_of_lt (by omega)
  have h5 := UInt64.toNat_lt x.toUInt64
  show 0 ≤ (((x.toUInt64 >>> 33).toInt64).toInt32.toBitVec).toInt
  rw [BitVec.toInt_eq_toNat_of_lt (by rw [h2]; omega)]
  omega
theorem div_nn {x : Int32} (h : 0 ≤ x.toInt) : 0 ≤ (x / 4).toInt := by
  have e : (4 : Int32).toInt = 4 := (by decide)
  have q := i_hi x
  rw [Int32.toInt_div, e]
  have q2 : x.toInt.tdiv 4 ≤ x.toInt := Int.tdiv_le_self _ (by omega)
  have q3 : 0 ≤ x.toInt.tdiv 4 := Int.tdiv_nonneg (by omega) (by omega)
  rw [Int.bmod_eq_of_le (by simp; omega) (by simp; omega)]
  exact q3
theorem okM_n0 {r : gR} (h : okN r) (c : ¬ r 0 = 0) : okM r := by
  have e : (0 : Int32).toInt = 0 := (by decide)
  have c2 : ¬ (r 0).toInt = 0 := fun q => c (i_eq.mpr (q.trans e.symm))
  exact ⟨by have := h.1; omega, h.2⟩

def f_X6_movesTo_L42 (sz : Int32) (ac : Int32) (sp : Int32) (ou : Int32) (tx : Nat → Int32) (nw : gR) (tr : gR) (dy : Nat → Int32) (kp : Nat → Int32) (ik : Nat → Int32) (p0 : Int32) : Nat → Int32 → Int32 → Int32 → Int32 → Int32 × Int32 × Int32 × Int32 × Int32 × Int32 × (Nat → Int32) × gR × gR × (Nat → Int32) × (Nat → Int32) × (Nat → Int32)
  | 0, _, _, _, rf_ => (0, rf_, sz, ac, sp, ou, tx, nw, tr, dy, kp, ik)
  | n + 1, x2, x3, x4, rf_ =>
    gLet (f_X6_placeWith nw p0 x2 x3) (fun (v2 : Int32) =>
    gLet (f_X6_placeOf nw p0) (fun (v4 : Int32) =>
      if v2 = v4 then
        if x3 ≤ 0 then
          gLet ((x2 + 1) - (x2 + 1) / (nw 0) * (nw 0)) (fun (v7 : Int32) =>
            f_X6_movesTo_L42 sz ac sp ou tx nw tr dy kp ik p0 n v7 (nw 0) (x4 + 1) rf_)
        else
          f_X6_movesTo_L42 sz ac sp ou tx nw tr dy kp ik p0 n x2 (x3 - 1) (x4 + 1) rf_
      else
        (x4, rf_, sz, ac, sp, ou, tx, nw, tr, dy, kp, ik)))
theorem f_X6_movesTo_L42_s (sz : Int32) (ac : Int32) (sp : Int32) (ou : Int32) (tx : Nat → Int32) (nw : gR) (tr : gR) (dy : Nat → Int32) (kp : Nat → Int32) (ik : Nat → Int32) (p0 : Int32) (n : Nat) (x2 : Int32) (x3 : Int32) (x4 : Int32) (rf_ : Int32) : f_X6_movesTo_L42 sz ac sp ou tx nw tr dy kp ik p0 (n + 1) x2 x3 x4 rf_ =
    (gLet (f_X6_placeWith nw p0 x2 x3) (fun (v2 : Int32) =>
    gLet (f_X6_placeOf nw p0) (fun (v4 : Int32) =>
      if v2 = v4 then
        if x3 ≤ 0 then
          gLet ((x2 + 1) - (x2 + 1) / (nw 0) * (nw 0)) (fun (v7 : Int32) =>
            f_X6_movesTo_L42 sz ac sp ou tx nw tr dy kp ik p0 n v7 (nw 0) (x4 + 1) rf_)
        else
          f_X6_movesTo_L42 sz ac sp ou tx nw tr dy kp ik p0 n x2 (x3 - 1) (x4 + 1) rf_
      else
        (x4, rf_, sz, ac, sp, ou, tx, nw, tr, dy, kp, ik)))) := rfl
def f_X6_movesTo (rf : Int32) (sz : Int32) (ac : Int32) (sp : Int32) (ou : Int32) (tx : Nat → Int32) (nw : gR) (tr : gR) (dy : Nat → Int32) (kp : Nat → Int32) (ik : Nat → Int32) (p0 : Int32) : Int32 × Int32 × Int32 × Int32 × Int32 × Int32 × (Nat → Int32) × gR × gR × (Nat → Int32) × (Nat → Int32) × (Nat → Int32) :=
    gLet (f_X6_isLine nw p0) (fun (v11 : Int32) =>
    if v11 = 0 then
      (0, 1, sz, ac, sp, ou, tx, nw, tr, dy, kp, ik)
    else
      f_X6_movesTo_L42 sz ac sp ou tx nw tr dy kp ik p0 (mvK nw p0 - nN (0 : Int32) + 1) (nw 2) (nw 3) 0 0)
theorem f_X6_movesTo_s (rf : Int32) (sz : Int32) (ac : Int32) (sp : Int32) (ou : Int32) (tx : Nat → Int32) (nw : gR) (tr : gR) (dy : Nat → Int32) (kp : Nat → Int32) (ik : Nat → Int32) (p0 : Int32) : f_X6_movesTo rf sz ac sp ou tx nw tr dy kp ik p0 =
    (gLet (f_X6_isLine nw p0) (fun (v11 : Int32) =>
    if v11 = 0 then
      (0, 1, sz, ac, sp, ou, tx, nw, tr, dy, kp, ik)
    else
      f_X6_movesTo_L42 sz ac sp ou tx nw tr dy kp ik p0 (mvK nw p0 - nN (0 : Int32) + 1) (nw 2) (nw 3) 0 0)) := rfl
theorem hd_X6_movesTo : yX6_movesTo.cls = RX6 ∧ yX6_movesTo.cls ≠ "java/lang/invoke/MethodHandle" ∧ yX6_movesTo.cls ≠ "java/lang/invoke/VarHandle" ∧ (parseMethodDescriptor yX6_movesTo.desc).map (fun d => d.parameters.length) = some 1 := by decide +kernel
set_option maxHeartbeats 4000000 in
set_option maxRecDepth 100000 in
theorem c_X6_movesTo (l : Launch) (D : va_G) (y : Nat → ClassId) (a0 a1 a2 a3 a4 a5 a6 : Nat) (zh : Nat) (rf : Int32) (sz : Int32) (ac : Int32) (sp : Int32) (ou : Int32) (tx : Nat → Int32) (nw : gR) (tr : gR) (dy : Nat → Int32) (kp : Nat → Int32) (ik : Nat → Int32) (p0 : Int32) (hm : okMd sz ac nw) (hg : okG nw) : Met l yX6_movesTo wsX6_movesTo ({ frames := 2, cells := 0, slots := 0, locals := 46 }) (gP D y [.ref a0, .int p0] zh [(a0, .inr (5, [.int rf, .ref a1, .int sz, .ref a2, .ref a3, .ref a4, .int ac, .ref a5, .ref a6, .int sp, .int ou])), (a1, .inl (y 0, 120, .inl tx)), (a2, .inl (y 0, 78, .inl nw)), (a3, .inl (y 0, 78, .inl tr)), (a4, .inl (y 0, 1092, .inl dy)), (a5, .inl (y 0, 156, .inl kp)), (a6, .inl (y 2, 2, .inl ik))]) (va_Qi (fun (v : Int32) (u : Int32 × Int32 × Int32 × Int32 × Int32 × (Nat → Int32) × gR × gR × (Nat → Int32) × (Nat → Int32) × (Nat → Int32)) => f_X6_movesTo rf sz ac sp ou tx nw tr dy kp ik p0 = (v, u)) (fun (u : Int32 × Int32 × Int32 × Int32 × Int32 × (Nat → Int32) × gR × gR × (Nat → Int32) × (Nat → Int32) × (Nat → Int32)) t => va_P D vwCl [(a0, .inr (5, [.int u.1, .ref a1, .int u.2.1, .ref a2, .ref a3, .ref a4, .int u.2.2.1, .ref a5, .ref a6, .int u.2.2.2.1, .int u.2.2.2.2.1])), (a1, .inl (y 0, 120, .inl u.2.2.2.2.2.1)), (a2, .inl (y 0, 78, .inl u.2.2.2.2.2.2.1)), (a3, .inl (y 0, 78, .inl u.2.2.2.2.2.2.2.1)), (a4, .inl (y 0, 1092, .inl u.2.2.2.2.2.2.2.2.1)), (a5, .inl (y 0, 156, .inl u.2.2.2.2.2.2.2.2.2.1)), (a6, .inl (y 2, 2, .inl u.2.2.2.2.2.2.2.2.2.2))] t.heap ∧ va_D (va_A [(a0, .inr (5, [.int rf, .ref a1, .int sz, .ref a2, .ref a3, .ref a4, .int ac, .ref a5, .ref a6, .int sp, .int ou])), (a1, .inl (y 0, 120, .inl tx)), (a2, .inl (y 0, 78, .inl nw)), (a3, .inl (y 0, 78, .inl tr)), (a4, .inl (y 0, 1092, .inl dy)), (a5, .inl (y 0, 156, .inl kp)), (a6, .inl (y 2, 2, .inl ik))] zh) [(a0, .inr (5, [.int u.1, .ref a1, .int u.2.1, .ref a2, .ref a3, .ref a4, .int u.2.2.1, .ref a5, .ref a6, .int u.2.2.2.1, .int u.2.2.2.2.1])), (a1, .inl (y 0, 120, .inl u.2.2.2.2.2.1)), (a2, .inl (y 0, 78, .inl u.2.2.2.2.2.2.1)), (a3, .inl (y 0, 78, .inl u.2.2.2.2.2.2.2.1)), (a4, .inl (y 0, 1092, .inl u.2.2.2.2.2.2.2.2.1)), (a5, .inl (y 0, 156, .inl u.2.2.2.2.2.2.2.2.2.1)), (a6, .inl (y 2, 2, .inl u.2.2.2.2.2.2.2.2.2.2))]) (va_A [(a0, .inr (5, [.int rf, .ref a1, .int sz, .ref a2, .ref a3, .ref a4, .int ac, .ref a5, .ref a6, .int sp, .int ou])), (a1, .inl (y 0, 120, .inl tx)), (a2, .inl (y 0, 78, .inl nw)), (a3, .inl (y 0, 78, .inl tr)), (a4, .inl (y 0, 1092, .inl dy)), (a5, .inl (y 0, 156, .inl kp)), (a6, .inl (y 2, 2, .inl ik))] zh)) 0 0 (va_A [(a0, .inr (5, [.int rf, .ref a1, .int sz, .ref a2, .ref a3, .ref a4, .int ac, .ref a5, .ref a6, .int sp, .int ou])), (a1, .inl (y 0, 120, .inl tx)), (a2, .inl (y 0, 78, .inl nw)), (a3, .inl (y 0, 78, .inl tr)), (a4, .inl (y 0, 1092, .inl dy)), (a5, .inl (y 0, 156, .inl kp)), (a6, .inl (y 2, 2, .inl ik))] zh) := by
  refine Met.ofW (cc := cX6_movesTo) (maxL := 5) (ret := (some .int)) (by decide) rfl ?_
  intro p e s m args below meth c s₁ B hml hv
  obtain ⟨rfl, hsz, hP, hE, hD⟩ := hv
  have hx := B.exec
  have hb := B.bytes
  have hr := B.returns
  have hts := atoms_spec (ws := wsX6_movesTo) B.pre
  have hown : s.vm.findClass RX6 = some m.cls := findClass_of_methodNamed B.named
  have hlocks := B.notSynchronized
  have w_0 := hts (.fieldLink RX6 13 "GapLinesModel" "now" "[I") (List.mem_cons_of_mem _ (List.mem_append_left _ (List.mem_of_getElem? (i := 0) rfl)))
  have hi6 : ∀ w ∈ u_ws RX6 TX6 11, w ∈ wsX6_movesTo := fun w h => (List.mem_cons_of_mem _ (List.mem_append_right _ h))
  subst hsz
  have hD := hD.self (sz := s.heap.size)
  generalize hAe : va_A [(a0, .inr (5, [.int rf, .ref a1, .int sz, .ref a2, .ref a3, .ref a4, .int ac, .ref a5, .ref a6, .int sp, .int ou])), (a1, .inl (y 0, 120, .inl tx)), (a2, .inl (y 0, 78, .inl nw)), (a3, .inl (y 0, 78, .inl tr)), (a4, .inl (y 0, 1092, .inl dy)), (a5, .inl (y 0, 156, .inl kp)), (a6, .inl (y 2, 2, .inl ik))] s.heap.size = A at hD ⊢
  have hA : ∀ q : Nat, s.heap.size ≤ q → A q := fun q h => by rw [← hAe]; exact Or.inr h
  have hS : va_S A s.heap s.heap [] := va_S.rf
  have hl := lv_entry ([.ref a0, .int p0]) (n := 5) (Nat.le_of_ble_eq_true rfl)
  rw [lg_entry_eq]
  generalize (lg_sl ([.ref a0, .int p0]) ++ List.replicate (5 - (lg_sl ([.ref a0, .int p0])).length) Slot.unset).toArray = ls at hl ⊢
  have hl : lv_has ls 5 [(0, .ref a0), (1, .int p0)] := hl
  have loop_42 : ∀ (n : Nat) (x2 : Int32) (x3 : Int32) (x4 : Int32) (rf_ : Int32) (ol : okL nw p0) (hmv : mvI nw p0 x2 x3 x4), mvK nw p0 - nN x4 < n → f_X6_movesTo rf sz ac sp ou tx nw tr dy kp ik p0 = f_X6_movesTo_L42 sz ac sp ou tx nw tr dy kp ik p0 n x2 x3 x4 rf_ → ∀ (H : Heap) (locs : List Loc), va_P D vwCl [(a0, .inr (5, [.int rf_, .ref a1, .int sz, .ref a2, .ref a3, .ref a4, .int ac, .ref a5, .ref a6, .int sp, .int ou])), (a1, .inl (y 0, 120, .inl tx)), (a2, .inl (y 0, 78, .inl nw)), (a3, .inl (y 0, 78, .inl tr)), (a4, .inl (y 0, 1092, .inl dy)), (a5, .inl (y 0, 156, .inl kp)), (a6, .inl (y 2, 2, .inl ik))] H → va_D A [(a0, .inr (5, [.int rf_, .ref a1, .int sz, .ref a2, .ref a3, .ref a4, .int ac, .ref a5, .ref a6, .int sp, .int ou])), (a1, .inl (y 0, 120, .inl tx)), (a2, .inl (y 0, 78, .inl nw)), (a3, .inl (y 0, 78, .inl tr)), (a4, .inl (y 0, 1092, .inl dy)), (a5, .inl (y 0, 156, .inl kp)), (a6, .inl (y 2, 2, .inl ik))] → va_S A s.heap H locs → ∀ (ls : Array Slot), lv_has ls 5 [(0, .ref a0), (1, .int p0), (2, .int x2), (3, .int x3), (4, .int x4)] → W p l e (headSpec wsX6_movesTo ({ frames := 2, cells := 0, slots := 0, locals := 46 })).room s m ([.ref a0, .int p0] : List Value).toArray below meth c H locs 0 0 (MQ below (va_Qi (fun (v : Int32) (u : Int32 × Int32 × Int32 × Int32 × Int32 × (Nat → Int32) × gR × gR × (Nat → Int32) × (Nat → Int32) × (Nat → Int32)) => f_X6_movesTo rf sz ac sp ou tx nw tr dy kp ik p0 = (v, u)) (fun (u : Int32 × Int32 × Int32 × Int32 × Int32 × (Nat → Int32) × gR × gR × (Nat → Int32) × (Nat → Int32) × (Nat → Int32)) t => va_P D vwCl [(a0, .inr (5, [.int u.1, .ref a1, .int u.2.1, .ref a2, .ref a3, .ref a4, .int u.2.2.1, .ref a5, .ref a6, .int u.2.2.2.1, .int u.2.2.2.2.1])), (a1, .inl (y 0, 120, .inl u.2.2.2.2.2.1)), (a2, .inl (y 0, 78, .inl u.2.2.2.2.2.2.1)), (a3, .inl (y 0, 78, .inl u.2.2.2.2.2.2.2.1)), (a4, .inl (y 0, 1092, .inl u.2.2.2.2.2.2.2.2.1)), (a5, .inl (y 0, 156, .inl u.2.2.2.2.2.2.2.2.2.1)), (a6, .inl (y 2, 2, .inl u.2.2.2.2.2.2.2.2.2.2))] t.heap ∧ va_D (A) [(a0, .inr (5, [.int u.1, .ref a1, .int u.2.1, .ref a2, .ref a3, .ref a4, .int u.2.2.1, .ref a5, .ref a6, .int u.2.2.2.1, .int u.2.2.2.2.1])), (a1, .inl (y 0, 120, .inl u.2.2.2.2.2.1)), (a2, .inl (y 0, 78, .inl u.2.2.2.2.2.2.1)), (a3, .inl (y 0, 78, .inl u.2.2.2.2.2.2.2.1)), (a4, .inl (y 0, 1092, .inl u.2.2.2.2.2.2.2.2.1)), (a5, .inl (y 0, 156, .inl u.2.2.2.2.2.2.2.2.2.1)), (a6, .inl (y 2, 2, .inl u.2.2.2.2.2.2.2.2.2.2))]) A) ([.ref a0, .int p0] : List Value).toArray s 0 0 A) (F0 m 42 ls []) := by
    intro n
    induction n with
    | zero =>
      intro x2 x3 x4 rf_ ol hmv hμ
      exact absurd hμ (Nat.not_lt_zero _)
    | succ n ih =>
      intro x2 x3 x4 rf_ ol hmv hμ hF H locs hP hD hS ls hl
      have hF := hF.trans (f_X6_movesTo_L42_s sz ac sp ou tx nw tr dy kp ik p0 n x2 x3 x4 rf_)
      refine lv_aload_n hx hb dX6_movesTo_42 rfl (lv_at hl 0 rfl) ?_
      refine va_get (D := D) (ci := 5) (v := .ref a2) (C := RX6) (T := TX6) (N := 11) hx hb hts hi6 hown hE.1 hP 0 rfl rfl 3 (by decide) w_0 (fun _ h9 => h9) rfl dX6_movesTo_43 ?_
      refine lv_iload_n hx hb dX6_movesTo_46 rfl (lv_at hl 1 rfl) ?_
      refine lv_iload_n hx hb dX6_movesTo_47 rfl (lv_at hl 2 rfl) ?_
      refine lv_iload_n hx hb dX6_movesTo_48 rfl (lv_at hl 3 rfl) ?_
      refine xs_calli (va_runS (As := [.ref a2, .int p0, .int x2, .int x3]) (rest := []) ⟨hx, hb, hml, hown, hts⟩ (c_X6_placeWith l D y a2 H.size nw p0 x2 x3 (okM_ne (okM_of hm.2.2 ol))) (va_cwS 4 hts gX6_movesTo_X6_placeWith rfl rfl rfl hd_X6_placeWith ⟨Nat.le_of_ble_eq_true rfl, Nat.le_of_ble_eq_true rfl⟩) (gS hE (hP.sub [2] rfl) (hD.sub [2] (by decide) rfl)) rfl rfl hl.1 rfl (lv_room (Nat.le_of_ble_eq_true rfl)) dX6_movesTo_49 ⟨Nat.le_of_ble_eq_true rfl, Nat.le_of_ble_eq_true rfl⟩) (fun v2 h1 => ?_)
      have hF := hF.trans (gLet_e h1)
      refine lv_aload_n hx hb dX6_movesTo_52 rfl (lv_at hl 0 rfl) ?_
      refine va_get (D := D) (ci := 5) (v := .ref a2) (C := RX6) (T := TX6) (N := 11) hx hb hts hi6 hown hE.1 hP 0 rfl rfl 3 (by decide) w_0 (fun _ h9 => h9) rfl dX6_movesTo_53 ?_
      refine lv_iload_n hx hb dX6_movesTo_56 rfl (lv_at hl 1 rfl) ?_
      refine xs_calli (va_runS (As := [.ref a2, .int p0]) (rest := [.int v2]) ⟨hx, hb, hml, hown, hts⟩ (c_X6_placeOf l D y a2 H.size nw p0 (okM_ne (okM_of hm.2.2 ol))) (va_cwS 2 hts gX6_movesTo_X6_placeOf rfl rfl rfl hd_X6_placeOf ⟨Nat.le_of_ble_eq_true rfl, Nat.le_of_ble_eq_true rfl⟩) (gS hE (hP.sub [2] rfl) (hD.sub [2] (by decide) rfl)) rfl rfl hl.1 rfl (lv_room (Nat.le_of_ble_eq_true rfl)) dX6_movesTo_57 ⟨Nat.le_of_ble_eq_true rfl, Nat.le_of_ble_eq_true rfl⟩) (fun v4 h3 => ?_)
      have hF := hF.trans (gLet_e h3)
      refine lv_icmp_ne (tgt := 105) hx hb dX6_movesTo_60 (by decide) (fun c_5 => ?_) (fun c_5 => ?_)
      · have hF := hF.trans (if_neg c_5)
        refine lv_iload hx hb dX6_movesTo_105 (lv_at hl 4 rfl) ?_
        exact W.iret (v := x4) hx hb hr (fun t ht hW => ⟨⟨x4, ⟨rf_, sz, ac, sp, ou, tx, nw, tr, dy, kp, ik⟩, rfl, hF, ⟨by rw [ht]; exact hP, hD⟩⟩, hS.F ht⟩) hS.2.2 dX6_movesTo_107
      · have hF := hF.trans (if_pos c_5)
        refine lv_iload_n hx hb dX6_movesTo_63 rfl (lv_at hl 3 rfl) ?_
        refine lv_if_le (tgt := 71) hx hb dX6_movesTo_64 (by decide) (fun c_6 => ?_) (fun c_6 => ?_)
        · have hF := hF.trans (if_pos c_6)
          refine lv_iload_n hx hb dX6_movesTo_71 rfl (lv_at hl 2 rfl) ?_
          refine lv_iconst (v := 1) hx hb dX6_movesTo_72 (by decide) ?_
          refine lv_iadd hx hb dX6_movesTo_73 ?_
          refine lv_aload_n hx hb dX6_movesTo_74 rfl (lv_at hl 0 rfl) ?_
          refine va_get (D := D) (ci := 5) (v := .ref a2) (C := RX6) (T := TX6) (N := 11) hx hb hts hi6 hown hE.1 hP 0 rfl rfl 3 (by decide) w_0 (fun _ h9 => h9) rfl dX6_movesTo_75 ?_
          refine lv_iconst (v := 0) hx hb dX6_movesTo_78 (by decide) ?_
          refine xa_iald (k := 0) (v := nw 0) hx hb hE.1 hP 2 0 rfl rfl (xin (by decide)) rfl rfl dX6_movesTo_79 ?_
          refine lv_irem hx hb dX6_movesTo_80 (okM_ne (okM_of hm.2.2 ol)) ?_
          obtain ⟨v7, ev7⟩ : ∃ z : Int32, (x2 + 1) - (x2 + 1) / (nw 0) * (nw 0) = z := ⟨_, rfl⟩
          rw [ev7]
          have hF := hF.trans (gLet_e ev7)
          refine lv_istore_n (lv' := [(2, .int v7), (0, .ref a0), (1, .int p0), (3, .int x3), (4, .int x4)]) hx hb dX6_movesTo_81 rfl hl (by decide) rfl (fun ls hl => ?_)
          refine lv_iload_n hx hb dX6_movesTo_82 rfl (lv_at hl 3 rfl) ?_
          refine lv_if_le (tgt := 92) hx hb dX6_movesTo_83 (by decide) (fun c_8 => ?_) (fun c_8 => absurd c_6 c_8)
          refine lv_aload_n hx hb dX6_movesTo_92 rfl (lv_at hl 1 rfl) ?_
          refine va_get (D := D) (ci := 5) (v := .ref a2) (C := RX6) (T := TX6) (N := 11) hx hb hts hi6 hown hE.1 hP 0 rfl rfl 3 (by decide) w_0 (fun _ h9 => h9) rfl dX6_movesTo_93 ?_
          refine lv_iconst (v := 0) hx hb dX6_movesTo_96 (by decide) ?_
          refine xa_iald (k := 0) (v := nw 0) hx hb hE.1 hP 2 0 rfl rfl (xin (by decide)) rfl rfl dX6_movesTo_97 ?_
          refine lv_istore_n (lv' := [(3, .int (nw 0)), (2, .int v7), (0, .ref a0), (1, .int p0), (4, .int x4)]) hx hb dX6_movesTo_98 rfl hl (by decide) rfl (fun ls hl => ?_)
          refine lv_iinc (v := (x4 + 1)) (lv' := [(4, .int (x4 + 1)), (3, .int (nw 0)), (2, .int v7), (0, .ref a0), (1, .int p0)]) hx hb dX6_movesTo_99 hl (k := 4) rfl rfl (by decide) rfl (fun ls hl => ?_)
          refine lv_goto (tgt := 42) hx hb dX6_movesTo_102 (by decide) ?_
          exact ih v7 (nw 0) (x4 + 1) rf_ (ol) (mv_S0 hg ol hmv h1 h3 (by assumption) (by assumption) ev7) (mv_dec hg ol hmv h1 h3 (by assumption) hμ) hF _ _ hP hD hS ls (lv_sub hl [3, 4, 2, 1, 0] rfl)
        · have hF := hF.trans (if_neg c_6)
          refine lv_iload_n hx hb dX6_movesTo_67 rfl (lv_at hl 2 rfl) ?_
          refine lv_goto (tgt := 81) hx hb dX6_movesTo_68 (by decide) ?_
          refine lv_istore_n (lv' := [(2, .int x2), (0, .ref a0), (1, .int p0), (3, .int x3), (4, .int x4)]) hx hb dX6_movesTo_81 rfl hl (by decide) rfl (fun ls hl => ?_)
          refine lv_iload_n hx hb dX6_movesTo_82 rfl (lv_at hl 3 rfl) ?_
          refine lv_if_le (tgt := 92) hx hb dX6_movesTo_83 (by decide) (fun c_9 => absurd c_9 c_6) (fun c_9 => ?_)
          refine lv_iload_n hx hb dX6_movesTo_86 rfl (lv_at hl 3 rfl) ?_
          refine lv_iconst (v := 1) hx hb dX6_movesTo_87 (by decide) ?_
          refine lv_isub hx hb dX6_movesTo_88 ?_
          refine lv_goto (tgt := 98) hx hb dX6_movesTo_89 (by decide) ?_
          refine lv_istore_n (lv' := [(3, .int (x3 - 1)), (2, .int x2), (0, .ref a0), (1, .int p0), (4, .int x4)]) hx hb dX6_movesTo_98 rfl hl (by decide) rfl (fun ls hl => ?_)
          refine lv_iinc (v := (x4 + 1)) (lv' := [(4, .int (x4 + 1)), (3, .int (x3 - 1)), (2, .int x2), (0, .ref a0), (1, .int p0)]) hx hb dX6_movesTo_99 hl (k := 4) rfl rfl (by decide) rfl (fun ls hl => ?_)
          refine lv_goto (tgt := 42) hx hb dX6_movesTo_102 (by decide) ?_
          exact ih x2 (x3 - 1) (x4 + 1) rf_ (ol) (mv_S1 hg ol hmv h1 h3 (by assumption) (by assumption)) (mv_dec hg ol hmv h1 h3 (by assumption) hμ) hF _ _ hP hD hS ls (lv_sub hl [3, 4, 2, 1, 0] rfl)
  have hF := f_X6_movesTo_s rf sz ac sp ou tx nw tr dy kp ik p0
  refine lv_aload_n hx hb dX6_movesTo_0 rfl (lv_at hl 0 rfl) ?_
  refine lv_aload_n hx hb dX6_movesTo_1 rfl (lv_at hl 0 rfl) ?_
  refine va_get (D := D) (ci := 5) (v := .ref a2) (C := RX6) (T := TX6) (N := 11) hx hb hts hi6 hown hE.1 hP 0 rfl rfl 3 (by decide) w_0 (fun _ h9 => h9) rfl dX6_movesTo_2 ?_
  refine lv_iload_n hx hb dX6_movesTo_5 rfl (lv_at hl 1 rfl) ?_
  refine xs_calli (va_runS (As := [.ref a2, .int p0]) (rest := [.ref a0]) ⟨hx, hb, hml, hown, hts⟩ (c_X6_isLine l D y a2 s.heap.size nw p0) (va_cwS 2 hts gX6_movesTo_X6_isLine rfl rfl rfl hd_X6_isLine ⟨Nat.le_of_ble_eq_true rfl, Nat.le_of_ble_eq_true rfl⟩) (gS hE (hP.sub [2] rfl) (hD.sub [2] (by decide) rfl)) rfl rfl hl.1 rfl (lv_room (Nat.le_of_ble_eq_true rfl)) dX6_movesTo_6 ⟨Nat.le_of_ble_eq_true rfl, Nat.le_of_ble_eq_true rfl⟩) (fun v11 h10 => ?_)
  have hF := hF.trans (gLet_e h10)
  refine lv_if_eq (tgt := 16) hx hb dX6_movesTo_9 (by decide) (fun c_12 => ?_) (fun c_12 => ?_)
  · have hF := hF.trans (if_pos c_12)
    refine lv_iconst (v := 1) hx hb dX6_movesTo_16 (by decide) ?_
    refine xw_calli (va_runV (As := [.int 1]) (rest := []) ⟨hx, hb, hml, hown, hts⟩ (c_X6_refused l D y a0 a1 a2 a3 a4 a5 a6 s.heap.size rf sz ac sp ou 1) (cwV 1 hts gX6_movesTo_X6_refused rfl rfl rfl hd_X6_refused ⟨Nat.le_of_ble_eq_true rfl, Nat.le_of_ble_eq_true rfl⟩) (gV (q := (RX6, TX6, 11)) hE (hP.sub [0] rfl) (hD.sub [0] (by decide) rfl) 0 rfl rfl) rfl rfl hl.1 rfl (lv_room (Nat.le_of_ble_eq_true rfl)) dX6_movesTo_17 ⟨Nat.le_of_ble_eq_true rfl, Nat.le_of_ble_eq_true rfl⟩) hP hD hS hA [0] rfl (by decide) (fun _ => rfl) (fun v15 u14 H locs h13 hP hD hS => ?_)
    have h13 := (rfd1 rf sz ac sp ou).symm.trans h13
    obtain ⟨rfl, rfl⟩ := Prod.mk.inj h13
    have hP : va_P D vwCl [(a0, .inr (5, [.int 1, .ref a1, .int sz, .ref a2, .ref a3, .ref a4, .int ac, .ref a5, .ref a6, .int sp, .int ou])), (a1, .inl (y 0, 120, .inl tx)), (a2, .inl (y 0, 78, .inl nw)), (a3, .inl (y 0, 78, .inl tr)), (a4, .inl (y 0, 1092, .inl dy)), (a5, .inl (y 0, 156, .inl kp)), (a6, .inl (y 2, 2, .inl ik))] H := hP
    have hD : va_D A [(a0, .inr (5, [.int 1, .ref a1, .int sz, .ref a2, .ref a3, .ref a4, .int ac, .ref a5, .ref a6, .int sp, .int ou])), (a1, .inl (y 0, 120, .inl tx)), (a2, .inl (y 0, 78, .inl nw)), (a3, .inl (y 0, 78, .inl tr)), (a4, .inl (y 0, 1092, .inl dy)), (a5, .inl (y 0, 156, .inl kp)), (a6, .inl (y 2, 2, .inl ik))] := hD
    refine lv_if_eq (tgt := 25) hx hb dX6_movesTo_20 (by decide) (fun c_16 => absurd c_16 (by decide)) (fun c_16 => ?_)
    refine lv_iconst (v := 0) hx hb dX6_movesTo_23 (by decide) ?_
    exact W.iret (v := 0) hx hb hr (fun t ht hW => ⟨⟨0, ⟨1, sz, ac, sp, ou, tx, nw, tr, dy, kp, ik⟩, rfl, hF, ⟨by rw [ht]; exact hP, hD⟩⟩, hS.F ht⟩) hS.2.2 dX6_movesTo_24
  · have hF := hF.trans (if_neg c_12)
    refine lv_iconst (v := 0) hx hb dX6_movesTo_12 (by decide) ?_
    refine lv_goto (tgt := 17) hx hb dX6_movesTo_13 (by decide) ?_
    refine xw_calli (va_runV (As := [.int 0]) (rest := []) ⟨hx, hb, hml, hown, hts⟩ (c_X6_refused l D y a0 a1 a2 a3 a4 a5 a6 s.heap.size rf sz ac sp ou 0) (cwV 1 hts gX6_movesTo_X6_refused rfl rfl rfl hd_X6_refused ⟨Nat.le_of_ble_eq_true rfl, Nat.le_of_ble_eq_true rfl⟩) (gV (q := (RX6, TX6, 11)) hE (hP.sub [0] rfl) (hD.sub [0] (by decide) rfl) 0 rfl rfl) rfl rfl hl.1 rfl (lv_room (Nat.le_of_ble_eq_true rfl)) dX6_movesTo_17 ⟨Nat.le_of_ble_eq_true rfl, Nat.le_of_ble_eq_true rfl⟩) hP hD hS hA [0] rfl (by decide) (fun _ => rfl) (fun v19 u18 H locs h17 hP hD hS => ?_)
    have h17 := (rfd0 rf sz ac sp ou).symm.trans h17
    obtain ⟨rfl, rfl⟩ := Prod.mk.inj h17
    have hP : va_P D vwCl [(a0, .inr (5, [.int 0, .ref a1, .int sz, .ref a2, .ref a3, .ref a4, .int ac, .ref a5, .ref a6, .int sp, .int ou])), (a1, .inl (y 0, 120, .inl tx)), (a2, .inl (y 0, 78, .inl nw)), (a3, .inl (y 0, 78, .inl tr)), (a4, .inl (y 0, 1092, .inl dy)), (a5, .inl (y 0, 156, .inl kp)), (a6, .inl (y 2, 2, .inl ik))] H := hP
    have hD : va_D A [(a0, .inr (5, [.int 0, .ref a1, .int sz, .ref a2, .ref a3, .ref a4, .int ac, .ref a5, .ref a6, .int sp, .int ou])), (a1, .inl (y 0, 120, .inl tx)), (a2, .inl (y 0, 78, .inl nw)), (a3, .inl (y 0, 78, .inl tr)), (a4, .inl (y 0, 1092, .inl dy)), (a5, .inl (y 0, 156, .inl kp)), (a6, .inl (y 2, 2, .inl ik))] := hD
    refine lv_if_eq (tgt := 25) hx hb dX6_movesTo_20 (by decide) (fun c_20 => ?_) (fun c_20 => absurd (by decide) c_20)
    refine lv_aload_n hx hb dX6_movesTo_25 rfl (lv_at hl 0 rfl) ?_
    refine va_get (D := D) (ci := 5) (v := .ref a2) (C := RX6) (T := TX6) (N := 11) hx hb hts hi6 hown hE.1 hP 0 rfl rfl 3 (by decide) w_0 (fun _ h9 => h9) rfl dX6_movesTo_26 ?_
    refine lv_iconst (v := 2) hx hb dX6_movesTo_29 (by decide) ?_
    refine xa_iald (k := 2) (v := nw 2) hx hb hE.1 hP 2 0 rfl rfl (xin (by decide)) rfl rfl dX6_movesTo_30 ?_
    refine lv_istore_n (lv' := [(2, .int (nw 2)), (0, .ref a0), (1, .int p0)]) hx hb dX6_movesTo_31 rfl hl (by decide) rfl (fun ls hl => ?_)
    refine lv_aload_n hx hb dX6_movesTo_32 rfl (lv_at hl 1 rfl) ?_
    refine va_get (D := D) (ci := 5) (v := .ref a2) (C := RX6) (T := TX6) (N := 11) hx hb hts hi6 hown hE.1 hP 0 rfl rfl 3 (by decide) w_0 (fun _ h9 => h9) rfl dX6_movesTo_33 ?_
    refine lv_iconst (v := 3) hx hb dX6_movesTo_36 (by decide) ?_
    refine xa_iald (k := 3) (v := nw 3) hx hb hE.1 hP 2 0 rfl rfl (xin (by decide)) rfl rfl dX6_movesTo_37 ?_
    refine lv_istore_n (lv' := [(3, .int (nw 3)), (2, .int (nw 2)), (0, .ref a0), (1, .int p0)]) hx hb dX6_movesTo_38 rfl hl (by decide) rfl (fun ls hl => ?_)
    refine lv_iconst (v := 0) hx hb dX6_movesTo_39 (by decide) ?_
    refine lv_istore (lv' := [(4, .int 0), (3, .int (nw 3)), (2, .int (nw 2)), (0, .ref a0), (1, .int p0)]) hx hb dX6_movesTo_40 hl (by decide) rfl (fun ls hl => ?_)
    exact loop_42 _ (nw 2) (nw 3) 0 0 ((il_okL (r := nw) (l := p0) h10 (by assumption) hm.2.2.1)) (mv_0 hg (il_okL (r := nw) (l := p0) h10 (by assumption) hm.2.2.1)) (Nat.lt_succ_self _) hF _ _ hP hD hS ls (lv_sub hl [3, 4, 2, 1, 0] rfl)

def f_X6_runScript_L86 (sz : Int32) (ac : Int32) (sp : Int32) (ou : Int32) (tx : Nat → Int32) (nw : gR) (dy : Nat → Int32) (kp : Nat → Int32) (ik : Nat → Int32) (p0 : Int32) (p1 : Int64) : Nat → Int64 → Int32 → Int32 → gR → Int32 × Int32 × Int32 × Int32 × Int32 × Int32 × (Nat → Int32) × gR × gR × (Nat → Int32) × (Nat → Int32) × (Nat → Int32)
  | 0, _, _, rf_, tr_ => (0, rf_, sz, ac, sp, ou, tx, nw, tr_, dy, kp, ik)
  | n + 1, x4, x6, rf_, tr_ =>
    if p0 ≤ x6 then
    ((-1), rf_, sz, ac, sp, ou, tx, nw, tr_, dy, kp, ik)
  else
    gLet ((p1 / (x4 / 1000000)) - (p1 / (x4 / 1000000)) / 1000000 * 1000000) (fun (v2 : Int64) =>
      gLet (v2.toInt32) (fun (v3 : Int32) =>
        gLet (v3 - v3 / 100000 * 100000) (fun (v4 : Int32) =>
          gLet (f_X6_command rf_ sz ac sp ou tr_ (v3 / 100000) v4) (fun (q8 : Int32 × gR) =>
            if q8.1 = 0 then
              (x6, rf_, sz, ac, sp, ou, tx, nw, q8.2, dy, kp, ik)
            else
              f_X6_runScript_L86 sz ac sp ou tx nw dy kp ik p0 p1 n (x4 / 1000000) (x6 + 1) rf_ q8.2))))
theorem f_X6_runScript_L86_s (sz : Int32) (ac : Int32) (sp : Int32) (ou : Int32) (tx : Nat → Int32) (nw : gR) (dy : Nat → Int32) (kp : Nat → Int32) (ik : Nat → Int32) (p0 : Int32) (p1 : Int64) (n : Nat) (x4 : Int64) (x6 : Int32) (rf_ : Int32) (tr_ : gR) : f_X6_runScript_L86 sz ac sp ou tx nw dy kp ik p0 p1 (n + 1) x4 x6 rf_ tr_ =
    (if p0 ≤ x6 then
    ((-1), rf_, sz, ac, sp, ou, tx, nw, tr_, dy, kp, ik)
  else
    gLet ((p1 / (x4 / 1000000)) - (p1 / (x4 / 1000000)) / 1000000 * 1000000) (fun (v2 : Int64) =>
      gLet (v2.toInt32) (fun (v3 : Int32) =>
        gLet (v3 - v3 / 100000 * 100000) (fun (v4 : Int32) =>
          gLet (f_X6_command rf_ sz ac sp ou tr_ (v3 / 100000) v4) (fun (q8 : Int32 × gR) =>
            if q8.1 = 0 then
              (x6, rf_, sz, ac, sp, ou, tx, nw, q8.2, dy, kp, ik)
            else
              f_X6_runScript_L86 sz ac sp ou tx nw dy kp ik p0 p1 n (x4 / 1000000) (x6 + 1) rf_ q8.2))))) := rfl
def f_X6_runScript_L6 (rf : Int32) (sz : Int32) (ac : Int32) (sp : Int32) (ou : Int32) (tx : Nat → Int32) (nw : gR) (tr : gR) (dy : Nat → Int32) (kp : Nat → Int32) (ik : Nat → Int32) (p0 : Int32) (p1 : Int64) : Nat → Int64 → Int32 → Int32 × Int32 × Int32 × Int32 × Int32 × Int32 × (Nat → Int32) × gR × gR × (Nat → Int32) × (Nat → Int32) × (Nat → Int32)
  | 0, _, _ => (0, rf, sz, ac, sp, ou, tx, nw, tr, dy, kp, ik)
  | n + 1, x4, x6 =>
    if p0 ≤ x6 then
    gLet (f_X6_in p0.toInt64 1 3) (fun (v12 : Int32) =>
      if v12 = 0 then
        (0, 1, sz, ac, sp, ou, tx, nw, tr, dy, kp, ik)
      else
        gLet (f_X6_in p1 0 (x4 - 1)) (fun (v19 : Int32) =>
          if v19 = 0 then
            (0, 1, sz, ac, sp, ou, tx, nw, tr, dy, kp, ik)
          else
            gLet (f_X6_copyState 78 nw 78 tr 0 0) (fun (u30 : (Nat → Int32)) =>
              f_X6_runScript_L86 sz ac sp ou tx nw dy kp ik p0 p1 ((p0.toInt - (0 : Int32).toInt).toNat + 1) x4 0 0 u30)))
  else
    if 3 ≤ x6 then
      gLet (f_X6_in p0.toInt64 1 3) (fun (v33 : Int32) =>
        if v33 = 0 then
          (0, 1, sz, ac, sp, ou, tx, nw, tr, dy, kp, ik)
        else
          gLet (f_X6_in p1 0 (x4 - 1)) (fun (v40 : Int32) =>
            if v40 = 0 then
              (0, 1, sz, ac, sp, ou, tx, nw, tr, dy, kp, ik)
            else
              gLet (f_X6_copyState 78 nw 78 tr 0 0) (fun (u51 : (Nat → Int32)) =>
                f_X6_runScript_L86 sz ac sp ou tx nw dy kp ik p0 p1 ((p0.toInt - (0 : Int32).toInt).toNat + 1) x4 0 0 u51)))
    else
      f_X6_runScript_L6 rf sz ac sp ou tx nw tr dy kp ik p0 p1 n (x4 * 1000000) (x6 + 1)
theorem f_X6_runScript_L6_s (rf : Int32) (sz : Int32) (ac : Int32) (sp : Int32) (ou : Int32) (tx : Nat → Int32) (nw : gR) (tr : gR) (dy : Nat → Int32) (kp : Nat → Int32) (ik : Nat → Int32) (p0 : Int32) (p1 : Int64) (n : Nat) (x4 : Int64) (x6 : Int32) : f_X6_runScript_L6 rf sz ac sp ou tx nw tr dy kp ik p0 p1 (n + 1) x4 x6 =
    (if p0 ≤ x6 then
    gLet (f_X6_in p0.toInt64 1 3) (fun (v12 : Int32) =>
      if v12 = 0 then
        (0, 1, sz, ac, sp, ou, tx, nw, tr, dy, kp, ik)
      else
        gLet (f_X6_in p1 0 (x4 - 1)) (fun (v19 : Int32) =>
          if v19 = 0 then
            (0, 1, sz, ac, sp, ou, tx, nw, tr, dy, kp, ik)
          else
            gLet (f_X6_copyState 78 nw 78 tr 0 0) (fun (u30 : (Nat → Int32)) =>
              f_X6_runScript_L86 sz ac sp ou tx nw dy kp ik p0 p1 ((p0.toInt - (0 : Int32).toInt).toNat + 1) x4 0 0 u30)))
  else
    if 3 ≤ x6 then
      gLet (f_X6_in p0.toInt64 1 3) (fun (v33 : Int32) =>
        if v33 = 0 then
          (0, 1, sz, ac, sp, ou, tx, nw, tr, dy, kp, ik)
        else
          gLet (f_X6_in p1 0 (x4 - 1)) (fun (v40 : Int32) =>
            if v40 = 0 then
              (0, 1, sz, ac, sp, ou, tx, nw, tr, dy, kp, ik)
            else
              gLet (f_X6_copyState 78 nw 78 tr 0 0) (fun (u51 : (Nat → Int32)) =>
                f_X6_runScript_L86 sz ac sp ou tx nw dy kp ik p0 p1 ((p0.toInt - (0 : Int32).toInt).toNat + 1) x4 0 0 u51)))
    else
      f_X6_runScript_L6 rf sz ac sp ou tx nw tr dy kp ik p0 p1 n (x4 * 1000000) (x6 + 1)) := rfl
def f_X6_runScript (rf : Int32) (sz : Int32) (ac : Int32) (sp : Int32) (ou : Int32) (tx : Nat → Int32) (nw : gR) (tr : gR) (dy : Nat → Int32) (kp : Nat → Int32) (ik : Nat → Int32) (p0 : Int32) (p1 : Int64) : Int32 × Int32 × Int32 × Int32 × Int32 × Int32 × (Nat → Int32) × gR × gR × (Nat → Int32) × (Nat → Int32) × (Nat → Int32) :=
    f_X6_runScript_L6 rf sz ac sp ou tx nw tr dy kp ik p0 p1 ((p0.toInt - (0 : Int32).toInt).toNat + 1) 1 0
theorem f_X6_runScript_s (rf : Int32) (sz : Int32) (ac : Int32) (sp : Int32) (ou : Int32) (tx : Nat → Int32) (nw : gR) (tr : gR) (dy : Nat → Int32) (kp : Nat → Int32) (ik : Nat → Int32) (p0 : Int32) (p1 : Int64) : f_X6_runScript rf sz ac sp ou tx nw tr dy kp ik p0 p1 =
    (f_X6_runScript_L6 rf sz ac sp ou tx nw tr dy kp ik p0 p1 ((p0.toInt - (0 : Int32).toInt).toNat + 1) 1 0) := rfl
theorem hd_X6_runScript : yX6_runScript.cls = RX6 ∧ yX6_runScript.cls ≠ "java/lang/invoke/MethodHandle" ∧ yX6_runScript.cls ≠ "java/lang/invoke/VarHandle" ∧ (parseMethodDescriptor yX6_runScript.desc).map (fun d => d.parameters.length) = some 2 := by decide +kernel
set_option maxHeartbeats 4000000 in
set_option maxRecDepth 100000 in
theorem c_X6_runScript (l : Launch) (D : va_G) (y : Nat → ClassId) (a0 a1 a2 a3 a4 a5 a6 : Nat) (zh : Nat) (rf : Int32) (sz : Int32) (ac : Int32) (sp : Int32) (ou : Int32) (tx : Nat → Int32) (nw : gR) (tr : gR) (dy : Nat → Int32) (kp : Nat → Int32) (ik : Nat → Int32) (p0 : Int32) (p1 : Int64) (hm : okMd sz ac nw) : Met l yX6_runScript wsX6_runScript ({ frames := 5, cells := 0, slots := 0, locals := 116 }) (gP D y [.ref a0, .int p0, .long p1] zh [(a0, .inr (5, [.int rf, .ref a1, .int sz, .ref a2, .ref a3, .ref a4, .int ac, .ref a5, .ref a6, .int sp, .int ou])), (a1, .inl (y 0, 120, .inl tx)), (a2, .inl (y 0, 78, .inl nw)), (a3, .inl (y 0, 78, .inl tr)), (a4, .inl (y 0, 1092, .inl dy)), (a5, .inl (y 0, 156, .inl kp)), (a6, .inl (y 2, 2, .inl ik))]) (va_Qi (fun (v : Int32) (u : Int32 × Int32 × Int32 × Int32 × Int32 × (Nat → Int32) × gR × gR × (Nat → Int32) × (Nat → Int32) × (Nat → Int32)) => f_X6_runScript rf sz ac sp ou tx nw tr dy kp ik p0 p1 = (v, u)) (fun (u : Int32 × Int32 × Int32 × Int32 × Int32 × (Nat → Int32) × gR × gR × (Nat → Int32) × (Nat → Int32) × (Nat → Int32)) t => va_P D vwCl [(a0, .inr (5, [.int u.1, .ref a1, .int u.2.1, .ref a2, .ref a3, .ref a4, .int u.2.2.1, .ref a5, .ref a6, .int u.2.2.2.1, .int u.2.2.2.2.1])), (a1, .inl (y 0, 120, .inl u.2.2.2.2.2.1)), (a2, .inl (y 0, 78, .inl u.2.2.2.2.2.2.1)), (a3, .inl (y 0, 78, .inl u.2.2.2.2.2.2.2.1)), (a4, .inl (y 0, 1092, .inl u.2.2.2.2.2.2.2.2.1)), (a5, .inl (y 0, 156, .inl u.2.2.2.2.2.2.2.2.2.1)), (a6, .inl (y 2, 2, .inl u.2.2.2.2.2.2.2.2.2.2))] t.heap ∧ va_D (va_A [(a0, .inr (5, [.int rf, .ref a1, .int sz, .ref a2, .ref a3, .ref a4, .int ac, .ref a5, .ref a6, .int sp, .int ou])), (a1, .inl (y 0, 120, .inl tx)), (a2, .inl (y 0, 78, .inl nw)), (a3, .inl (y 0, 78, .inl tr)), (a4, .inl (y 0, 1092, .inl dy)), (a5, .inl (y 0, 156, .inl kp)), (a6, .inl (y 2, 2, .inl ik))] zh) [(a0, .inr (5, [.int u.1, .ref a1, .int u.2.1, .ref a2, .ref a3, .ref a4, .int u.2.2.1, .ref a5, .ref a6, .int u.2.2.2.1, .int u.2.2.2.2.1])), (a1, .inl (y 0, 120, .inl u.2.2.2.2.2.1)), (a2, .inl (y 0, 78, .inl u.2.2.2.2.2.2.1)), (a3, .inl (y 0, 78, .inl u.2.2.2.2.2.2.2.1)), (a4, .inl (y 0, 1092, .inl u.2.2.2.2.2.2.2.2.1)), (a5, .inl (y 0, 156, .inl u.2.2.2.2.2.2.2.2.2.1)), (a6, .inl (y 2, 2, .inl u.2.2.2.2.2.2.2.2.2.2))]) (va_A [(a0, .inr (5, [.int rf, .ref a1, .int sz, .ref a2, .ref a3, .ref a4, .int ac, .ref a5, .ref a6, .int sp, .int ou])), (a1, .inl (y 0, 120, .inl tx)), (a2, .inl (y 0, 78, .inl nw)), (a3, .inl (y 0, 78, .inl tr)), (a4, .inl (y 0, 1092, .inl dy)), (a5, .inl (y 0, 156, .inl kp)), (a6, .inl (y 2, 2, .inl ik))] zh)) 0 0 (va_A [(a0, .inr (5, [.int rf, .ref a1, .int sz, .ref a2, .ref a3, .ref a4, .int ac, .ref a5, .ref a6, .int sp, .int ou])), (a1, .inl (y 0, 120, .inl tx)), (a2, .inl (y 0, 78, .inl nw)), (a3, .inl (y 0, 78, .inl tr)), (a4, .inl (y 0, 1092, .inl dy)), (a5, .inl (y 0, 156, .inl kp)), (a6, .inl (y 2, 2, .inl ik))] zh) := by
  refine Met.ofW (cc := cX6_runScript) (maxL := 8) (ret := (some .int)) (by decide) rfl ?_
  intro p e s m args below meth c s₁ B hml hv
  obtain ⟨rfl, hsz, hP, hE, hD⟩ := hv
  have hx := B.exec
  have hb := B.bytes
  have hr := B.returns
  have hts := atoms_spec (ws := wsX6_runScript) B.pre
  have hown : s.vm.findClass RX6 = some m.cls := findClass_of_methodNamed B.named
  have hlocks := B.notSynchronized
  have w_0 := hts (.constantLong RX6 162 (1000000)) (List.mem_cons_of_mem _ (List.mem_append_left _ (List.mem_append_left _ (List.mem_of_getElem? (i := 0) rfl))))
  have w_1 := hts (.constant RX6 166 (100000)) (List.mem_cons_of_mem _ (List.mem_append_left _ (List.mem_append_left _ (List.mem_of_getElem? (i := 4) rfl))))
  have w_2 := hts (.constantLong RX6 164 (3)) (List.mem_cons_of_mem _ (List.mem_append_left _ (List.mem_append_left _ (List.mem_of_getElem? (i := 1) rfl))))
  have w_3 := hts (.fieldLink RX6 13 "GapLinesModel" "now" "[I") (List.mem_cons_of_mem _ (List.mem_append_left _ (List.mem_append_left _ (List.mem_of_getElem? (i := 2) rfl))))
  have hi6 : ∀ w ∈ u_ws RX6 TX6 11, w ∈ wsX6_runScript := fun w h => (List.mem_cons_of_mem _ (List.mem_append_right _ h))
  have w_5 := hts (.fieldLink RX6 16 "GapLinesModel" "trial" "[I") (List.mem_cons_of_mem _ (List.mem_append_left _ (List.mem_append_left _ (List.mem_of_getElem? (i := 3) rfl))))
  subst hsz
  have hD := hD.self (sz := s.heap.size)
  generalize hAe : va_A [(a0, .inr (5, [.int rf, .ref a1, .int sz, .ref a2, .ref a3, .ref a4, .int ac, .ref a5, .ref a6, .int sp, .int ou])), (a1, .inl (y 0, 120, .inl tx)), (a2, .inl (y 0, 78, .inl nw)), (a3, .inl (y 0, 78, .inl tr)), (a4, .inl (y 0, 1092, .inl dy)), (a5, .inl (y 0, 156, .inl kp)), (a6, .inl (y 2, 2, .inl ik))] s.heap.size = A at hD ⊢
  have hA : ∀ q : Nat, s.heap.size ≤ q → A q := fun q h => by rw [← hAe]; exact Or.inr h
  have hS : va_S A s.heap s.heap [] := va_S.rf
  have hl := lv_entry ([.ref a0, .int p0, .long p1]) (n := 8) (Nat.le_of_ble_eq_true rfl)
  rw [lg_entry_eq]
  generalize (lg_sl ([.ref a0, .int p0, .long p1]) ++ List.replicate (8 - (lg_sl ([.ref a0, .int p0, .long p1])).length) Slot.unset).toArray = ls at hl ⊢
  have hl : lv_has ls 8 [(0, .ref a0), (1, .int p0), (2, .long p1)] := hl
  have loop_86 : ∀ (n : Nat) (x4 : Int64) (x6 : Int32) (rf_ : Int32) (tr_ : gR) (hrb : rsB p0 x4 x6) (on_ : okN tr_), (p0.toInt - x6.toInt).toNat < n → f_X6_runScript rf sz ac sp ou tx nw tr dy kp ik p0 p1 = f_X6_runScript_L86 sz ac sp ou tx nw dy kp ik p0 p1 n x4 x6 rf_ tr_ → ∀ (H : Heap) (locs : List Loc), va_P D vwCl [(a0, .inr (5, [.int rf_, .ref a1, .int sz, .ref a2, .ref a3, .ref a4, .int ac, .ref a5, .ref a6, .int sp, .int ou])), (a1, .inl (y 0, 120, .inl tx)), (a2, .inl (y 0, 78, .inl nw)), (a3, .inl (y 0, 78, .inl tr_)), (a4, .inl (y 0, 1092, .inl dy)), (a5, .inl (y 0, 156, .inl kp)), (a6, .inl (y 2, 2, .inl ik))] H → va_D A [(a0, .inr (5, [.int rf_, .ref a1, .int sz, .ref a2, .ref a3, .ref a4, .int ac, .ref a5, .ref a6, .int sp, .int ou])), (a1, .inl (y 0, 120, .inl tx)), (a2, .inl (y 0, 78, .inl nw)), (a3, .inl (y 0, 78, .inl tr_)), (a4, .inl (y 0, 1092, .inl dy)), (a5, .inl (y 0, 156, .inl kp)), (a6, .inl (y 2, 2, .inl ik))] → va_S A s.heap H locs → ∀ (ls : Array Slot), lv_has ls 8 [(0, .ref a0), (1, .int p0), (2, .long p1), (4, .long x4), (6, .int x6)] → W p l e (headSpec wsX6_runScript ({ frames := 5, cells := 0, slots := 0, locals := 116 })).room s m ([.ref a0, .int p0, .long p1] : List Value).toArray below meth c H locs 0 0 (MQ below (va_Qi (fun (v : Int32) (u : Int32 × Int32 × Int32 × Int32 × Int32 × (Nat → Int32) × gR × gR × (Nat → Int32) × (Nat → Int32) × (Nat → Int32)) => f_X6_runScript rf sz ac sp ou tx nw tr dy kp ik p0 p1 = (v, u)) (fun (u : Int32 × Int32 × Int32 × Int32 × Int32 × (Nat → Int32) × gR × gR × (Nat → Int32) × (Nat → Int32) × (Nat → Int32)) t => va_P D vwCl [(a0, .inr (5, [.int u.1, .ref a1, .int u.2.1, .ref a2, .ref a3, .ref a4, .int u.2.2.1, .ref a5, .ref a6, .int u.2.2.2.1, .int u.2.2.2.2.1])), (a1, .inl (y 0, 120, .inl u.2.2.2.2.2.1)), (a2, .inl (y 0, 78, .inl u.2.2.2.2.2.2.1)), (a3, .inl (y 0, 78, .inl u.2.2.2.2.2.2.2.1)), (a4, .inl (y 0, 1092, .inl u.2.2.2.2.2.2.2.2.1)), (a5, .inl (y 0, 156, .inl u.2.2.2.2.2.2.2.2.2.1)), (a6, .inl (y 2, 2, .inl u.2.2.2.2.2.2.2.2.2.2))] t.heap ∧ va_D (A) [(a0, .inr (5, [.int u.1, .ref a1, .int u.2.1, .ref a2, .ref a3, .ref a4, .int u.2.2.1, .ref a5, .ref a6, .int u.2.2.2.1, .int u.2.2.2.2.1])), (a1, .inl (y 0, 120, .inl u.2.2.2.2.2.1)), (a2, .inl (y 0, 78, .inl u.2.2.2.2.2.2.1)), (a3, .inl (y 0, 78, .inl u.2.2.2.2.2.2.2.1)), (a4, .inl (y 0, 1092, .inl u.2.2.2.2.2.2.2.2.1)), (a5, .inl (y 0, 156, .inl u.2.2.2.2.2.2.2.2.2.1)), (a6, .inl (y 2, 2, .inl u.2.2.2.2.2.2.2.2.2.2))]) A) ([.ref a0, .int p0, .long p1] : List Value).toArray s 0 0 A) (F0 m 86 ls []) := by
    intro n
    induction n with
    | zero =>
      intro x4 x6 rf_ tr_ hrb on_ hμ
      exact absurd hμ (Nat.not_lt_zero _)
    | succ n ih =>
      intro x4 x6 rf_ tr_ hrb on_ hμ hF H locs hP hD hS ls hl
      have hF := hF.trans (f_X6_runScript_L86_s sz ac sp ou tx nw dy kp ik p0 p1 n x4 x6 rf_ tr_)
      refine lv_iload hx hb dX6_runScript_86 (lv_at hl 4 rfl) ?_
      refine lv_iload_n hx hb dX6_runScript_88 rfl (lv_at hl 1 rfl) ?_
      refine lv_icmp_ge (tgt := 137) hx hb dX6_runScript_89 (by decide) (fun c_1 => ?_) (fun c_1 => ?_)
      · have hF := hF.trans (if_pos c_1)
        refine lv_iconst (v := (-1)) hx hb dX6_runScript_137 (by decide) ?_
        exact W.iret (v := (-1)) hx hb hr (fun t ht hW => ⟨⟨(-1), ⟨rf_, sz, ac, sp, ou, tx, nw, tr_, dy, kp, ik⟩, rfl, hF, ⟨by rw [ht]; exact hP, hD⟩⟩, hS.F ht⟩) hS.2.2 dX6_runScript_138
      · have hF := hF.trans (if_neg c_1)
        refine lv_lload hx hb dX6_runScript_92 (lv_at hl 3 rfl) ?_
        refine lv_ldc2 (v := 1000000) hx hb hown w_0 dX6_runScript_94 ?_
        refine lv_ldiv hx hb dX6_runScript_97 (by decide) ?_
        refine lv_lstore (lv' := [(4, .long (x4 / 1000000)), (0, .ref a0), (1, .int p0), (2, .long p1), (6, .int x6)]) hx hb dX6_runScript_98 hl (by decide) rfl (fun ls hl => ?_)
        refine lv_lload_n hx hb dX6_runScript_100 rfl (lv_at hl 3 rfl) ?_
        refine lv_lload hx hb dX6_runScript_101 (lv_at hl 0 rfl) ?_
        refine lv_ldiv hx hb dX6_runScript_103 (rsB_s hrb (by assumption)).2 ?_
        refine lv_ldc2 (v := 1000000) hx hb hown w_0 dX6_runScript_104 ?_
        refine lv_lrem hx hb dX6_runScript_107 (by decide) ?_
        obtain ⟨v2, ev2⟩ : ∃ z : Int64, (p1 / (x4 / 1000000)) - (p1 / (x4 / 1000000)) / 1000000 * 1000000 = z := ⟨_, rfl⟩
        rw [ev2]
        have hF := hF.trans (gLet_e ev2)
        refine lv_l2i (v := v2.toInt32) hx hb dX6_runScript_108 rfl ?_
        obtain ⟨v3, ev3⟩ : ∃ z : Int32, v2.toInt32 = z := ⟨_, rfl⟩
        rw [ev3]
        have hF := hF.trans (gLet_e ev3)
        refine lv_istore (lv' := [(7, .int v3), (4, .long (x4 / 1000000)), (0, .ref a0), (1, .int p0), (2, .long p1), (6, .int x6)]) hx hb dX6_runScript_109 hl (by decide) rfl (fun ls hl => ?_)
        refine lv_aload_n hx hb dX6_runScript_111 rfl (lv_at hl 2 rfl) ?_
        refine lv_iload hx hb dX6_runScript_112 (lv_at hl 0 rfl) ?_
        refine lv_ldc (v := 100000) hx hb hown w_1 dX6_runScript_114 ?_
        refine lv_idiv hx hb dX6_runScript_116 (by decide) ?_
        refine lv_iload hx hb dX6_runScript_117 (lv_at hl 0 rfl) ?_
        refine lv_ldc (v := 100000) hx hb hown w_1 dX6_runScript_119 ?_
        refine lv_irem hx hb dX6_runScript_121 (by decide) ?_
        obtain ⟨v4, ev4⟩ : ∃ z : Int32, v3 - v3 / 100000 * 100000 = z := ⟨_, rfl⟩
        rw [ev4]
        have hF := hF.trans (gLet_e ev4)
        refine xw_calli (va_runV (As := [.int (v3 / 100000), .int v4]) (rest := []) ⟨hx, hb, hml, hown, hts⟩ (c_X6_command l D y a0 a1 a2 a3 a4 a5 a6 H.size rf_ sz ac sp ou tr_ (v3 / 100000) v4 on_) (cwV 2 hts gX6_runScript_X6_command rfl rfl rfl hd_X6_command ⟨Nat.le_of_ble_eq_true rfl, Nat.le_of_ble_eq_true rfl⟩) (gV (q := (RX6, TX6, 11)) hE (hP.sub [0, 3] rfl) (hD.sub [0, 3] (by decide) rfl) 0 rfl rfl) rfl rfl hl.1 rfl (lv_room (Nat.le_of_ble_eq_true rfl)) dX6_runScript_122 ⟨Nat.le_of_ble_eq_true rfl, Nat.le_of_ble_eq_true rfl⟩) hP hD hS hA [0, 3] rfl (by decide) (fun _ => rfl) (fun v7 u6 H locs h5 hP hD hS => ?_)
        obtain ⟨q8, eq8⟩ : ∃ z : Int32 × gR, f_X6_command rf_ sz ac sp ou tr_ (v3 / 100000) v4 = z := ⟨_, rfl⟩
        obtain ⟨rfl, rfl⟩ : q8.1 = v7 ∧ q8.2 = u6 := ⟨by rw [← eq8, h5], by rw [← eq8, h5]⟩
        have hF := hF.trans (gLet_e eq8)
        have hP : va_P D vwCl [(a0, .inr (5, [.int rf_, .ref a1, .int sz, .ref a2, .ref a3, .ref a4, .int ac, .ref a5, .ref a6, .int sp, .int ou])), (a1, .inl (y 0, 120, .inl tx)), (a2, .inl (y 0, 78, .inl nw)), (a3, .inl (y 0, 78, .inl q8.2)), (a4, .inl (y 0, 1092, .inl dy)), (a5, .inl (y 0, 156, .inl kp)), (a6, .inl (y 2, 2, .inl ik))] H := hP
        have hD : va_D A [(a0, .inr (5, [.int rf_, .ref a1, .int sz, .ref a2, .ref a3, .ref a4, .int ac, .ref a5, .ref a6, .int sp, .int ou])), (a1, .inl (y 0, 120, .inl tx)), (a2, .inl (y 0, 78, .inl nw)), (a3, .inl (y 0, 78, .inl q8.2)), (a4, .inl (y 0, 1092, .inl dy)), (a5, .inl (y 0, 156, .inl kp)), (a6, .inl (y 2, 2, .inl ik))] := hD
        refine lv_if_ne (tgt := 131) hx hb dX6_runScript_125 (by decide) (fun c_9 => ?_) (fun c_9 => ?_)
        · have hF := hF.trans (if_neg c_9)
          refine lv_iinc (v := (x6 + 1)) (lv' := [(6, .int (x6 + 1)), (7, .int v3), (4, .long (x4 / 1000000)), (0, .ref a0), (1, .int p0), (2, .long p1)]) hx hb dX6_runScript_131 hl (k := 5) rfl rfl (by decide) rfl (fun ls hl => ?_)
          refine lv_goto (tgt := 86) hx hb dX6_runScript_134 (by decide) ?_
          exact ih (x4 / 1000000) (x6 + 1) rf_ q8.2 ((rsB_s hrb (by assumption)).1) ((by rw [← eq8]; exact okN_X6_command _ _ _ _ _ _ _ _ on_)) (lp_up (by assumption) hμ) hF _ _ hP hD hS ls (lv_sub hl [3, 4, 5, 2, 0] rfl)
        · have hF := hF.trans (if_pos c_9)
          refine lv_iload hx hb dX6_runScript_128 (lv_at hl 5 rfl) ?_
          exact W.iret (v := x6) hx hb hr (fun t ht hW => ⟨⟨x6, ⟨rf_, sz, ac, sp, ou, tx, nw, q8.2, dy, kp, ik⟩, rfl, hF, ⟨by rw [ht]; exact hP, hD⟩⟩, hS.F ht⟩) hS.2.2 dX6_runScript_130
  have loop_6 : ∀ (n : Nat) (x4 : Int64) (x6 : Int32) (rsa : rsA p0 x4 x6), (p0.toInt - x6.toInt).toNat < n → f_X6_runScript rf sz ac sp ou tx nw tr dy kp ik p0 p1 = f_X6_runScript_L6 rf sz ac sp ou tx nw tr dy kp ik p0 p1 n x4 x6 → ∀ (H : Heap) (locs : List Loc), va_P D vwCl [(a0, .inr (5, [.int rf, .ref a1, .int sz, .ref a2, .ref a3, .ref a4, .int ac, .ref a5, .ref a6, .int sp, .int ou])), (a1, .inl (y 0, 120, .inl tx)), (a2, .inl (y 0, 78, .inl nw)), (a3, .inl (y 0, 78, .inl tr)), (a4, .inl (y 0, 1092, .inl dy)), (a5, .inl (y 0, 156, .inl kp)), (a6, .inl (y 2, 2, .inl ik))] H → va_D A [(a0, .inr (5, [.int rf, .ref a1, .int sz, .ref a2, .ref a3, .ref a4, .int ac, .ref a5, .ref a6, .int sp, .int ou])), (a1, .inl (y 0, 120, .inl tx)), (a2, .inl (y 0, 78, .inl nw)), (a3, .inl (y 0, 78, .inl tr)), (a4, .inl (y 0, 1092, .inl dy)), (a5, .inl (y 0, 156, .inl kp)), (a6, .inl (y 2, 2, .inl ik))] → va_S A s.heap H locs → ∀ (ls : Array Slot), lv_has ls 8 [(0, .ref a0), (1, .int p0), (2, .long p1), (4, .long x4), (6, .int x6)] → W p l e (headSpec wsX6_runScript ({ frames := 5, cells := 0, slots := 0, locals := 116 })).room s m ([.ref a0, .int p0, .long p1] : List Value).toArray below meth c H locs 0 0 (MQ below (va_Qi (fun (v : Int32) (u : Int32 × Int32 × Int32 × Int32 × Int32 × (Nat → Int32) × gR × gR × (Nat → Int32) × (Nat → Int32) × (Nat → Int32)) => f_X6_runScript rf sz ac sp ou tx nw tr dy kp ik p0 p1 = (v, u)) (fun (u : Int32 × Int32 × Int32 × Int32 × Int32 × (Nat → Int32) × gR × gR × (Nat → Int32) × (Nat → Int32) × (Nat → Int32)) t => va_P D vwCl [(a0, .inr (5, [.int u.1, .ref a1, .int u.2.1, .ref a2, .ref a3, .ref a4, .int u.2.2.1, .ref a5, .ref a6, .int u.2.2.2.1, .int u.2.2.2.2.1])), (a1, .inl (y 0, 120, .inl u.2.2.2.2.2.1)), (a2, .inl (y 0, 78, .inl u.2.2.2.2.2.2.1)), (a3, .inl (y 0, 78, .inl u.2.2.2.2.2.2.2.1)), (a4, .inl (y 0, 1092, .inl u.2.2.2.2.2.2.2.2.1)), (a5, .inl (y 0, 156, .inl u.2.2.2.2.2.2.2.2.2.1)), (a6, .inl (y 2, 2, .inl u.2.2.2.2.2.2.2.2.2.2))] t.heap ∧ va_D (A) [(a0, .inr (5, [.int u.1, .ref a1, .int u.2.1, .ref a2, .ref a3, .ref a4, .int u.2.2.1, .ref a5, .ref a6, .int u.2.2.2.1, .int u.2.2.2.2.1])), (a1, .inl (y 0, 120, .inl u.2.2.2.2.2.1)), (a2, .inl (y 0, 78, .inl u.2.2.2.2.2.2.1)), (a3, .inl (y 0, 78, .inl u.2.2.2.2.2.2.2.1)), (a4, .inl (y 0, 1092, .inl u.2.2.2.2.2.2.2.2.1)), (a5, .inl (y 0, 156, .inl u.2.2.2.2.2.2.2.2.2.1)), (a6, .inl (y 2, 2, .inl u.2.2.2.2.2.2.2.2.2.2))]) A) ([.ref a0, .int p0, .long p1] : List Value).toArray s 0 0 A) (F0 m 6 ls []) := by
    intro n
    induction n with
    | zero =>
      intro x4 x6 rsa hμ
      exact absurd hμ (Nat.not_lt_zero _)
    | succ n ih =>
      intro x4 x6 rsa hμ hF H locs hP hD hS ls hl
      have hF := hF.trans (f_X6_runScript_L6_s rf sz ac sp ou tx nw tr dy kp ik p0 p1 n x4 x6)
      refine lv_iload hx hb dX6_runScript_6 (lv_at hl 4 rfl) ?_
      refine lv_iload_n hx hb dX6_runScript_8 rfl (lv_at hl 1 rfl) ?_
      refine lv_icmp_ge (tgt := 32) hx hb dX6_runScript_9 (by decide) (fun c_10 => ?_) (fun c_10 => ?_)
      · have hF := hF.trans (if_pos c_10)
        refine lv_aload_n hx hb dX6_runScript_32 rfl (lv_at hl 0 rfl) ?_
        refine lv_iload_n hx hb dX6_runScript_33 rfl (lv_at hl 1 rfl) ?_
        refine lv_i2l (v := p0.toInt64) hx hb dX6_runScript_34 rfl ?_
        refine lv_lconst (v := 1) hx hb dX6_runScript_35 (by decide) ?_
        refine lv_ldc2 (v := 3) hx hb hown w_2 dX6_runScript_36 ?_
        refine xs_calli (va_runS (As := [.long p0.toInt64, .long 1, .long 3]) (rest := [.ref a0]) ⟨hx, hb, hml, hown, hts⟩ (c_X6_in l D y H.size p0.toInt64 1 3) (va_cwS 3 hts gX6_runScript_X6_in rfl rfl rfl hd_X6_in ⟨Nat.le_of_ble_eq_true rfl, Nat.le_of_ble_eq_true rfl⟩) (gS hE (hP.sub [] rfl) (hD.sub [] (by decide) rfl)) rfl rfl hl.1 rfl (lv_room (Nat.le_of_ble_eq_true rfl)) dX6_runScript_39 ⟨Nat.le_of_ble_eq_true rfl, Nat.le_of_ble_eq_true rfl⟩) (fun v12 h11 => ?_)
        have hF := hF.trans (gLet_e h11)
        refine lv_if_eq (tgt := 61) hx hb dX6_runScript_42 (by decide) (fun c_13 => ?_) (fun c_13 => ?_)
        · have hF := hF.trans (if_pos c_13)
          refine lv_iconst (v := 1) hx hb dX6_runScript_61 (by decide) ?_
          refine xw_calli (va_runV (As := [.int 1]) (rest := []) ⟨hx, hb, hml, hown, hts⟩ (c_X6_refused l D y a0 a1 a2 a3 a4 a5 a6 H.size rf sz ac sp ou 1) (cwV 1 hts gX6_runScript_X6_refused rfl rfl rfl hd_X6_refused ⟨Nat.le_of_ble_eq_true rfl, Nat.le_of_ble_eq_true rfl⟩) (gV (q := (RX6, TX6, 11)) hE (hP.sub [0] rfl) (hD.sub [0] (by decide) rfl) 0 rfl rfl) rfl rfl hl.1 rfl (lv_room (Nat.le_of_ble_eq_true rfl)) dX6_runScript_62 ⟨Nat.le_of_ble_eq_true rfl, Nat.le_of_ble_eq_true rfl⟩) hP hD hS hA [0] rfl (by decide) (fun _ => rfl) (fun v16 u15 H locs h14 hP hD hS => ?_)
          have h14 := (rfd1 rf sz ac sp ou).symm.trans h14
          obtain ⟨rfl, rfl⟩ := Prod.mk.inj h14
          have hP : va_P D vwCl [(a0, .inr (5, [.int 1, .ref a1, .int sz, .ref a2, .ref a3, .ref a4, .int ac, .ref a5, .ref a6, .int sp, .int ou])), (a1, .inl (y 0, 120, .inl tx)), (a2, .inl (y 0, 78, .inl nw)), (a3, .inl (y 0, 78, .inl tr)), (a4, .inl (y 0, 1092, .inl dy)), (a5, .inl (y 0, 156, .inl kp)), (a6, .inl (y 2, 2, .inl ik))] H := hP
          have hD : va_D A [(a0, .inr (5, [.int 1, .ref a1, .int sz, .ref a2, .ref a3, .ref a4, .int ac, .ref a5, .ref a6, .int sp, .int ou])), (a1, .inl (y 0, 120, .inl tx)), (a2, .inl (y 0, 78, .inl nw)), (a3, .inl (y 0, 78, .inl tr)), (a4, .inl (y 0, 1092, .inl dy)), (a5, .inl (y 0, 156, .inl kp)), (a6, .inl (y 2, 2, .inl ik))] := hD
          refine lv_if_eq (tgt := 70) hx hb dX6_runScript_65 (by decide) (fun c_17 => absurd c_17 (by decide)) (fun c_17 => ?_)
          refine lv_iconst (v := 0) hx hb dX6_runScript_68 (by decide) ?_
          exact W.iret (v := 0) hx hb hr (fun t ht hW => ⟨⟨0, ⟨1, sz, ac, sp, ou, tx, nw, tr, dy, kp, ik⟩, rfl, hF, ⟨by rw [ht]; exact hP, hD⟩⟩, hS.F ht⟩) hS.2.2 dX6_runScript_69
        · have hF := hF.trans (if_neg c_13)
          refine lv_lload_n hx hb dX6_runScript_45 rfl (lv_at hl 2 rfl) ?_
          refine lv_lconst (v := 0) hx hb dX6_runScript_46 (by decide) ?_
          refine lv_lload hx hb dX6_runScript_47 (lv_at hl 3 rfl) ?_
          refine lv_lconst (v := 1) hx hb dX6_runScript_49 (by decide) ?_
          refine lv_lsub hx hb dX6_runScript_50 ?_
          refine xs_calli (va_runS (As := [.long p1, .long 0, .long (x4 - 1)]) (rest := [.ref a0]) ⟨hx, hb, hml, hown, hts⟩ (c_X6_in l D y H.size p1 0 (x4 - 1)) (va_cwS 3 hts gX6_runScript_X6_in rfl rfl rfl hd_X6_in ⟨Nat.le_of_ble_eq_true rfl, Nat.le_of_ble_eq_true rfl⟩) (gS hE (hP.sub [] rfl) (hD.sub [] (by decide) rfl)) rfl rfl hl.1 rfl (lv_room (Nat.le_of_ble_eq_true rfl)) dX6_runScript_51 ⟨Nat.le_of_ble_eq_true rfl, Nat.le_of_ble_eq_true rfl⟩) (fun v19 h18 => ?_)
          have hF := hF.trans (gLet_e h18)
          refine lv_if_eq (tgt := 61) hx hb dX6_runScript_54 (by decide) (fun c_20 => ?_) (fun c_20 => ?_)
          · have hF := hF.trans (if_pos c_20)
            refine lv_iconst (v := 1) hx hb dX6_runScript_61 (by decide) ?_
            refine xw_calli (va_runV (As := [.int 1]) (rest := []) ⟨hx, hb, hml, hown, hts⟩ (c_X6_refused l D y a0 a1 a2 a3 a4 a5 a6 H.size rf sz ac sp ou 1) (cwV 1 hts gX6_runScript_X6_refused rfl rfl rfl hd_X6_refused ⟨Nat.le_of_ble_eq_true rfl, Nat.le_of_ble_eq_true rfl⟩) (gV (q := (RX6, TX6, 11)) hE (hP.sub [0] rfl) (hD.sub [0] (by decide) rfl) 0 rfl rfl) rfl rfl hl.1 rfl (lv_room (Nat.le_of_ble_eq_true rfl)) dX6_runScript_62 ⟨Nat.le_of_ble_eq_true rfl, Nat.le_of_ble_eq_true rfl⟩) hP hD hS hA [0] rfl (by decide) (fun _ => rfl) (fun v23 u22 H locs h21 hP hD hS => ?_)
            have h21 := (rfd1 rf sz ac sp ou).symm.trans h21
            obtain ⟨rfl, rfl⟩ := Prod.mk.inj h21
            have hP : va_P D vwCl [(a0, .inr (5, [.int 1, .ref a1, .int sz, .ref a2, .ref a3, .ref a4, .int ac, .ref a5, .ref a6, .int sp, .int ou])), (a1, .inl (y 0, 120, .inl tx)), (a2, .inl (y 0, 78, .inl nw)), (a3, .inl (y 0, 78, .inl tr)), (a4, .inl (y 0, 1092, .inl dy)), (a5, .inl (y 0, 156, .inl kp)), (a6, .inl (y 2, 2, .inl ik))] H := hP
            have hD : va_D A [(a0, .inr (5, [.int 1, .ref a1, .int sz, .ref a2, .ref a3, .ref a4, .int ac, .ref a5, .ref a6, .int sp, .int ou])), (a1, .inl (y 0, 120, .inl tx)), (a2, .inl (y 0, 78, .inl nw)), (a3, .inl (y 0, 78, .inl tr)), (a4, .inl (y 0, 1092, .inl dy)), (a5, .inl (y 0, 156, .inl kp)), (a6, .inl (y 2, 2, .inl ik))] := hD
            refine lv_if_eq (tgt := 70) hx hb dX6_runScript_65 (by decide) (fun c_24 => absurd c_24 (by decide)) (fun c_24 => ?_)
            refine lv_iconst (v := 0) hx hb dX6_runScript_68 (by decide) ?_
            exact W.iret (v := 0) hx hb hr (fun t ht hW => ⟨⟨0, ⟨1, sz, ac, sp, ou, tx, nw, tr, dy, kp, ik⟩, rfl, hF, ⟨by rw [ht]; exact hP, hD⟩⟩, hS.F ht⟩) hS.2.2 dX6_runScript_69
          · have hF := hF.trans (if_neg c_20)
            refine lv_iconst (v := 0) hx hb dX6_runScript_57 (by decide) ?_
            refine lv_goto (tgt := 62) hx hb dX6_runScript_58 (by decide) ?_
            refine xw_calli (va_runV (As := [.int 0]) (rest := []) ⟨hx, hb, hml, hown, hts⟩ (c_X6_refused l D y a0 a1 a2 a3 a4 a5 a6 H.size rf sz ac sp ou 0) (cwV 1 hts gX6_runScript_X6_refused rfl rfl rfl hd_X6_refused ⟨Nat.le_of_ble_eq_true rfl, Nat.le_of_ble_eq_true rfl⟩) (gV (q := (RX6, TX6, 11)) hE (hP.sub [0] rfl) (hD.sub [0] (by decide) rfl) 0 rfl rfl) rfl rfl hl.1 rfl (lv_room (Nat.le_of_ble_eq_true rfl)) dX6_runScript_62 ⟨Nat.le_of_ble_eq_true rfl, Nat.le_of_ble_eq_true rfl⟩) hP hD hS hA [0] rfl (by decide) (fun _ => rfl) (fun v27 u26 H locs h25 hP hD hS => ?_)
            have h25 := (rfd0 rf sz ac sp ou).symm.trans h25
            obtain ⟨rfl, rfl⟩ := Prod.mk.inj h25
            have hP : va_P D vwCl [(a0, .inr (5, [.int 0, .ref a1, .int sz, .ref a2, .ref a3, .ref a4, .int ac, .ref a5, .ref a6, .int sp, .int ou])), (a1, .inl (y 0, 120, .inl tx)), (a2, .inl (y 0, 78, .inl nw)), (a3, .inl (y 0, 78, .inl tr)), (a4, .inl (y 0, 1092, .inl dy)), (a5, .inl (y 0, 156, .inl kp)), (a6, .inl (y 2, 2, .inl ik))] H := hP
            have hD : va_D A [(a0, .inr (5, [.int 0, .ref a1, .int sz, .ref a2, .ref a3, .ref a4, .int ac, .ref a5, .ref a6, .int sp, .int ou])), (a1, .inl (y 0, 120, .inl tx)), (a2, .inl (y 0, 78, .inl nw)), (a3, .inl (y 0, 78, .inl tr)), (a4, .inl (y 0, 1092, .inl dy)), (a5, .inl (y 0, 156, .inl kp)), (a6, .inl (y 2, 2, .inl ik))] := hD
            refine lv_if_eq (tgt := 70) hx hb dX6_runScript_65 (by decide) (fun c_28 => ?_) (fun c_28 => absurd (by decide) c_28)
            refine lv_aload_n hx hb dX6_runScript_70 rfl (lv_at hl 0 rfl) ?_
            refine va_get (D := D) (ci := 5) (v := .ref a2) (C := RX6) (T := TX6) (N := 11) hx hb hts hi6 hown hE.1 hP 0 rfl rfl 3 (by decide) w_3 (fun _ h9 => h9) rfl dX6_runScript_71 ?_
            refine lv_iconst (v := 0) hx hb dX6_runScript_74 (by decide) ?_
            refine lv_aload_n hx hb dX6_runScript_75 rfl (lv_at hl 0 rfl) ?_
            refine va_get (D := D) (ci := 5) (v := .ref a3) (C := RX6) (T := TX6) (N := 11) hx hb hts hi6 hown hE.1 hP 0 rfl rfl 4 (by decide) w_5 (fun _ h9 => h9) rfl dX6_runScript_76 ?_
            refine lv_iconst (v := 0) hx hb dX6_runScript_79 (by decide) ?_
            refine xw_callv (va_runS (As := [.ref a2, .int 0, .ref a3, .int 0]) (rest := []) ⟨hx, hb, hml, hown, hts⟩ (c_X6_copyState l D y a2 a3 H.size 78 nw 78 tr 0 0 okA0 okA0) (va_cwS 4 hts gX6_runScript_X6_copyState rfl rfl rfl hd_X6_copyState ⟨Nat.le_of_ble_eq_true rfl, Nat.le_of_ble_eq_true rfl⟩) (gS hE (hP.sub [2, 3] rfl) (hD.sub [2, 3] (by decide) rfl)) rfl rfl hl.1 rfl (lv_room (Nat.le_of_ble_eq_true rfl)) dX6_runScript_80 ⟨Nat.le_of_ble_eq_true rfl, Nat.le_of_ble_eq_true rfl⟩) hP hD hS hA [2, 3] rfl (by decide) (fun _ => rfl) (fun u30 H locs h29 hP hD hS => ?_)
            have hF := hF.trans (gLet_e h29)
            have hP : va_P D vwCl [(a0, .inr (5, [.int 0, .ref a1, .int sz, .ref a2, .ref a3, .ref a4, .int ac, .ref a5, .ref a6, .int sp, .int ou])), (a1, .inl (y 0, 120, .inl tx)), (a2, .inl (y 0, 78, .inl nw)), (a3, .inl (y 0, 78, .inl u30)), (a4, .inl (y 0, 1092, .inl dy)), (a5, .inl (y 0, 156, .inl kp)), (a6, .inl (y 2, 2, .inl ik))] H := hP
            have hD : va_D A [(a0, .inr (5, [.int 0, .ref a1, .int sz, .ref a2, .ref a3, .ref a4, .int ac, .ref a5, .ref a6, .int sp, .int ou])), (a1, .inl (y 0, 120, .inl tx)), (a2, .inl (y 0, 78, .inl nw)), (a3, .inl (y 0, 78, .inl u30)), (a4, .inl (y 0, 1092, .inl dy)), (a5, .inl (y 0, 156, .inl kp)), (a6, .inl (y 2, 2, .inl ik))] := hD
            refine lv_iconst (v := 0) hx hb dX6_runScript_83 (by decide) ?_
            refine lv_istore (lv' := [(6, .int 0), (0, .ref a0), (1, .int p0), (2, .long p1), (4, .long x4)]) hx hb dX6_runScript_84 hl (by decide) rfl (fun ls hl => ?_)
            exact loop_86 _ x4 0 0 u30 (rs_AB rsa (by first | exact Or.inl (by assumption) | exact Or.inr (by assumption)) h11 (by assumption)) ((by rw [← h29]; exact cp_okN _ hm.2.2)) (Nat.lt_succ_self _) hF _ _ hP hD hS ls (lv_sub hl [1, 2, 3, 4, 0] rfl)
      · have hF := hF.trans (if_neg c_10)
        refine lv_iload hx hb dX6_runScript_12 (lv_at hl 4 rfl) ?_
        refine lv_iconst (v := 3) hx hb dX6_runScript_14 (by decide) ?_
        refine lv_icmp_ge (tgt := 32) hx hb dX6_runScript_15 (by decide) (fun c_31 => ?_) (fun c_31 => ?_)
        · have hF := hF.trans (if_pos c_31)
          refine lv_aload_n hx hb dX6_runScript_32 rfl (lv_at hl 0 rfl) ?_
          refine lv_iload_n hx hb dX6_runScript_33 rfl (lv_at hl 1 rfl) ?_
          refine lv_i2l (v := p0.toInt64) hx hb dX6_runScript_34 rfl ?_
          refine lv_lconst (v := 1) hx hb dX6_runScript_35 (by decide) ?_
          refine lv_ldc2 (v := 3) hx hb hown w_2 dX6_runScript_36 ?_
          refine xs_calli (va_runS (As := [.long p0.toInt64, .long 1, .long 3]) (rest := [.ref a0]) ⟨hx, hb, hml, hown, hts⟩ (c_X6_in l D y H.size p0.toInt64 1 3) (va_cwS 3 hts gX6_runScript_X6_in rfl rfl rfl hd_X6_in ⟨Nat.le_of_ble_eq_true rfl, Nat.le_of_ble_eq_true rfl⟩) (gS hE (hP.sub [] rfl) (hD.sub [] (by decide) rfl)) rfl rfl hl.1 rfl (lv_room (Nat.le_of_ble_eq_true rfl)) dX6_runScript_39 ⟨Nat.le_of_ble_eq_true rfl, Nat.le_of_ble_eq_true rfl⟩) (fun v33 h32 => ?_)
          have hF := hF.trans (gLet_e h32)
          refine lv_if_eq (tgt := 61) hx hb dX6_runScript_42 (by decide) (fun c_34 => ?_) (fun c_34 => ?_)
          · have hF := hF.trans (if_pos c_34)
            refine lv_iconst (v := 1) hx hb dX6_runScript_61 (by decide) ?_
            refine xw_calli (va_runV (As := [.int 1]) (rest := []) ⟨hx, hb, hml, hown, hts⟩ (c_X6_refused l D y a0 a1 a2 a3 a4 a5 a6 H.size rf sz ac sp ou 1) (cwV 1 hts gX6_runScript_X6_refused rfl rfl rfl hd_X6_refused ⟨Nat.le_of_ble_eq_true rfl, Nat.le_of_ble_eq_true rfl⟩) (gV (q := (RX6, TX6, 11)) hE (hP.sub [0] rfl) (hD.sub [0] (by decide) rfl) 0 rfl rfl) rfl rfl hl.1 rfl (lv_room (Nat.le_of_ble_eq_true rfl)) dX6_runScript_62 ⟨Nat.le_of_ble_eq_true rfl, Nat.le_of_ble_eq_true rfl⟩) hP hD hS hA [0] rfl (by decide) (fun _ => rfl) (fun v37 u36 H locs h35 hP hD hS => ?_)
            have h35 := (rfd1 rf sz ac sp ou).symm.trans h35
            obtain ⟨rfl, rfl⟩ := Prod.mk.inj h35
            have hP : va_P D vwCl [(a0, .inr (5, [.int 1, .ref a1, .int sz, .ref a2, .ref a3, .ref a4, .int ac, .ref a5, .ref a6, .int sp, .int ou])), (a1, .inl (y 0, 120, .inl tx)), (a2, .inl (y 0, 78, .inl nw)), (a3, .inl (y 0, 78, .inl tr)), (a4, .inl (y 0, 1092, .inl dy)), (a5, .inl (y 0, 156, .inl kp)), (a6, .inl (y 2, 2, .inl ik))] H := hP
            have hD : va_D A [(a0, .inr (5, [.int 1, .ref a1, .int sz, .ref a2, .ref a3, .ref a4, .int ac, .ref a5, .ref a6, .int sp, .int ou])), (a1, .inl (y 0, 120, .inl tx)), (a2, .inl (y 0, 78, .inl nw)), (a3, .inl (y 0, 78, .inl tr)), (a4, .inl (y 0, 1092, .inl dy)), (a5, .inl (y 0, 156, .inl kp)), (a6, .inl (y 2, 2, .inl ik))] := hD
            refine lv_if_eq (tgt := 70) hx hb dX6_runScript_65 (by decide) (fun c_38 => absurd c_38 (by decide)) (fun c_38 => ?_)
            refine lv_iconst (v := 0) hx hb dX6_runScript_68 (by decide) ?_
            exact W.iret (v := 0) hx hb hr (fun t ht hW => ⟨⟨0, ⟨1, sz, ac, sp, ou, tx, nw, tr, dy, kp, ik⟩, rfl, hF, ⟨by rw [ht]; exact hP, hD⟩⟩, hS.F ht⟩) hS.2.2 dX6_runScript_69
          · have hF := hF.trans (if_neg c_34)
            refine lv_lload_n hx hb dX6_runScript_45 rfl (lv_at hl 2 rfl) ?_
            refine lv_lconst (v := 0) hx hb dX6_runScript_46 (by decide) ?_
            refine lv_lload hx hb dX6_runScript_47 (lv_at hl 3 rfl) ?_
            refine lv_lconst (v := 1) hx hb dX6_runScript_49 (by decide) ?_
            refine lv_lsub hx hb dX6_runScript_50 ?_
            refine xs_calli (va_runS (As := [.long p1, .long 0, .long (x4 - 1)]) (rest := [.ref a0]) ⟨hx, hb, hml, hown, hts⟩ (c_X6_in l D y H.size p1 0 (x4 - 1)) (va_cwS 3 hts gX6_runScript_X6_in rfl rfl rfl hd_X6_in ⟨Nat.le_of_ble_eq_true rfl, Nat.le_of_ble_eq_true rfl⟩) (gS hE (hP.sub [] rfl) (hD.sub [] (by decide) rfl)) rfl rfl hl.1 rfl (lv_room (Nat.le_of_ble_eq_true rfl)) dX6_runScript_51 ⟨Nat.le_of_ble_eq_true rfl, Nat.le_of_ble_eq_true rfl⟩) (fun v40 h39 => ?_)
            have hF := hF.trans (gLet_e h39)
            refine lv_if_eq (tgt := 61) hx hb dX6_runScript_54 (by decide) (fun c_41 => ?_) (fun c_41 => ?_)
            · have hF := hF.trans (if_pos c_41)
              refine lv_iconst (v := 1) hx hb dX6_runScript_61 (by decide) ?_
              refine xw_calli (va_runV (As := [.int 1]) (rest := []) ⟨hx, hb, hml, hown, hts⟩ (c_X6_refused l D y a0 a1 a2 a3 a4 a5 a6 H.size rf sz ac sp ou 1) (cwV 1 hts gX6_runScript_X6_refused rfl rfl rfl hd_X6_refused ⟨Nat.le_of_ble_eq_true rfl, Nat.le_of_ble_eq_true rfl⟩) (gV (q := (RX6, TX6, 11)) hE (hP.sub [0] rfl) (hD.sub [0] (by decide) rfl) 0 rfl rfl) rfl rfl hl.1 rfl (lv_room (Nat.le_of_ble_eq_true rfl)) dX6_runScript_62 ⟨Nat.le_of_ble_eq_true rfl, Nat.le_of_ble_eq_true rfl⟩) hP hD hS hA [0] rfl (by decide) (fun _ => rfl) (fun v44 u43 H locs h42 hP hD hS => ?_)
              have h42 := (rfd1 rf sz ac sp ou).symm.trans h42
              obtain ⟨rfl, rfl⟩ := Prod.mk.inj h42
              have hP : va_P D vwCl [(a0, .inr (5, [.int 1, .ref a1, .int sz, .ref a2, .ref a3, .ref a4, .int ac, .ref a5, .ref a6, .int sp, .int ou])), (a1, .inl (y 0, 120, .inl tx)), (a2, .inl (y 0, 78, .inl nw)), (a3, .inl (y 0, 78, .inl tr)), (a4, .inl (y 0, 1092, .inl dy)), (a5, .inl (y 0, 156, .inl kp)), (a6, .inl (y 2, 2, .inl ik))] H := hP
              have hD : va_D A [(a0, .inr (5, [.int 1, .ref a1, .int sz, .ref a2, .ref a3, .ref a4, .int ac, .ref a5, .ref a6, .int sp, .int ou])), (a1, .inl (y 0, 120, .inl tx)), (a2, .inl (y 0, 78, .inl nw)), (a3, .inl (y 0, 78, .inl tr)), (a4, .inl (y 0, 1092, .inl dy)), (a5, .inl (y 0, 156, .inl kp)), (a6, .inl (y 2, 2, .inl ik))] := hD
              refine lv_if_eq (tgt := 70) hx hb dX6_runScript_65 (by decide) (fun c_45 => absurd c_45 (by decide)) (fun c_45 => ?_)
              refine lv_iconst (v := 0) hx hb dX6_runScript_68 (by decide) ?_
              exact W.iret (v := 0) hx hb hr (fun t ht hW => ⟨⟨0, ⟨1, sz, ac, sp, ou, tx, nw, tr, dy, kp, ik⟩, rfl, hF, ⟨by rw [ht]; exact hP, hD⟩⟩, hS.F ht⟩) hS.2.2 dX6_runScript_69
            · have hF := hF.trans (if_neg c_41)
              refine lv_iconst (v := 0) hx hb dX6_runScript_57 (by decide) ?_
              refine lv_goto (tgt := 62) hx hb dX6_runScript_58 (by decide) ?_
              refine xw_calli (va_runV (As := [.int 0]) (rest := []) ⟨hx, hb, hml, hown, hts⟩ (c_X6_refused l D y a0 a1 a2 a3 a4 a5 a6 H.size rf sz ac sp ou 0) (cwV 1 hts gX6_runScript_X6_refused rfl rfl rfl hd_X6_refused ⟨Nat.le_of_ble_eq_true rfl, Nat.le_of_ble_eq_true rfl⟩) (gV (q := (RX6, TX6, 11)) hE (hP.sub [0] rfl) (hD.sub [0] (by decide) rfl) 0 rfl rfl) rfl rfl hl.1 rfl (lv_room (Nat.le_of_ble_eq_true rfl)) dX6_runScript_62 ⟨Nat.le_of_ble_eq_true rfl, Nat.le_of_ble_eq_true rfl⟩) hP hD hS hA [0] rfl (by decide) (fun _ => rfl) (fun v48 u47 H locs h46 hP hD hS => ?_)
              have h46 := (rfd0 rf sz ac sp ou).symm.trans h46
              obtain ⟨rfl, rfl⟩ := Prod.mk.inj h46
              have hP : va_P D vwCl [(a0, .inr (5, [.int 0, .ref a1, .int sz, .ref a2, .ref a3, .ref a4, .int ac, .ref a5, .ref a6, .int sp, .int ou])), (a1, .inl (y 0, 120, .inl tx)), (a2, .inl (y 0, 78, .inl nw)), (a3, .inl (y 0, 78, .inl tr)), (a4, .inl (y 0, 1092, .inl dy)), (a5, .inl (y 0, 156, .inl kp)), (a6, .inl (y 2, 2, .inl ik))] H := hP
              have hD : va_D A [(a0, .inr (5, [.int 0, .ref a1, .int sz, .ref a2, .ref a3, .ref a4, .int ac, .ref a5, .ref a6, .int sp, .int ou])), (a1, .inl (y 0, 120, .inl tx)), (a2, .inl (y 0, 78, .inl nw)), (a3, .inl (y 0, 78, .inl tr)), (a4, .inl (y 0, 1092, .inl dy)), (a5, .inl (y 0, 156, .inl kp)), (a6, .inl (y 2, 2, .inl ik))] := hD
              refine lv_if_eq (tgt := 70) hx hb dX6_runScript_65 (by decide) (fun c_49 => ?_) (fun c_49 => absurd (by decide) c_49)
              refine lv_aload_n hx hb dX6_runScript_70 rfl (lv_at hl 0 rfl) ?_
              refine va_get (D := D) (ci := 5) (v := .ref a2) (C := RX6) (T := TX6) (N := 11) hx hb hts hi6 hown hE.1 hP 0 rfl rfl 3 (by decide) w_3 (fun _ h9 => h9) rfl dX6_runScript_71 ?_
              refine lv_iconst (v := 0) hx hb dX6_runScript_74 (by decide) ?_
              refine lv_aload_n hx hb dX6_runScript_75 rfl (lv_at hl 0 rfl) ?_
              refine va_get (D := D) (ci := 5) (v := .ref a3) (C := RX6) (T := TX6) (N := 11) hx hb hts hi6 hown hE.1 hP 0 rfl rfl 4 (by decide) w_5 (fun _ h9 => h9) rfl dX6_runScript_76 ?_
              refine lv_iconst (v := 0) hx hb dX6_runScript_79 (by decide) ?_
              refine xw_callv (va_runS (As := [.ref a2, .int 0, .ref a3, .int 0]) (rest := []) ⟨hx, hb, hml, hown, hts⟩ (c_X6_copyState l D y a2 a3 H.size 78 nw 78 tr 0 0 okA0 okA0) (va_cwS 4 hts gX6_runScript_X6_copyState rfl rfl rfl hd_X6_copyState ⟨Nat.le_of_ble_eq_true rfl, Nat.le_of_ble_eq_true rfl⟩) (gS hE (hP.sub [2, 3] rfl) (hD.sub [2, 3] (by decide) rfl)) rfl rfl hl.1 rfl (lv_room (Nat.le_of_ble_eq_true rfl)) dX6_runScript_80 ⟨Nat.le_of_ble_eq_true rfl, Nat.le_of_ble_eq_true rfl⟩) hP hD hS hA [2, 3] rfl (by decide) (fun _ => rfl) (fun u51 H locs h50 hP hD hS => ?_)
              have hF := hF.trans (gLet_e h50)
              have hP : va_P D vwCl [(a0, .inr (5, [.int 0, .ref a1, .int sz, .ref a2, .ref a3, .ref a4, .int ac, .ref a5, .ref a6, .int sp, .int ou])), (a1, .inl (y 0, 120, .inl tx)), (a2, .inl (y 0, 78, .inl nw)), (a3, .inl (y 0, 78, .inl u51)), (a4, .inl (y 0, 1092, .inl dy)), (a5, .inl (y 0, 156, .inl kp)), (a6, .inl (y 2, 2, .inl ik))] H := hP
              have hD : va_D A [(a0, .inr (5, [.int 0, .ref a1, .int sz, .ref a2, .ref a3, .ref a4, .int ac, .ref a5, .ref a6, .int sp, .int ou])), (a1, .inl (y 0, 120, .inl tx)), (a2, .inl (y 0, 78, .inl nw)), (a3, .inl (y 0, 78, .inl u51)), (a4, .inl (y 0, 1092, .inl dy)), (a5, .inl (y 0, 156, .inl kp)), (a6, .inl (y 2, 2, .inl ik))] := hD
              refine lv_iconst (v := 0) hx hb dX6_runScript_83 (by decide) ?_
              refine lv_istore (lv' := [(6, .int 0), (0, .ref a0), (1, .int p0), (2, .long p1), (4, .long x4)]) hx hb dX6_runScript_84 hl (by decide) rfl (fun ls hl => ?_)
              exact loop_86 _ x4 0 0 u51 (rs_AB rsa (by first | exact Or.inl (by assumption) | exact Or.inr (by assumption)) h32 (by assumption)) ((by rw [← h50]; exact cp_okN _ hm.2.2)) (Nat.lt_succ_self _) hF _ _ hP hD hS ls (lv_sub hl [1, 2, 3, 4, 0] rfl)
        · have hF := hF.trans (if_neg c_31)
          refine lv_lload hx hb dX6_runScript_18 (lv_at hl 3 rfl) ?_
          refine lv_ldc2 (v := 1000000) hx hb hown w_0 dX6_runScript_20 ?_
          refine lv_lmul hx hb dX6_runScript_23 ?_
          refine lv_lstore (lv' := [(4, .long (x4 * 1000000)), (0, .ref a0), (1, .int p0), (2, .long p1), (6, .int x6)]) hx hb dX6_runScript_24 hl (by decide) rfl (fun ls hl => ?_)
          refine lv_iinc (v := (x6 + 1)) (lv' := [(6, .int (x6 + 1)), (4, .long (x4 * 1000000)), (0, .ref a0), (1, .int p0), (2, .long p1)]) hx hb dX6_runScript_26 hl (k := 4) rfl rfl (by decide) rfl (fun ls hl => ?_)
          refine lv_goto (tgt := 6) hx hb dX6_runScript_29 (by decide) ?_
          exact ih (x4 * 1000000) (x6 + 1) (rsA_s rsa (by assumption) (by assumption)) (lp_up (by assumption) hμ) hF _ _ hP hD hS ls (lv_sub hl [2, 3, 4, 1, 0] rfl)
  have hF := f_X6_runScript_s rf sz ac sp ou tx nw tr dy kp ik p0 p1
  refine lv_lconst (v := 1) hx hb dX6_runScript_0 (by decide) ?_
  refine lv_lstore (lv' := [(4, .long 1), (0, .ref a0), (1, .int p0), (2, .long p1)]) hx hb dX6_runScript_1 hl (by decide) rfl (fun ls hl => ?_)
  refine lv_iconst (v := 0) hx hb dX6_runScript_3 (by decide) ?_
  refine lv_istore (lv' := [(6, .int 0), (4, .long 1), (0, .ref a0), (1, .int p0), (2, .long p1)]) hx hb dX6_runScript_4 hl (by decide) rfl (fun ls hl => ?_)
  exact loop_6 _ 1 0 (rsA_0 _) (Nat.lt_succ_self _) hF _ _ hP hD hS ls (lv_sub hl [2, 3, 4, 1, 0] rfl)

def f_X6_simulate_L56 (sz : Int32) (ac : Int32) (sp : Int32) (ou : Int32) (tx : Nat → Int32) (nw : gR) (dy : Nat → Int32) (kp : Nat → Int32) (ik : Nat → Int32) (p1 : Int32) : Nat → Int64 → Int32 → Int32 → gR → Int32 × Int32 × Int32 × Int32 × Int32 × Int32 × (Nat → Int32) × gR × gR × (Nat → Int32) × (Nat → Int32) × (Nat → Int32)
  | 0, _, _, rf_, tr_ => (0, rf_, sz, ac, sp, ou, tx, nw, tr_, dy, kp, ik)
  | n + 1, x4, x6, rf_, tr_ =>
    if p1 ≤ x6 then
    gLet (f_X6_greatest tr_) (fun (v3 : Int32) =>
      (((1000 * ((tr_ 6) - (nw 6))) + v3), rf_, sz, ac, sp, ou, tx, nw, tr_, dy, kp, ik))
  else
    gLet (((((x4 * 6364136223846793005) + 1442695040888963407).toUInt64 >>> ((33 : Int32).toInt64.toUInt64 &&& Int64.toUInt64 63)).toInt64).toInt32) (fun (v4 : Int32) =>
      if (tr_ 8) = 0 then
        gLet (v4 - v4 / 4 * 4) (fun (v6 : Int32) =>
          if v6 = 0 then
            gLet ((v4 / 128) - (v4 / 128) / 1000 * 1000) (fun (v14 : Int32) =>
              gLet (f_X6_writeOn tr_ 0 v14) (fun (q18 : Int32 × gR) =>
                f_X6_simulate_L56 sz ac sp ou tx nw dy kp ik p1 n ((x4 * 6364136223846793005) + 1442695040888963407) (x6 + 1) rf_ q18.2))
          else
            gLet ((v4 / 4) - (v4 / 4) / (tr_ 0) * (tr_ 0)) (fun (v8 : Int32) =>
              gLet ((v4 / 128) - (v4 / 128) / 1000 * 1000) (fun (v9 : Int32) =>
                gLet (f_X6_writeOn tr_ v8 v9) (fun (q13 : Int32 × gR) =>
                  f_X6_simulate_L56 sz ac sp ou tx nw dy kp ik p1 n ((x4 * 6364136223846793005) + 1442695040888963407) (x6 + 1) rf_ q13.2))))
      else
        f_X6_simulate_L56 sz ac sp ou tx nw dy kp ik p1 n ((x4 * 6364136223846793005) + 1442695040888963407) (x6 + 1) rf_ tr_)
theorem f_X6_simulate_L56_s (sz : Int32) (ac : Int32) (sp : Int32) (ou : Int32) (tx : Nat → Int32) (nw : gR) (dy : Nat → Int32) (kp : Nat → Int32) (ik : Nat → Int32) (p1 : Int32) (n : Nat) (x4 : Int64) (x6 : Int32) (rf_ : Int32) (tr_ : gR) : f_X6_simulate_L56 sz ac sp ou tx nw dy kp ik p1 (n + 1) x4 x6 rf_ tr_ =
    (if p1 ≤ x6 then
    gLet (f_X6_greatest tr_) (fun (v3 : Int32) =>
      (((1000 * ((tr_ 6) - (nw 6))) + v3), rf_, sz, ac, sp, ou, tx, nw, tr_, dy, kp, ik))
  else
    gLet (((((x4 * 6364136223846793005) + 1442695040888963407).toUInt64 >>> ((33 : Int32).toInt64.toUInt64 &&& Int64.toUInt64 63)).toInt64).toInt32) (fun (v4 : Int32) =>
      if (tr_ 8) = 0 then
        gLet (v4 - v4 / 4 * 4) (fun (v6 : Int32) =>
          if v6 = 0 then
            gLet ((v4 / 128) - (v4 / 128) / 1000 * 1000) (fun (v14 : Int32) =>
              gLet (f_X6_writeOn tr_ 0 v14) (fun (q18 : Int32 × gR) =>
                f_X6_simulate_L56 sz ac sp ou tx nw dy kp ik p1 n ((x4 * 6364136223846793005) + 1442695040888963407) (x6 + 1) rf_ q18.2))
          else
            gLet ((v4 / 4) - (v4 / 4) / (tr_ 0) * (tr_ 0)) (fun (v8 : Int32) =>
              gLet ((v4 / 128) - (v4 / 128) / 1000 * 1000) (fun (v9 : Int32) =>
                gLet (f_X6_writeOn tr_ v8 v9) (fun (q13 : Int32 × gR) =>
                  f_X6_simulate_L56 sz ac sp ou tx nw dy kp ik p1 n ((x4 * 6364136223846793005) + 1442695040888963407) (x6 + 1) rf_ q13.2))))
      else
        f_X6_simulate_L56 sz ac sp ou tx nw dy kp ik p1 n ((x4 * 6364136223846793005) + 1442695040888963407) (x6 + 1) rf_ tr_)) := rfl
def f_X6_simulate (rf : Int32) (sz : Int32) (ac : Int32) (sp : Int32) (ou : Int32) (tx : Nat → Int32) (nw : gR) (tr : gR) (dy : Nat → Int32) (kp : Nat → Int32) (ik : Nat → Int32) (p0 : Int64) (p1 : Int32) : Int32 × Int32 × Int32 × Int32 × Int32 × Int32 × (Nat → Int32) × gR × gR × (Nat → Int32) × (Nat → Int32) × (Nat → Int32) :=
    gLet (f_X6_in p1.toInt64 1 300) (fun (v20 : Int32) =>
    if v20 = 0 then
      (0, 1, sz, ac, sp, ou, tx, nw, tr, dy, kp, ik)
    else
      if (nw 0) = 0 then
        (0, 0, sz, ac, sp, ou, tx, nw, tr, dy, kp, ik)
      else
        gLet (f_X6_copyState 78 nw 78 tr 0 0) (fun (u32 : (Nat → Int32)) =>
          f_X6_simulate_L56 sz ac sp ou tx nw dy kp ik p1 ((p1.toInt - (0 : Int32).toInt).toNat + 1) p0 0 0 u32))
theorem f_X6_simulate_s (rf : Int32) (sz : Int32) (ac : Int32) (sp : Int32) (ou : Int32) (tx : Nat → Int32) (nw : gR) (tr : gR) (dy : Nat → Int32) (kp : Nat → Int32) (ik : Nat → Int32) (p0 : Int64) (p1 : Int32) : f_X6_simulate rf sz ac sp ou tx nw tr dy kp ik p0 p1 =
    (gLet (f_X6_in p1.toInt64 1 300) (fun (v20 : Int32) =>
    if v20 = 0 then
      (0, 1, sz, ac, sp, ou, tx, nw, tr, dy, kp, ik)
    else
      if (nw 0) = 0 then
        (0, 0, sz, ac, sp, ou, tx, nw, tr, dy, kp, ik)
      else
        gLet (f_X6_copyState 78 nw 78 tr 0 0) (fun (u32 : (Nat → Int32)) =>
          f_X6_simulate_L56 sz ac sp ou tx nw dy kp ik p1 ((p1.toInt - (0 : Int32).toInt).toNat + 1) p0 0 0 u32))) := rfl
theorem hd_X6_simulate : yX6_simulate.cls = RX6 ∧ yX6_simulate.cls ≠ "java/lang/invoke/MethodHandle" ∧ yX6_simulate.cls ≠ "java/lang/invoke/VarHandle" ∧ (parseMethodDescriptor yX6_simulate.desc).map (fun d => d.parameters.length) = some 2 := by decide +kernel
set_option maxHeartbeats 4000000 in
set_option maxRecDepth 100000 in
theorem c_X6_simulate (l : Launch) (D : va_G) (y : Nat → ClassId) (a0 a1 a2 a3 a4 a5 a6 : Nat) (zh : Nat) (rf : Int32) (sz : Int32) (ac : Int32) (sp : Int32) (ou : Int32) (tx : Nat → Int32) (nw : gR) (tr : gR) (dy : Nat → Int32) (kp : Nat → Int32) (ik : Nat → Int32) (p0 : Int64) (p1 : Int32) (hm : okMd sz ac nw) : Met l yX6_simulate wsX6_simulate ({ frames := 3, cells := 0, slots := 0, locals := 68 }) (gP D y [.ref a0, .long p0, .int p1] zh [(a0, .inr (5, [.int rf, .ref a1, .int sz, .ref a2, .ref a3, .ref a4, .int ac, .ref a5, .ref a6, .int sp, .int ou])), (a1, .inl (y 0, 120, .inl tx)), (a2, .inl (y 0, 78, .inl nw)), (a3, .inl (y 0, 78, .inl tr)), (a4, .inl (y 0, 1092, .inl dy)), (a5, .inl (y 0, 156, .inl kp)), (a6, .inl (y 2, 2, .inl ik))]) (va_Qi (fun (v : Int32) (u : Int32 × Int32 × Int32 × Int32 × Int32 × (Nat → Int32) × gR × gR × (Nat → Int32) × (Nat → Int32) × (Nat → Int32)) => f_X6_simulate rf sz ac sp ou tx nw tr dy kp ik p0 p1 = (v, u)) (fun (u : Int32 × Int32 × Int32 × Int32 × Int32 × (Nat → Int32) × gR × gR × (Nat → Int32) × (Nat → Int32) × (Nat → Int32)) t => va_P D vwCl [(a0, .inr (5, [.int u.1, .ref a1, .int u.2.1, .ref a2, .ref a3, .ref a4, .int u.2.2.1, .ref a5, .ref a6, .int u.2.2.2.1, .int u.2.2.2.2.1])), (a1, .inl (y 0, 120, .inl u.2.2.2.2.2.1)), (a2, .inl (y 0, 78, .inl u.2.2.2.2.2.2.1)), (a3, .inl (y 0, 78, .inl u.2.2.2.2.2.2.2.1)), (a4, .inl (y 0, 1092, .inl u.2.2.2.2.2.2.2.2.1)), (a5, .inl (y 0, 156, .inl u.2.2.2.2.2.2.2.2.2.1)), (a6, .inl (y 2, 2, .inl u.2.2.2.2.2.2.2.2.2.2))] t.heap ∧ va_D (va_A [(a0, .inr (5, [.int rf, .ref a1, .int sz, .ref a2, .ref a3, .ref a4, .int ac, .ref a5, .ref a6, .int sp, .int ou])), (a1, .inl (y 0, 120, .inl tx)), (a2, .inl (y 0, 78, .inl nw)), (a3, .inl (y 0, 78, .inl tr)), (a4, .inl (y 0, 1092, .inl dy)), (a5, .inl (y 0, 156, .inl kp)), (a6, .inl (y 2, 2, .inl ik))] zh) [(a0, .inr (5, [.int u.1, .ref a1, .int u.2.1, .ref a2, .ref a3, .ref a4, .int u.2.2.1, .ref a5, .ref a6, .int u.2.2.2.1, .int u.2.2.2.2.1])), (a1, .inl (y 0, 120, .inl u.2.2.2.2.2.1)), (a2, .inl (y 0, 78, .inl u.2.2.2.2.2.2.1)), (a3, .inl (y 0, 78, .inl u.2.2.2.2.2.2.2.1)), (a4, .inl (y 0, 1092, .inl u.2.2.2.2.2.2.2.2.1)), (a5, .inl (y 0, 156, .inl u.2.2.2.2.2.2.2.2.2.1)), (a6, .inl (y 2, 2, .inl u.2.2.2.2.2.2.2.2.2.2))]) (va_A [(a0, .inr (5, [.int rf, .ref a1, .int sz, .ref a2, .ref a3, .ref a4, .int ac, .ref a5, .ref a6, .int sp, .int ou])), (a1, .inl (y 0, 120, .inl tx)), (a2, .inl (y 0, 78, .inl nw)), (a3, .inl (y 0, 78, .inl tr)), (a4, .inl (y 0, 1092, .inl dy)), (a5, .inl (y 0, 156, .inl kp)), (a6, .inl (y 2, 2, .inl ik))] zh)) 0 0 (va_A [(a0, .inr (5, [.int rf, .ref a1, .int sz, .ref a2, .ref a3, .ref a4, .int ac, .ref a5, .ref a6, .int sp, .int ou])), (a1, .inl (y 0, 120, .inl tx)), (a2, .inl (y 0, 78, .inl nw)), (a3, .inl (y 0, 78, .inl tr)), (a4, .inl (y 0, 1092, .inl dy)), (a5, .inl (y 0, 156, .inl kp)), (a6, .inl (y 2, 2, .inl ik))] zh) := by
  refine Met.ofW (cc := cX6_simulate) (maxL := 8) (ret := (some .int)) (by decide) rfl ?_
  intro p e s m args below meth c s₁ B hml hv
  obtain ⟨rfl, hsz, hP, hE, hD⟩ := hv
  have hx := B.exec
  have hb := B.bytes
  have hr := B.returns
  have hts := atoms_spec (ws := wsX6_simulate) B.pre
  have hown : s.vm.findClass RX6 = some m.cls := findClass_of_methodNamed B.named
  have hlocks := B.notSynchronized
  have w_0 := hts (.fieldLink RX6 16 "GapLinesModel" "trial" "[I") (List.mem_cons_of_mem _ (List.mem_append_left _ (List.mem_append_left _ (List.mem_of_getElem? (i := 2) rfl))))
  have hi6 : ∀ w ∈ u_ws RX6 TX6 11, w ∈ wsX6_simulate := fun w h => (List.mem_cons_of_mem _ (List.mem_append_right _ h))
  have w_2 := hts (.fieldLink RX6 13 "GapLinesModel" "now" "[I") (List.mem_cons_of_mem _ (List.mem_append_left _ (List.mem_append_left _ (List.mem_of_getElem? (i := 1) rfl))))
  have w_3 := hts (.constantLong RX6 172 (6364136223846793005)) (List.mem_cons_of_mem _ (List.mem_append_left _ (List.mem_append_left _ (List.mem_of_getElem? (i := 3) rfl))))
  have w_4 := hts (.constantLong RX6 174 (1442695040888963407)) (List.mem_cons_of_mem _ (List.mem_append_left _ (List.mem_append_left _ (List.mem_of_getElem? (i := 4) rfl))))
  have w_5 := hts (.constantLong RX6 170 (300)) (List.mem_cons_of_mem _ (List.mem_append_left _ (List.mem_append_left _ (List.mem_of_getElem? (i := 0) rfl))))
  subst hsz
  have hD := hD.self (sz := s.heap.size)
  generalize hAe : va_A [(a0, .inr (5, [.int rf, .ref a1, .int sz, .ref a2, .ref a3, .ref a4, .int ac, .ref a5, .ref a6, .int sp, .int ou])), (a1, .inl (y 0, 120, .inl tx)), (a2, .inl (y 0, 78, .inl nw)), (a3, .inl (y 0, 78, .inl tr)), (a4, .inl (y 0, 1092, .inl dy)), (a5, .inl (y 0, 156, .inl kp)), (a6, .inl (y 2, 2, .inl ik))] s.heap.size = A at hD ⊢
  have hA : ∀ q : Nat, s.heap.size ≤ q → A q := fun q h => by rw [← hAe]; exact Or.inr h
  have hS : va_S A s.heap s.heap [] := va_S.rf
  have hl := lv_entry ([.ref a0, .long p0, .int p1]) (n := 8) (Nat.le_of_ble_eq_true rfl)
  rw [lg_entry_eq]
  generalize (lg_sl ([.ref a0, .long p0, .int p1]) ++ List.replicate (8 - (lg_sl ([.ref a0, .long p0, .int p1])).length) Slot.unset).toArray = ls at hl ⊢
  have hl : lv_has ls 8 [(0, .ref a0), (1, .long p0), (3, .int p1)] := hl
  have loop_56 : ∀ (n : Nat) (x4 : Int64) (x6 : Int32) (rf_ : Int32) (tr_ : gR) (om_ : okM tr_), (p1.toInt - x6.toInt).toNat < n → f_X6_simulate rf sz ac sp ou tx nw tr dy kp ik p0 p1 = f_X6_simulate_L56 sz ac sp ou tx nw dy kp ik p1 n x4 x6 rf_ tr_ → ∀ (H : Heap) (locs : List Loc), va_P D vwCl [(a0, .inr (5, [.int rf_, .ref a1, .int sz, .ref a2, .ref a3, .ref a4, .int ac, .ref a5, .ref a6, .int sp, .int ou])), (a1, .inl (y 0, 120, .inl tx)), (a2, .inl (y 0, 78, .inl nw)), (a3, .inl (y 0, 78, .inl tr_)), (a4, .inl (y 0, 1092, .inl dy)), (a5, .inl (y 0, 156, .inl kp)), (a6, .inl (y 2, 2, .inl ik))] H → va_D A [(a0, .inr (5, [.int rf_, .ref a1, .int sz, .ref a2, .ref a3, .ref a4, .int ac, .ref a5, .ref a6, .int sp, .int ou])), (a1, .inl (y 0, 120, .inl tx)), (a2, .inl (y 0, 78, .inl nw)), (a3, .inl (y 0, 78, .inl tr_)), (a4, .inl (y 0, 1092, .inl dy)), (a5, .inl (y 0, 156, .inl kp)), (a6, .inl (y 2, 2, .inl ik))] → va_S A s.heap H locs → ∀ (ls : Array Slot), lv_has ls 8 [(0, .ref a0), (3, .int p1), (4, .long x4), (6, .int x6)] → W p l e (headSpec wsX6_simulate ({ frames := 3, cells := 0, slots := 0, locals := 68 })).room s m ([.ref a0, .long p0, .int p1] : List Value).toArray below meth c H locs 0 0 (MQ below (va_Qi (fun (v : Int32) (u : Int32 × Int32 × Int32 × Int32 × Int32 × (Nat → Int32) × gR × gR × (Nat → Int32) × (Nat → Int32) × (Nat → Int32)) => f_X6_simulate rf sz ac sp ou tx nw tr dy kp ik p0 p1 = (v, u)) (fun (u : Int32 × Int32 × Int32 × Int32 × Int32 × (Nat → Int32) × gR × gR × (Nat → Int32) × (Nat → Int32) × (Nat → Int32)) t => va_P D vwCl [(a0, .inr (5, [.int u.1, .ref a1, .int u.2.1, .ref a2, .ref a3, .ref a4, .int u.2.2.1, .ref a5, .ref a6, .int u.2.2.2.1, .int u.2.2.2.2.1])), (a1, .inl (y 0, 120, .inl u.2.2.2.2.2.1)), (a2, .inl (y 0, 78, .inl u.2.2.2.2.2.2.1)), (a3, .inl (y 0, 78, .inl u.2.2.2.2.2.2.2.1)), (a4, .inl (y 0, 1092, .inl u.2.2.2.2.2.2.2.2.1)), (a5, .inl (y 0, 156, .inl u.2.2.2.2.2.2.2.2.2.1)), (a6, .inl (y 2, 2, .inl u.2.2.2.2.2.2.2.2.2.2))] t.heap ∧ va_D (A) [(a0, .inr (5, [.int u.1, .ref a1, .int u.2.1, .ref a2, .ref a3, .ref a4, .int u.2.2.1, .ref a5, .ref a6, .int u.2.2.2.1, .int u.2.2.2.2.1])), (a1, .inl (y 0, 120, .inl u.2.2.2.2.2.1)), (a2, .inl (y 0, 78, .inl u.2.2.2.2.2.2.1)), (a3, .inl (y 0, 78, .inl u.2.2.2.2.2.2.2.1)), (a4, .inl (y 0, 1092, .inl u.2.2.2.2.2.2.2.2.1)), (a5, .inl (y 0, 156, .inl u.2.2.2.2.2.2.2.2.2.1)), (a6, .inl (y 2, 2, .inl u.2.2.2.2.2.2.2.2.2.2))]) A) ([.ref a0, .long p0, .int p1] : List Value).toArray s 0 0 A) (F0 m 56 ls []) := by
    intro n
    induction n with
    | zero =>
      intro x4 x6 rf_ tr_ om_ hμ
      exact absurd hμ (Nat.not_lt_zero _)
    | succ n ih =>
      intro x4 x6 rf_ tr_ om_ hμ hF H locs hP hD hS ls hl
      have hF := hF.trans (f_X6_simulate_L56_s sz ac sp ou tx nw dy kp ik p1 n x4 x6 rf_ tr_)
      refine lv_iload hx hb dX6_simulate_56 (lv_at hl 3 rfl) ?_
      refine lv_iload_n hx hb dX6_simulate_58 rfl (lv_at hl 1 rfl) ?_
      refine lv_icmp_ge (tgt := 138) hx hb dX6_simulate_59 (by decide) (fun c_1 => ?_) (fun c_1 => ?_)
      · have hF := hF.trans (if_pos c_1)
        refine lv_sipush (v := 1000) hx hb dX6_simulate_138 (by decide) ?_
        refine lv_aload_n hx hb dX6_simulate_141 rfl (lv_at hl 0 rfl) ?_
        refine va_get (D := D) (ci := 5) (v := .ref a3) (C := RX6) (T := TX6) (N := 11) hx hb hts hi6 hown hE.1 hP 0 rfl rfl 4 (by decide) w_0 (fun _ h9 => h9) rfl dX6_simulate_142 ?_
        refine lv_bipush (v := 6) hx hb dX6_simulate_145 (by decide) ?_
        refine xa_iald (k := 6) (v := tr_ 6) hx hb hE.1 hP 3 0 rfl rfl (xin (by decide)) rfl rfl dX6_simulate_147 ?_
        refine lv_aload_n hx hb dX6_simulate_148 rfl (lv_at hl 0 rfl) ?_
        refine va_get (D := D) (ci := 5) (v := .ref a2) (C := RX6) (T := TX6) (N := 11) hx hb hts hi6 hown hE.1 hP 0 rfl rfl 3 (by decide) w_2 (fun _ h9 => h9) rfl dX6_simulate_149 ?_
        refine lv_bipush (v := 6) hx hb dX6_simulate_152 (by decide) ?_
        refine xa_iald (k := 6) (v := nw 6) hx hb hE.1 hP 2 0 rfl rfl (xin (by decide)) rfl rfl dX6_simulate_154 ?_
        refine lv_isub hx hb dX6_simulate_155 ?_
        refine lv_imul hx hb dX6_simulate_156 ?_
        refine lv_aload_n hx hb dX6_simulate_157 rfl (lv_at hl 0 rfl) ?_
        refine va_get (D := D) (ci := 5) (v := .ref a3) (C := RX6) (T := TX6) (N := 11) hx hb hts hi6 hown hE.1 hP 0 rfl rfl 4 (by decide) w_0 (fun _ h9 => h9) rfl dX6_simulate_158 ?_
        refine xs_calli (va_runS (As := [.ref a3]) (rest := [.int (1000 * ((tr_ 6) - (nw 6)))]) ⟨hx, hb, hml, hown, hts⟩ (c_X6_greatest l D y a3 H.size tr_ om_.2.1) (va_cwS 1 hts gX6_simulate_X6_greatest rfl rfl rfl hd_X6_greatest ⟨Nat.le_of_ble_eq_true rfl, Nat.le_of_ble_eq_true rfl⟩) (gS hE (hP.sub [3] rfl) (hD.sub [3] (by decide) rfl)) rfl rfl hl.1 rfl (lv_room (Nat.le_of_ble_eq_true rfl)) dX6_simulate_161 ⟨Nat.le_of_ble_eq_true rfl, Nat.le_of_ble_eq_true rfl⟩) (fun v3 h2 => ?_)
        have hF := hF.trans (gLet_e h2)
        refine lv_iadd hx hb dX6_simulate_164 ?_
        exact W.iret (v := ((1000 * ((tr_ 6) - (nw 6))) + v3)) hx hb hr (fun t ht hW => ⟨⟨((1000 * ((tr_ 6) - (nw 6))) + v3), ⟨rf_, sz, ac, sp, ou, tx, nw, tr_, dy, kp, ik⟩, rfl, hF, ⟨by rw [ht]; exact hP, hD⟩⟩, hS.F ht⟩) hS.2.2 dX6_simulate_165
      · have hF := hF.trans (if_neg c_1)
        refine lv_lload hx hb dX6_simulate_62 (lv_at hl 2 rfl) ?_
        refine lv_ldc2 (v := 6364136223846793005) hx hb hown w_3 dX6_simulate_64 ?_
        refine lv_lmul hx hb dX6_simulate_67 ?_
        refine lv_ldc2 (v := 1442695040888963407) hx hb hown w_4 dX6_simulate_68 ?_
        refine lv_ladd hx hb dX6_simulate_71 ?_
        refine lv_lstore (lv' := [(4, .long ((x4 * 6364136223846793005) + 1442695040888963407)), (0, .ref a0), (3, .int p1), (6, .int x6)]) hx hb dX6_simulate_72 hl (by decide) rfl (fun ls hl => ?_)
        refine lv_lload hx hb dX6_simulate_74 (lv_at hl 0 rfl) ?_
        refine lv_bipush (v := 33) hx hb dX6_simulate_76 (by decide) ?_
        refine lv_lushr (v := (((x4 * 6364136223846793005) + 1442695040888963407).toUInt64 >>> ((33 : Int32).toInt64.toUInt64 &&& Int64.toUInt64 63)).toInt64) hx hb dX6_simulate_78 rfl ?_
        refine lv_l2i (v := ((((x4 * 6364136223846793005) + 1442695040888963407).toUInt64 >>> ((33 : Int32).toInt64.toUInt64 &&& Int64.toUInt64 63)).toInt64).toInt32) hx hb dX6_simulate_79 rfl ?_
        obtain ⟨v4, ev4⟩ : ∃ z : Int32, ((((x4 * 6364136223846793005) + 1442695040888963407).toUInt64 >>> ((33 : Int32).toInt64.toUInt64 &&& Int64.toUInt64 63)).toInt64).toInt32 = z := ⟨_, rfl⟩
        rw [ev4]
        have hF := hF.trans (gLet_e ev4)
        refine lv_istore (lv' := [(7, .int v4), (4, .long ((x4 * 6364136223846793005) + 1442695040888963407)), (0, .ref a0), (3, .int p1), (6, .int x6)]) hx hb dX6_simulate_80 hl (by decide) rfl (fun ls hl => ?_)
        refine lv_aload_n hx hb dX6_simulate_82 rfl (lv_at hl 2 rfl) ?_
        refine va_get (D := D) (ci := 5) (v := .ref a3) (C := RX6) (T := TX6) (N := 11) hx hb hts hi6 hown hE.1 hP 0 rfl rfl 4 (by decide) w_0 (fun _ h9 => h9) rfl dX6_simulate_83 ?_
        refine lv_bipush (v := 8) hx hb dX6_simulate_86 (by decide) ?_
        refine xa_iald (k := 8) (v := tr_ 8) hx hb hE.1 hP 3 0 rfl rfl (xin (by decide)) rfl rfl dX6_simulate_88 ?_
        refine lv_if_ne (tgt := 132) hx hb dX6_simulate_89 (by decide) (fun c_5 => ?_) (fun c_5 => ?_)
        · have hF := hF.trans (if_neg c_5)
          refine lv_iinc (v := (x6 + 1)) (lv' := [(6, .int (x6 + 1)), (7, .int v4), (4, .long ((x4 * 6364136223846793005) + 1442695040888963407)), (0, .ref a0), (3, .int p1)]) hx hb dX6_simulate_132 hl (k := 4) rfl rfl (by decide) rfl (fun ls hl => ?_)
          refine lv_goto (tgt := 56) hx hb dX6_simulate_135 (by decide) ?_
          exact ih ((x4 * 6364136223846793005) + 1442695040888963407) (x6 + 1) rf_ tr_ (om_) (lp_up (by assumption) hμ) hF _ _ hP hD hS ls (lv_sub hl [3, 4, 2, 0] rfl)
        · have hF := hF.trans (if_pos c_5)
          refine lv_aload_n hx hb dX6_simulate_92 rfl (lv_at hl 2 rfl) ?_
          refine va_get (D := D) (ci := 5) (v := .ref a3) (C := RX6) (T := TX6) (N := 11) hx hb hts hi6 hown hE.1 hP 0 rfl rfl 4 (by decide) w_0 (fun _ h9 => h9) rfl dX6_simulate_93 ?_
          refine lv_iload hx hb dX6_simulate_96 (lv_at hl 0 rfl) ?_
          refine lv_iconst (v := 4) hx hb dX6_simulate_98 (by decide) ?_
          refine lv_irem hx hb dX6_simulate_99 (by decide) ?_
          obtain ⟨v6, ev6⟩ : ∃ z : Int32, v4 - v4 / 4 * 4 = z := ⟨_, rfl⟩
          rw [ev6]
          have hF := hF.trans (gLet_e ev6)
          refine lv_if_ne (tgt := 107) hx hb dX6_simulate_100 (by decide) (fun c_7 => ?_) (fun c_7 => ?_)
          · have hF := hF.trans (if_neg c_7)
            refine lv_iload hx hb dX6_simulate_107 (lv_at hl 0 rfl) ?_
            refine lv_iconst (v := 4) hx hb dX6_simulate_109 (by decide) ?_
            refine lv_idiv hx hb dX6_simulate_110 (by decide) ?_
            refine lv_aload_n hx hb dX6_simulate_111 rfl (lv_at hl 2 rfl) ?_
            refine va_get (D := D) (ci := 5) (v := .ref a3) (C := RX6) (T := TX6) (N := 11) hx hb hts hi6 hown hE.1 hP 0 rfl rfl 4 (by decide) w_0 (fun _ h9 => h9) rfl dX6_simulate_112 ?_
            refine lv_iconst (v := 0) hx hb dX6_simulate_115 (by decide) ?_
            refine xa_iald (k := 0) (v := tr_ 0) hx hb hE.1 hP 3 0 rfl rfl (xin (by decide)) rfl rfl dX6_simulate_116 ?_
            refine lv_irem hx hb dX6_simulate_117 (okM_ne om_) ?_
            obtain ⟨v8, ev8⟩ : ∃ z : Int32, (v4 / 4) - (v4 / 4) / (tr_ 0) * (tr_ 0) = z := ⟨_, rfl⟩
            rw [ev8]
            have hF := hF.trans (gLet_e ev8)
            refine lv_iload hx hb dX6_simulate_118 (lv_at hl 0 rfl) ?_
            refine lv_sipush (v := 128) hx hb dX6_simulate_120 (by decide) ?_
            refine lv_idiv hx hb dX6_simulate_123 (by decide) ?_
            refine lv_sipush (v := 1000) hx hb dX6_simulate_124 (by decide) ?_
            refine lv_irem hx hb dX6_simulate_127 (by decide) ?_
            obtain ⟨v9, ev9⟩ : ∃ z : Int32, (v4 / 128) - (v4 / 128) / 1000 * 1000 = z := ⟨_, rfl⟩
            rw [ev9]
            have hF := hF.trans (gLet_e ev9)
            refine xw_calli (va_runS (As := [.ref a3, .int v8, .int v9]) (rest := []) ⟨hx, hb, hml, hown, hts⟩ (c_X6_writeOn l D y a3 H.size tr_ v8 v9 om_ (al_ix om_ (div_nn (by rw [← ev4]; exact sh33 _)) ev8)) (va_cwS 3 hts gX6_simulate_X6_writeOn rfl rfl rfl hd_X6_writeOn ⟨Nat.le_of_ble_eq_true rfl, Nat.le_of_ble_eq_true rfl⟩) (gS hE (hP.sub [3] rfl) (hD.sub [3] (by decide) rfl)) rfl rfl hl.1 rfl (lv_room (Nat.le_of_ble_eq_true rfl)) dX6_simulate_128 ⟨Nat.le_of_ble_eq_true rfl, Nat.le_of_ble_eq_true rfl⟩) hP hD hS hA [3] rfl (by decide) (fun _ => rfl) (fun v12 u11 H locs h10 hP hD hS => ?_)
            obtain ⟨q13, eq13⟩ : ∃ z : Int32 × gR, f_X6_writeOn tr_ v8 v9 = z := ⟨_, rfl⟩
            obtain ⟨rfl, rfl⟩ : q13.1 = v12 ∧ q13.2 = u11 := ⟨by rw [← eq13, h10], by rw [← eq13, h10]⟩
            have hF := hF.trans (gLet_e eq13)
            have hP : va_P D vwCl [(a0, .inr (5, [.int rf_, .ref a1, .int sz, .ref a2, .ref a3, .ref a4, .int ac, .ref a5, .ref a6, .int sp, .int ou])), (a1, .inl (y 0, 120, .inl tx)), (a2, .inl (y 0, 78, .inl nw)), (a3, .inl (y 0, 78, .inl q13.2)), (a4, .inl (y 0, 1092, .inl dy)), (a5, .inl (y 0, 156, .inl kp)), (a6, .inl (y 2, 2, .inl ik))] H := hP
            have hD : va_D A [(a0, .inr (5, [.int rf_, .ref a1, .int sz, .ref a2, .ref a3, .ref a4, .int ac, .ref a5, .ref a6, .int sp, .int ou])), (a1, .inl (y 0, 120, .inl tx)), (a2, .inl (y 0, 78, .inl nw)), (a3, .inl (y 0, 78, .inl q13.2)), (a4, .inl (y 0, 1092, .inl dy)), (a5, .inl (y 0, 156, .inl kp)), (a6, .inl (y 2, 2, .inl ik))] := hD
            refine lv_pop hx hb dX6_simulate_131 rfl ?_
            refine lv_iinc (v := (x6 + 1)) (lv' := [(6, .int (x6 + 1)), (7, .int v4), (4, .long ((x4 * 6364136223846793005) + 1442695040888963407)), (0, .ref a0), (3, .int p1)]) hx hb dX6_simulate_132 hl (k := 4) rfl rfl (by decide) rfl (fun ls hl => ?_)
            refine lv_goto (tgt := 56) hx hb dX6_simulate_135 (by decide) ?_
            exact ih ((x4 * 6364136223846793005) + 1442695040888963407) (x6 + 1) rf_ q13.2 ((by rw [← eq13]; exact okM_X6_writeOn _ _ _ om_ (al_ix om_ (div_nn (by rw [← ev4]; exact sh33 _)) ev8))) (lp_up (by assumption) hμ) hF _ _ hP hD hS ls (lv_sub hl [3, 4, 2, 0] rfl)
          · have hF := hF.trans (if_pos c_7)
            refine lv_iconst (v := 0) hx hb dX6_simulate_103 (by decide) ?_
            refine lv_goto (tgt := 118) hx hb dX6_simulate_104 (by decide) ?_
            refine lv_iload hx hb dX6_simulate_118 (lv_at hl 0 rfl) ?_
            refine lv_sipush (v := 128) hx hb dX6_simulate_120 (by decide) ?_
            refine lv_idiv hx hb dX6_simulate_123 (by decide) ?_
            refine lv_sipush (v := 1000) hx hb dX6_simulate_124 (by decide) ?_
            refine lv_irem hx hb dX6_simulate_127 (by decide) ?_
            obtain ⟨v14, ev14⟩ : ∃ z : Int32, (v4 / 128) - (v4 / 128) / 1000 * 1000 = z := ⟨_, rfl⟩
            rw [ev14]
            have hF := hF.trans (gLet_e ev14)
            refine xw_calli (va_runS (As := [.ref a3, .int 0, .int v14]) (rest := []) ⟨hx, hb, hml, hown, hts⟩ (c_X6_writeOn l D y a3 H.size tr_ 0 v14 om_ ⟨by decide, om_.1⟩) (va_cwS 3 hts gX6_simulate_X6_writeOn rfl rfl rfl hd_X6_writeOn ⟨Nat.le_of_ble_eq_true rfl, Nat.le_of_ble_eq_true rfl⟩) (gS hE (hP.sub [3] rfl) (hD.sub [3] (by decide) rfl)) rfl rfl hl.1 rfl (lv_room (Nat.le_of_ble_eq_true rfl)) dX6_simulate_128 ⟨Nat.le_of_ble_eq_true rfl, Nat.le_of_ble_eq_true rfl⟩) hP hD hS hA [3] rfl (by decide) (fun _ => rfl) (fun v17 u16 H locs h15 hP hD hS => ?_)
            obtain ⟨q18, eq18⟩ : ∃ z : Int32 × gR, f_X6_writeOn tr_ 0 v14 = z := ⟨_, rfl⟩
            obtain ⟨rfl, rfl⟩ : q18.1 = v17 ∧ q18.2 = u16 := ⟨by rw [← eq18, h15], by rw [← eq18, h15]⟩
            have hF := hF.trans (gLet_e eq18)
            have hP : va_P D vwCl [(a0, .inr (5, [.int rf_, .ref a1, .int sz, .ref a2, .ref a3, .ref a4, .int ac, .ref a5, .ref a6, .int sp, .int ou])), (a1, .inl (y 0, 120, .inl tx)), (a2, .inl (y 0, 78, .inl nw)), (a3, .inl (y 0, 78, .inl q18.2)), (a4, .inl (y 0, 1092, .inl dy)), (a5, .inl (y 0, 156, .inl kp)), (a6, .inl (y 2, 2, .inl ik))] H := hP
            have hD : va_D A [(a0, .inr (5, [.int rf_, .ref a1, .int sz, .ref a2, .ref a3, .ref a4, .int ac, .ref a5, .ref a6, .int sp, .int ou])), (a1, .inl (y 0, 120, .inl tx)), (a2, .inl (y 0, 78, .inl nw)), (a3, .inl (y 0, 78, .inl q18.2)), (a4, .inl (y 0, 1092, .inl dy)), (a5, .inl (y 0, 156, .inl kp)), (a6, .inl (y 2, 2, .inl ik))] := hD
            refine lv_pop hx hb dX6_simulate_131 rfl ?_
            refine lv_iinc (v := (x6 + 1)) (lv' := [(6, .int (x6 + 1)), (7, .int v4), (4, .long ((x4 * 6364136223846793005) + 1442695040888963407)), (0, .ref a0), (3, .int p1)]) hx hb dX6_simulate_132 hl (k := 4) rfl rfl (by decide) rfl (fun ls hl => ?_)
            refine lv_goto (tgt := 56) hx hb dX6_simulate_135 (by decide) ?_
            exact ih ((x4 * 6364136223846793005) + 1442695040888963407) (x6 + 1) rf_ q18.2 ((by rw [← eq18]; exact okM_X6_writeOn _ _ _ om_ ⟨by decide, om_.1⟩)) (lp_up (by assumption) hμ) hF _ _ hP hD hS ls (lv_sub hl [3, 4, 2, 0] rfl)
  have hF := f_X6_simulate_s rf sz ac sp ou tx nw tr dy kp ik p0 p1
  refine lv_aload_n hx hb dX6_simulate_0 rfl (lv_at hl 0 rfl) ?_
  refine lv_iload_n hx hb dX6_simulate_1 rfl (lv_at hl 2 rfl) ?_
  refine lv_i2l (v := p1.toInt64) hx hb dX6_simulate_2 rfl ?_
  refine lv_lconst (v := 1) hx hb dX6_simulate_3 (by decide) ?_
  refine lv_ldc2 (v := 300) hx hb hown w_5 dX6_simulate_4 ?_
  refine xs_calli (va_runS (As := [.long p1.toInt64, .long 1, .long 300]) (rest := [.ref a0]) ⟨hx, hb, hml, hown, hts⟩ (c_X6_in l D y s.heap.size p1.toInt64 1 300) (va_cwS 3 hts gX6_simulate_X6_in rfl rfl rfl hd_X6_in ⟨Nat.le_of_ble_eq_true rfl, Nat.le_of_ble_eq_true rfl⟩) (gS hE (hP.sub [] rfl) (hD.sub [] (by decide) rfl)) rfl rfl hl.1 rfl (lv_room (Nat.le_of_ble_eq_true rfl)) dX6_simulate_7 ⟨Nat.le_of_ble_eq_true rfl, Nat.le_of_ble_eq_true rfl⟩) (fun v20 h19 => ?_)
  have hF := hF.trans (gLet_e h19)
  refine lv_if_eq (tgt := 17) hx hb dX6_simulate_10 (by decide) (fun c_21 => ?_) (fun c_21 => ?_)
  · have hF := hF.trans (if_pos c_21)
    refine lv_iconst (v := 1) hx hb dX6_simulate_17 (by decide) ?_
    refine xw_calli (va_runV (As := [.int 1]) (rest := []) ⟨hx, hb, hml, hown, hts⟩ (c_X6_refused l D y a0 a1 a2 a3 a4 a5 a6 s.heap.size rf sz ac sp ou 1) (cwV 1 hts gX6_simulate_X6_refused rfl rfl rfl hd_X6_refused ⟨Nat.le_of_ble_eq_true rfl, Nat.le_of_ble_eq_true rfl⟩) (gV (q := (RX6, TX6, 11)) hE (hP.sub [0] rfl) (hD.sub [0] (by decide) rfl) 0 rfl rfl) rfl rfl hl.1 rfl (lv_room (Nat.le_of_ble_eq_true rfl)) dX6_simulate_18 ⟨Nat.le_of_ble_eq_true rfl, Nat.le_of_ble_eq_true rfl⟩) hP hD hS hA [0] rfl (by decide) (fun _ => rfl) (fun v24 u23 H locs h22 hP hD hS => ?_)
    have h22 := (rfd1 rf sz ac sp ou).symm.trans h22
    obtain ⟨rfl, rfl⟩ := Prod.mk.inj h22
    have hP : va_P D vwCl [(a0, .inr (5, [.int 1, .ref a1, .int sz, .ref a2, .ref a3, .ref a4, .int ac, .ref a5, .ref a6, .int sp, .int ou])), (a1, .inl (y 0, 120, .inl tx)), (a2, .inl (y 0, 78, .inl nw)), (a3, .inl (y 0, 78, .inl tr)), (a4, .inl (y 0, 1092, .inl dy)), (a5, .inl (y 0, 156, .inl kp)), (a6, .inl (y 2, 2, .inl ik))] H := hP
    have hD : va_D A [(a0, .inr (5, [.int 1, .ref a1, .int sz, .ref a2, .ref a3, .ref a4, .int ac, .ref a5, .ref a6, .int sp, .int ou])), (a1, .inl (y 0, 120, .inl tx)), (a2, .inl (y 0, 78, .inl nw)), (a3, .inl (y 0, 78, .inl tr)), (a4, .inl (y 0, 1092, .inl dy)), (a5, .inl (y 0, 156, .inl kp)), (a6, .inl (y 2, 2, .inl ik))] := hD
    refine lv_if_eq (tgt := 26) hx hb dX6_simulate_21 (by decide) (fun c_25 => absurd c_25 (by decide)) (fun c_25 => ?_)
    refine lv_iconst (v := 0) hx hb dX6_simulate_24 (by decide) ?_
    exact W.iret (v := 0) hx hb hr (fun t ht hW => ⟨⟨0, ⟨1, sz, ac, sp, ou, tx, nw, tr, dy, kp, ik⟩, rfl, hF, ⟨by rw [ht]; exact hP, hD⟩⟩, hS.F ht⟩) hS.2.2 dX6_simulate_25
  · have hF := hF.trans (if_neg c_21)
    refine lv_iconst (v := 0) hx hb dX6_simulate_13 (by decide) ?_
    refine lv_goto (tgt := 18) hx hb dX6_simulate_14 (by decide) ?_
    refine xw_calli (va_runV (As := [.int 0]) (rest := []) ⟨hx, hb, hml, hown, hts⟩ (c_X6_refused l D y a0 a1 a2 a3 a4 a5 a6 s.heap.size rf sz ac sp ou 0) (cwV 1 hts gX6_simulate_X6_refused rfl rfl rfl hd_X6_refused ⟨Nat.le_of_ble_eq_true rfl, Nat.le_of_ble_eq_true rfl⟩) (gV (q := (RX6, TX6, 11)) hE (hP.sub [0] rfl) (hD.sub [0] (by decide) rfl) 0 rfl rfl) rfl rfl hl.1 rfl (lv_room (Nat.le_of_ble_eq_true rfl)) dX6_simulate_18 ⟨Nat.le_of_ble_eq_true rfl, Nat.le_of_ble_eq_true rfl⟩) hP hD hS hA [0] rfl (by decide) (fun _ => rfl) (fun v28 u27 H locs h26 hP hD hS => ?_)
    have h26 := (rfd0 rf sz ac sp ou).symm.trans h26
    obtain ⟨rfl, rfl⟩ := Prod.mk.inj h26
    have hP : va_P D vwCl [(a0, .inr (5, [.int 0, .ref a1, .int sz, .ref a2, .ref a3, .ref a4, .int ac, .ref a5, .ref a6, .int sp, .int ou])), (a1, .inl (y 0, 120, .inl tx)), (a2, .inl (y 0, 78, .inl nw)), (a3, .inl (y 0, 78, .inl tr)), (a4, .inl (y 0, 1092, .inl dy)), (a5, .inl (y 0, 156, .inl kp)), (a6, .inl (y 2, 2, .inl ik))] H := hP
    have hD : va_D A [(a0, .inr (5, [.int 0, .ref a1, .int sz, .ref a2, .ref a3, .ref a4, .int ac, .ref a5, .ref a6, .int sp, .int ou])), (a1, .inl (y 0, 120, .inl tx)), (a2, .inl (y 0, 78, .inl nw)), (a3, .inl (y 0, 78, .inl tr)), (a4, .inl (y 0, 1092, .inl dy)), (a5, .inl (y 0, 156, .inl kp)), (a6, .inl (y 2, 2, .inl ik))] := hD
    refine lv_if_eq (tgt := 26) hx hb dX6_simulate_21 (by decide) (fun c_29 => ?_) (fun c_29 => absurd (by decide) c_29)
    refine lv_aload_n hx hb dX6_simulate_26 rfl (lv_at hl 0 rfl) ?_
    refine va_get (D := D) (ci := 5) (v := .ref a2) (C := RX6) (T := TX6) (N := 11) hx hb hts hi6 hown hE.1 hP 0 rfl rfl 3 (by decide) w_2 (fun _ h9 => h9) rfl dX6_simulate_27 ?_
    refine lv_iconst (v := 0) hx hb dX6_simulate_30 (by decide) ?_
    refine xa_iald (k := 0) (v := nw 0) hx hb hE.1 hP 2 0 rfl rfl (xin (by decide)) rfl rfl dX6_simulate_31 ?_
    refine lv_if_ne (tgt := 37) hx hb dX6_simulate_32 (by decide) (fun c_30 => ?_) (fun c_30 => ?_)
    · have hF := hF.trans (if_neg c_30)
      refine lv_aload_n hx hb dX6_simulate_37 rfl (lv_at hl 0 rfl) ?_
      refine va_get (D := D) (ci := 5) (v := .ref a2) (C := RX6) (T := TX6) (N := 11) hx hb hts hi6 hown hE.1 hP 0 rfl rfl 3 (by decide) w_2 (fun _ h9 => h9) rfl dX6_simulate_38 ?_
      refine lv_iconst (v := 0) hx hb dX6_simulate_41 (by decide) ?_
      refine lv_aload_n hx hb dX6_simulate_42 rfl (lv_at hl 0 rfl) ?_
      refine va_get (D := D) (ci := 5) (v := .ref a3) (C := RX6) (T := TX6) (N := 11) hx hb hts hi6 hown hE.1 hP 0 rfl rfl 4 (by decide) w_0 (fun _ h9 => h9) rfl dX6_simulate_43 ?_
      refine lv_iconst (v := 0) hx hb dX6_simulate_46 (by decide) ?_
      refine xw_callv (va_runS (As := [.ref a2, .int 0, .ref a3, .int 0]) (rest := []) ⟨hx, hb, hml, hown, hts⟩ (c_X6_copyState l D y a2 a3 H.size 78 nw 78 tr 0 0 okA0 okA0) (va_cwS 4 hts gX6_simulate_X6_copyState rfl rfl rfl hd_X6_copyState ⟨Nat.le_of_ble_eq_true rfl, Nat.le_of_ble_eq_true rfl⟩) (gS hE (hP.sub [2, 3] rfl) (hD.sub [2, 3] (by decide) rfl)) rfl rfl hl.1 rfl (lv_room (Nat.le_of_ble_eq_true rfl)) dX6_simulate_47 ⟨Nat.le_of_ble_eq_true rfl, Nat.le_of_ble_eq_true rfl⟩) hP hD hS hA [2, 3] rfl (by decide) (fun _ => rfl) (fun u32 H locs h31 hP hD hS => ?_)
      have hF := hF.trans (gLet_e h31)
      have hP : va_P D vwCl [(a0, .inr (5, [.int 0, .ref a1, .int sz, .ref a2, .ref a3, .ref a4, .int ac, .ref a5, .ref a6, .int sp, .int ou])), (a1, .inl (y 0, 120, .inl tx)), (a2, .inl (y 0, 78, .inl nw)), (a3, .inl (y 0, 78, .inl u32)), (a4, .inl (y 0, 1092, .inl dy)), (a5, .inl (y 0, 156, .inl kp)), (a6, .inl (y 2, 2, .inl ik))] H := hP
      have hD : va_D A [(a0, .inr (5, [.int 0, .ref a1, .int sz, .ref a2, .ref a3, .ref a4, .int ac, .ref a5, .ref a6, .int sp, .int ou])), (a1, .inl (y 0, 120, .inl tx)), (a2, .inl (y 0, 78, .inl nw)), (a3, .inl (y 0, 78, .inl u32)), (a4, .inl (y 0, 1092, .inl dy)), (a5, .inl (y 0, 156, .inl kp)), (a6, .inl (y 2, 2, .inl ik))] := hD
      refine lv_lload_n hx hb dX6_simulate_50 rfl (lv_at hl 1 rfl) ?_
      refine lv_lstore (lv' := [(4, .long p0), (0, .ref a0), (1, .long p0), (3, .int p1)]) hx hb dX6_simulate_51 hl (by decide) rfl (fun ls hl => ?_)
      refine lv_iconst (v := 0) hx hb dX6_simulate_53 (by decide) ?_
      refine lv_istore (lv' := [(6, .int 0), (4, .long p0), (0, .ref a0), (1, .long p0), (3, .int p1)]) hx hb dX6_simulate_54 hl (by decide) rfl (fun ls hl => ?_)
      exact loop_56 _ p0 0 0 u32 ((by rw [← h31]; exact cp_okM _ (okM_n0 hm.2.2 (by assumption)))) (Nat.lt_succ_self _) hF _ _ hP hD hS ls (lv_sub hl [2, 4, 1, 0] rfl)
    · have hF := hF.trans (if_pos c_30)
      refine lv_iconst (v := 0) hx hb dX6_simulate_35 (by decide) ?_
      exact W.iret (v := 0) hx hb hr (fun t ht hW => ⟨⟨0, ⟨0, sz, ac, sp, ou, tx, nw, tr, dy, kp, ik⟩, rfl, hF, ⟨by rw [ht]; exact hP, hD⟩⟩, hS.F ht⟩) hS.2.2 dX6_simulate_36
