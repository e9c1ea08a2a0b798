/-! THE TWO SIDES, side by side -/
/-- the reference's numbers and rows: refusal, size, acts, spot, out; text, now, trial, diary, kept, isKept -/
abbrev gM : Type := Int32 × Int32 × Int32 × Int32 × Int32 × (Nat → Int32) × gR × gR × (Nat → Int32) × (Nat → Int32) × (Nat → Int32)
def RelT (tn : Int32) (tf : Nat → Int32) (sz : Int32) (tx : Nat → Int32) : Prop := tx = tf ∧ sz = tn ∧ (∃ N : Nat, N ≤ 120 ∧ tn = nI N) ∧ ∀ j, ∃ c, c < 256 ∧ tf j = nI c
def RelH (qz qn : Int32) (hq : Nat → Option gR) (ac : Int32) (dy : Nat → Int32) : Prop := ac = qz ∧ okQ hq ∧ ∃ z n : Nat, qz = nI z ∧ qn = nI n ∧ z ≤ 14 ∧ n < 14 ∧ ∀ i, i < z → hq ((n + 13 - i) % 14) = some (blk dy (z - 1 - i)) ∧ InvA (blk dy (z - 1 - i))
def RelS (lq : Nat → Option gR) (lfl ik kp : Nat → Int32) : Prop := okQ lq ∧ ∀ s, s < 2 → (lfl s = 0 ∧ ik s = 0) ∨ (¬ lfl s = 0 ∧ ¬ ik s = 0 ∧ lq s = some (blk kp s) ∧ InvA (blk kp s))
def Rel (tn : Int32) (tf : Nat → Int32) (r : gR) (qz qn : Int32) (hq lq : Nat → Option gR) (lfl : Nat → Int32) (w : gM) : Prop :=
  RelT tn tf w.2.1 w.2.2.2.2.2.1 ∧ (w.2.2.2.2.2.2.1 = r ∧ InvA r ∧ Tl w.2.2.2.2.2.2.2.1) ∧ RelH qz qn hq w.2.2.1 w.2.2.2.2.2.2.2.2.1 ∧ RelS lq lfl w.2.2.2.2.2.2.2.2.2.2 w.2.2.2.2.2.2.2.2.2.1
/-- the class's answer and the reference's: the same number of an exception, or none and the same value -/
def Same (v : Int32) (od : Nat → Int64) (b rf : Int32) : Prop := rf = v ∧ (v = 0 → od 0 = b.toInt64)
theorem same_ok {od : Nat → Int64} {x : Int32} : Same 0 (vp_updL od ((0 : Int32).toNatClampNeg) x.toInt64) x 0 := ⟨rfl, fun _ => pk_uLs⟩
theorem same_no {od : Nat → Int64} {x v : Int32} (h : ¬ v = 0) : Same v od x v := ⟨rfl, fun e => absurd e h⟩
section OPS
variable {tn : Int32} {tf : Nat → Int32} {r rc : gR} {qz qn : Int32} {hq lq : Nat → Option gR} {lfl : Nat → Int32} {w w' : gM} {od od' : Nat → Int64} {v b p1 p2 p3 : Int32}
theorem rel_okC (h : Rel tn tf r qz qn hq lq lfl w) : okC r := h.2.1.2.1.1.1
theorem rel_okT (h : Rel tn tf r qz qn hq lq lfl w) : okT tn tf := by
  obtain ⟨N, hN, e⟩ := h.1.2.2.1
  refine ⟨?_, ?_, fun j => ?_⟩
  · rw [e, nI_toInt (by omega)]; omega
  · rw [e, nI_toInt (by omega)]; omega
  · obtain ⟨c, hc, e2⟩ := h.1.2.2.2 j
    rw [e2]
    have h1 := (pk_charN (q := c) (by omega)).1
    refine ⟨h1, ?_⟩
    have h2 : ∀ c, c < 256 → vp_nar .char (nI c) = nI c := by decide +kernel
    exact h2 c hc
theorem rel_okMd (h : Rel tn tf r qz qn hq lq lfl w) : okMd w.2.1 w.2.2.1 w.2.2.2.2.2.2.1 := by
  obtain ⟨N, hN, e⟩ := h.1.2.2.1
  obtain ⟨hac, -, z, n, ez, en, hz, hn, -⟩ := h.2.2.1
  have hA := h.2.1.2.1
  refine ⟨?_, ?_, ?_⟩
  · rw [h.1.2.1, e, nI_toInt (by omega)]; omega
  · rw [hac, ez, nI_toInt (by omega)]; omega
  · rw [h.2.1.1]
    refine ⟨hA.1.1.1, hA.1.1.2.1, ?_⟩
    rcases hA.1.2.1 with q | q
    · rw [hA.2.2 q 3 (by omega) (by omega), i_z]; omega
    · have := hA.1.1.2.1; omega
theorem rel_okG (h : Rel tn tf r qz qn hq lq lfl w) : okG w.2.2.2.2.2.2.1 := by
  have e : w.2.2.2.2.2.2.1 = r := h.2.1.1
  rw [e]
  exact m_okG h.2.1.2.1.1
theorem m_shapeN {n k : Int32} (d : ¬ f_X5_isShape n k = 0) : ∃ y z : Nat, n = nI y ∧ k = nI z ∧ 4 ≤ y ∧ y ≤ 32 ∧ 1 ≤ z ∧ z < y := by
  rw [m_shape] at d
  have d1 : ¬ n < 4 := fun q => d (if_pos q)
  rw [if_neg d1] at d
  have d2 : ¬ 32 < n := fun q => d (if_pos q)
  rw [if_neg d2] at d
  have d3 : ¬ k < 1 := fun q => d (if_pos q)
  rw [if_neg d3] at d
  have d4 : ¬ n ≤ k := fun q => d (if_pos q)
  have e4 : (4 : Int32).toInt = 4 := by decide
  have e32 : (32 : Int32).toInt = 32 := by decide
  have e1 : (1 : Int32).toInt = 1 := by decide
  have f1 := i_le.mp (Int32.not_lt.mp d1)
  have f2 := i_le.mp (Int32.not_lt.mp d2)
  have f3 := i_le.mp (Int32.not_lt.mp d3)
  have f4 := i_lt.mp (Int32.not_le.mp d4)
  have q1 : nN n = n.toInt.toNat := rfl
  have q2 : nN k = k.toInt.toNat := rfl
  exact ⟨nN n, nN k, nI_nN (by omega), nI_nN (by omega), by omega, by omega, by omega, by omega⟩
/-- a state is remembered -/
theorem relH_rem {ac sz sp ou rf : Int32} {dy : Nat → Int32} (h : RelH qz qn hq ac dy) (hA : InvA r) : RelH (f_X0_remember r qz qn hq).2.1 (f_X0_remember r qz qn hq).2.2 (f_X0_remember r qz qn hq).1 (f_X6_remember rf sz ac sp ou r dy).1 (f_X6_remember rf sz ac sp ou r dy).2 := by
  obtain ⟨e, hO, z, n, ez, en, hz, hn, hall⟩ := h
  subst e
  have hO' : okQ (gPut hq n r) := by
    intro i s hs
    unfold gPut at hs
    by_cases c : i = n
    · rw [if_pos c] at hs; cases hs; exact hA.1.1
    · rw [if_neg c] at hs; exact hO i s hs
  have hput : ∀ j, gPut hq n r j = if j = n then some r else hq j := fun _ => rfl
  have hqn : (if (14 : Int32) ≤ nI n + 1 then (0 : Int32) else nI n + 1) = nI ((n + 1) % 14) := by
    rw [nI_1]
    by_cases c : n + 1 = 14
    · rw [c, if_pos (show (14 : Int32) ≤ nI 14 from Int32.le_refl _)]; rfl
    · rw [if_neg (show ¬ (14 : Int32) ≤ nI (n + 1) from nI_ge (b := 14) (by omega) (by omega)), Nat.mod_eq_of_lt (by omega)]
  unfold f_X0_remember
  rw [ez, en, nI_clamp (by omega)]
  show RelH (if (14 : Int32) < nI z + 1 then 14 else nI z + 1) (if (14 : Int32) ≤ nI n + 1 then 0 else nI n + 1) (gPut hq n r) _ _
  rw [hqn, nI_1]
  unfold f_X6_remember
  by_cases c : z = 14
  · subst c
    rw [if_pos (show (14 : Int32) < nI (14 + 1) from nI_lt (a := 14) (by omega) (by omega)), if_pos (show nI 14 = 14 from rfl)]
    -- the row of blocks moves by one block
    have hsh : ∀ (d k : Nat) (dy : Nat → Int32), k + d = 1014 → f_X6_remember_L11 (nI 14) r (d + 1) (nI k) dy = (nI 14, f_X6_copyState 78 r 1092 (fun j => if k ≤ j ∧ j < 1014 then dy (j + 78) else dy j) 0 (nI (78 * 13))) := by
      intro d
      induction d with
      | zero =>
        intro k dy hk
        rw [f_X6_remember_L11_s, if_pos (show (1014 : Int32) ≤ nI k by rw [show k = 1014 by omega]; decide)]
        have e : (fun j => if k ≤ j ∧ j < 1014 then dy (j + 78) else dy j) = dy := funext fun j => if_neg (by omega)
        rw [e]
        rfl
      | succ d ih =>
        intro k dy hk
        rw [f_X6_remember_L11_s, if_neg (show ¬ (1014 : Int32) ≤ nI k from nI_ge (b := 1014) (by omega) (by omega)), nI_1, nI_clamp (by omega)]
        have e78 : (nI k + 78).toNatClampNeg = k + 78 := by rw [show (78 : Int32) = nI 78 from rfl, nI_add, nI_clamp (by omega)]
        rw [e78]
        show f_X6_remember_L11 (nI 14) r (d + 1) (nI (k + 1)) (upd dy k (dy (k + 78))) = _
        rw [ih (k + 1) _ (by omega)]
        congr 2
        funext j
        by_cases e : j = k
        · rw [e, if_neg (by omega), upd_eq, if_pos (by omega)]
        · by_cases q : k ≤ j ∧ j < 1014
          · rw [if_pos q, if_pos (by omega), upd_ne (by omega)]
          · rw [if_neg q, if_neg (by omega), upd_ne e]
    have e2 : (((1014 : Int32).toInt - (0 : Int32).toInt).toNat + 1) = 1014 + 1 := by decide
    rw [e2, show f_X6_remember_L11 (nI 14) r (1014 + 1) 0 dy = _ from hsh 1014 0 dy (by omega)]
    have hbk : ∀ m, blk (f_X6_copyState 78 r 1092 (fun j => if 0 ≤ j ∧ j < 1014 then dy (j + 78) else dy j) 0 (nI (78 * 13))) m = if m = 13 then r else blk (fun j => if 0 ≤ j ∧ j < 1014 then dy (j + 78) else dy j) m := m_copyIn hA.tl (by omega)
    have hbs : ∀ m, m < 13 → blk (fun j => if 0 ≤ j ∧ j < 1014 then dy (j + 78) else dy j) m = blk dy (m + 1) := by
      intro m hm
      funext k
      unfold blk
      by_cases q : k < 78
      · rw [if_pos q, if_pos q]
        show (if 0 ≤ 78 * m + k ∧ 78 * m + k < 1014 then dy (78 * m + k + 78) else dy (78 * m + k)) = _
        rw [if_pos (by omega), show 78 * m + k + 78 = 78 * (m + 1) + k by omega]
      · rw [if_neg q, if_neg q]
    refine ⟨rfl, hO', 14, (n + 1) % 14, rfl, rfl, by omega, Nat.mod_lt _ (by omega), fun i hi => ?_⟩
    rw [hbk, hput]
    by_cases c0 : i = 0
    · rw [c0, if_pos (show ((n + 1) % 14 + 13 - 0) % 14 = n by omega), if_pos (by omega)]
      exact ⟨rfl, hA⟩
    · rw [if_neg (show ¬ ((n + 1) % 14 + 13 - i) % 14 = n by omega), if_neg (by omega), hbs _ (by omega)]
      obtain ⟨a1, a2⟩ := hall (i - 1) (by omega)
      rw [show ((n + 1) % 14 + 13 - i) % 14 = (n + 13 - (i - 1)) % 14 by omega, show 14 - 1 - i + 1 = 14 - 1 - (i - 1) by omega]
      exact ⟨a1, a2⟩
  · rw [if_neg (show ¬ (14 : Int32) < nI (z + 1) from nI_nlt (a := 14) (by omega) (by omega)), if_neg (show ¬ nI z = 14 from fun q => c ((nI_eq (b := 14) (by omega) (by omega)).mp q))]
    have e78 : (78 : Int32) * nI z = nI (78 * z) := pk_mul 78 z
    simp only [gLet]
    rw [e78, nI_1]
    have hbk := m_copyIn (N0 := 78) (N1 := 1092) (d := dy) hA.tl (i := z) (by omega)
    refine ⟨rfl, hO', z + 1, (n + 1) % 14, rfl, rfl, by omega, Nat.mod_lt _ (by omega), fun i hi => ?_⟩
    rw [hbk, hput]
    by_cases c0 : i = 0
    · rw [c0, if_pos (show ((n + 1) % 14 + 13 - 0) % 14 = n by omega), if_pos (by omega)]
      exact ⟨rfl, hA⟩
    · rw [if_neg (show ¬ ((n + 1) % 14 + 13 - i) % 14 = n by omega), if_neg (by omega)]
      obtain ⟨a1, a2⟩ := hall (i - 1) (by omega)
      rw [show ((n + 1) % 14 + 13 - i) % 14 = (n + 13 - (i - 1)) % 14 by omega, show z + 1 - 1 - i = z - 1 - (i - 1) by omega]
      exact ⟨a1, a2⟩
/-- no state is remembered any more -/
theorem relH_no {ac : Int32} {dy : Nat → Int32} (h : RelH qz qn hq ac dy) : RelH 0 qn hq 0 dy := by
  obtain ⟨e, hO, z, n, ez, en, hz, hn, hall⟩ := h
  exact ⟨rfl, hO, 0, n, rfl, en, by omega, hn, fun i hi => absurd hi (by omega)⟩
theorem q_line0 {r : gR} {p : Int32} (c : f_X3_hasLine r p = 0) : f_X5_requireLine r p = 3 := by unfold f_X5_requireLine; rw [gLet_e c, if_pos rfl]
theorem q_line1 {r : gR} {p : Int32} (c : ¬ f_X3_hasLine r p = 0) : f_X5_requireLine r p = 0 := by unfold f_X5_requireLine; rw [gLet_e (b := f_X3_hasLine r p) rfl, if_neg c]
theorem q_pl0 {r : gR} {p : Int32} (c : f_X3_hasPlace r p = 0) : f_X5_requirePlace r p = 3 := by unfold f_X5_requirePlace; rw [gLet_e c, if_pos rfl]
theorem q_pl1 {r : gR} {p : Int32} (c : ¬ f_X3_hasPlace r p = 0) : f_X5_requirePlace r p = 0 := by unfold f_X5_requirePlace; rw [gLet_e (b := f_X3_hasPlace r p) rfl, if_neg c]
theorem q_st0 {r : gR} (c : f_X3_exists r = 0) : f_X5_requireStore r = 2 := by unfold f_X5_requireStore; rw [gLet_e c, if_pos rfl]
theorem q_st1 {r : gR} (c : f_X3_exists r = 1) : f_X5_requireStore r = 0 := by unfold f_X5_requireStore; rw [gLet_e c, if_neg (by decide)]
theorem q_ham0 {p : Int32} (c : f_X5_isHammered p = 0) : f_X5_requireHammered p = 1 := by unfold f_X5_requireHammered; rw [gLet_e c, if_pos rfl]
theorem q_ham1 {p : Int32} (c : ¬ f_X5_isHammered p = 0) : f_X5_requireHammered p = 0 := by unfold f_X5_requireHammered; rw [gLet_e (b := f_X5_isHammered p) rfl, if_neg c]
theorem q_sl0 {p : Int32} (c : f_X2_has p = 0) : f_X5_requireSlot p = 3 := by unfold f_X5_requireSlot; rw [gLet_e c, if_pos rfl]
theorem q_sl1 {p : Int32} (c : f_X2_has p = 1) : f_X5_requireSlot p = 0 := by unfold f_X5_requireSlot; rw [gLet_e c, if_neg (by decide)]
theorem q_set1 {p : Int32} (c0 : ¬ p = 0) (c1 : ¬ p = 1) : f_X5_requireSetting p = 1 := by unfold f_X5_requireSetting; rw [if_neg c0, if_neg c1]
theorem o_append {u : Int32 × (Nat → Int32) × (Nat → Int64)} (h : Rel tn tf r qz qn hq lq lfl w) (ha : f_L_append od tn tf p1 = (v, u)) (hb : f_X6_append w.1 w.2.1 w.2.2.1 w.2.2.2.1 w.2.2.2.2.1 w.2.2.2.2.2.1 w.2.2.2.2.2.2.1 w.2.2.2.2.2.2.2.1 w.2.2.2.2.2.2.2.2.1 w.2.2.2.2.2.2.2.2.2.1 w.2.2.2.2.2.2.2.2.2.2 p1 = (b, w')) : Same v u.2.2 b w'.1 ∧ Rel u.1 u.2.1 r qz qn hq lq lfl w' := by
  obtain ⟨rf, sz, ac, sp, ou, tx, nw, tr, dy, kp, ik⟩ := w
  obtain ⟨⟨e1, e2, ⟨N, hN, eN⟩, ht⟩, ⟨e3, hA, hT⟩, hH, hS⟩ := h
  have e1 : tx = tf := e1
  have e2 : sz = tn := e2
  have e3 : nw = r := e3
  have hT : Tl tr := hT
  have hH : RelH qz qn hq ac dy := hH
  have hS : RelS lq lfl ik kp := hS
  subst e1; subst e2; subst e3
  have hR : ∀ x y z : Int32, Rel sz tx nw qz qn hq lq lfl (x, sz, ac, y, z, tx, nw, tr, dy, kp, ik) := fun _ _ _ => ⟨⟨rfl, rfl, ⟨N, hN, eN⟩, ht⟩, ⟨rfl, hA, hT⟩, hH, hS⟩
  have hb : f_X6_append rf sz ac sp ou tx nw tr dy kp ik p1 = (b, w') := hb
  have hin : f_X6_in p1.toInt64 0 255 = if p1 < 0 then 0 else if 255 < p1 then 0 else 1 := m_in p1 0 255
  have e0 : p1 < 0 ∨ 255 < p1 ∨ ∃ k : Nat, k ≤ 255 ∧ p1 = nI k := by
    by_cases c : p1 < 0
    · exact Or.inl c
    · by_cases d : 255 < p1
      · exact Or.inr (Or.inl d)
      · exact Or.inr (Or.inr (nI_of2 (M := 255) (n := 255) (by decide) c (Int32.not_lt.mp d)))
  rcases e0 with c | c | ⟨k, hk, rfl⟩
  · have hx : f_X5_append sz tx p1 = (1, 0, sz, tx) := by
      unfold f_X5_append; rw [if_pos c]
    have hl : f_L_append od sz tx p1 = (1, sz, tx, od) := by unfold f_L_append; rw [hx]; rfl
    have hr : f_X6_append rf sz ac sp ou tx nw tr dy kp ik p1 = (0, 1, sz, ac, sp, ou, tx, nw, tr, dy, kp, ik) := by
      unfold f_X6_append; simp only [gLet]; rw [hin, if_pos c, if_pos rfl]
    have ha := hl.symm.trans ha
    have hb := hr.symm.trans hb
    cases ha; cases hb
    exact ⟨same_no (by decide), hR _ _ _⟩
  · have c0 : ¬ p1 < 0 := fun q => absurd (Int32.lt_trans c q) (by decide)
    have hx : f_X5_append sz tx p1 = (1, 0, sz, tx) := by
      unfold f_X5_append; rw [if_neg c0, if_neg (Int32.not_le.mpr c)]
    have hl : f_L_append od sz tx p1 = (1, sz, tx, od) := by unfold f_L_append; rw [hx]; rfl
    have hr : f_X6_append rf sz ac sp ou tx nw tr dy kp ik p1 = (0, 1, sz, ac, sp, ou, tx, nw, tr, dy, kp, ik) := by
      unfold f_X6_append; simp only [gLet]; rw [hin, if_neg c0, if_pos c, if_pos rfl]
    have ha := hl.symm.trans ha
    have hb := hr.symm.trans hb
    cases ha; cases hb
    exact ⟨same_no (by decide), hR _ _ _⟩
  · have c0 : ¬ nI k < 0 := nI_pos (by omega)
    have c1 : nI k ≤ 255 := nI_le (b := 255) (by omega) (by omega)
    rw [if_neg c0, if_neg (Int32.not_lt.mpr c1)] at hin
    have hch : ∀ k, k < 256 → ((nI k).toUInt32 % 65536).toInt32 = nI k := by decide +kernel
    by_cases cf : N = 120
    · have cf1 : sz = 120 := by rw [eN, cf]; rfl
      have hx : f_X5_append sz tx (nI k) = (2, 0, sz, tx) := by
        unfold f_X5_append f_X4_isFull; simp only [gLet]; rw [if_neg c0, if_pos c1, if_neg (show ¬ sz < 120 by rw [cf1]; decide), if_neg (by decide)]
      have hl : f_L_append od sz tx (nI k) = (2, sz, tx, od) := by unfold f_L_append; rw [hx]; rfl
      have hr : f_X6_append rf sz ac sp ou tx nw tr dy kp ik (nI k) = (0, 2, sz, ac, sp, ou, tx, nw, tr, dy, kp, ik) := by
        unfold f_X6_append; simp only [gLet]; rw [hin, if_neg (by decide), if_pos cf1]
      have ha := hl.symm.trans ha
      have hb := hr.symm.trans hb
      cases ha; cases hb
      exact ⟨same_no (by decide), hR _ _ _⟩
    · have cf1 : sz < 120 := by rw [eN]; exact nI_lt (b := 120) (by omega) (by omega)
      have cf2 : ¬ sz = 120 := by rw [eN]; exact fun q => cf ((nI_eq (b := 120) (by omega) (by omega)).mp q)
      have ecl : sz.toNatClampNeg = N := by rw [eN, nI_clamp (by omega)]
      have hx : f_X5_append sz tx (nI k) = (0, sz + 1, sz + 1, upd tx N (nI k)) := by
        unfold f_X5_append f_X4_isFull f_X4_add f_X4_isFull; simp only [gLet]; rw [if_neg c0, if_pos c1, if_pos cf1, if_pos rfl, hch k (by omega), ecl, if_pos rfl]
      have hl : f_L_append od sz tx (nI k) = (0, sz + 1, upd tx N (nI k), vp_updL od ((0 : Int32).toNatClampNeg) (sz + 1 : Int32).toInt64) := by unfold f_L_append; rw [hx]; rfl
      have hr : f_X6_append rf sz ac sp ou tx nw tr dy kp ik (nI k) = (sz + 1, 0, sz + 1, ac, sp, ou, upd tx N (nI k), nw, tr, dy, kp, ik) := by
        unfold f_X6_append; simp only [gLet]; rw [hin, if_neg (by decide), if_neg cf2, ecl]
      have ha := hl.symm.trans ha
      have hb := hr.symm.trans hb
      cases ha; cases hb
      refine ⟨same_ok, ⟨rfl, rfl, ⟨N + 1, by omega, by rw [eN, nI_1]⟩, fun j => ?_⟩, ⟨rfl, hA, hT⟩, hH, hS⟩
      by_cases q : j = N
      · exact ⟨k, by omega, by rw [q]; exact upd_eq⟩
      · obtain ⟨c, h1, h2⟩ := ht j
        exact ⟨c, h1, (upd_ne q).trans h2⟩
theorem o_read {u : (Nat → Int64)} (h : Rel tn tf r qz qn hq lq lfl w) (ha : f_L_read od r p1 = (v, u)) (hb : f_X6_read w.1 w.2.1 w.2.2.1 w.2.2.2.1 w.2.2.2.2.1 w.2.2.2.2.2.1 w.2.2.2.2.2.2.1 w.2.2.2.2.2.2.2.1 w.2.2.2.2.2.2.2.2.1 w.2.2.2.2.2.2.2.2.2.1 w.2.2.2.2.2.2.2.2.2.2 p1 = (b, w')) : Same v u b w'.1 ∧ Rel tn tf r qz qn hq lq lfl w' := by
  obtain ⟨rf, sz, ac, sp, ou, tx, nw, tr, dy, kp, ik⟩ := w
  obtain ⟨⟨e1, e2, ⟨N, hN, eN⟩, ht⟩, ⟨e3, hA, hT⟩, hH, hS⟩ := h
  have e1 : tx = tf := e1
  have e2 : sz = tn := e2
  have e3 : nw = r := e3
  have hT : Tl tr := hT
  have hH : RelH qz qn hq ac dy := hH
  have hS : RelS lq lfl ik kp := hS
  subst e1; subst e2; subst e3
  have hR : ∀ x y z : Int32, Rel sz tx nw qz qn hq lq lfl (x, sz, ac, y, z, tx, nw, tr, dy, kp, ik) := fun _ _ _ => ⟨⟨rfl, rfl, ⟨N, hN, eN⟩, ht⟩, ⟨rfl, hA, hT⟩, hH, hS⟩
  have hb : f_X6_read rf sz ac sp ou tx nw tr dy kp ik p1 = (b, w') := hb
  have hline := m_line (r := nw) (l := p1) hA.1.1.1
  by_cases c : f_X3_hasLine nw p1 = 0
  · have hx : f_X5_read nw p1 = (3, 0) := by
      unfold f_X5_read; simp only [gLet]; rw [q_line0 c, if_neg (by decide)]
    have hl : f_L_read od nw p1 = (1, od) := by unfold f_L_read; rw [hx]; rfl
    have hr : f_X6_read rf sz ac sp ou tx nw tr dy kp ik p1 = (0, 1, sz, ac, sp, ou, tx, nw, tr, dy, kp, ik) := by
      unfold f_X6_read; simp only [gLet]; rw [hline, if_pos c]
    have ha := hl.symm.trans ha
    have hb := hr.symm.trans hb
    cases ha; cases hb
    exact ⟨same_no (by decide), hR _ _ _⟩
  · have hl0 := m_has.mp c
    have hx : f_X5_read nw p1 = (0, nw ((13 + p1).toNatClampNeg)) := by
      unfold f_X5_read; simp only [gLet]; rw [q_line1 c, if_pos rfl]
      rw [m_value hl0 hA.1.1.2.1]
    have hl : f_L_read od nw p1 = (0, vp_updL od ((0 : Int32).toNatClampNeg) (nw ((13 + p1).toNatClampNeg) : Int32).toInt64) := by unfold f_L_read; rw [hx]; rfl
    have hr : f_X6_read rf sz ac sp ou tx nw tr dy kp ik p1 = (nw ((13 + p1).toNatClampNeg), 0, sz, ac, sp, ou, tx, nw, tr, dy, kp, ik) := by
      unfold f_X6_read; simp only [gLet]; rw [hline, if_neg c]
    have ha := hl.symm.trans ha
    have hb := hr.symm.trans hb
    cases ha; cases hb
    exact ⟨same_ok, hR _ _ _⟩
theorem o_place {u : (Nat → Int64)} (h : Rel tn tf r qz qn hq lq lfl w) (ha : f_L_place od r p1 = (v, u)) (hb : f_X6_place w.1 w.2.1 w.2.2.1 w.2.2.2.1 w.2.2.2.2.1 w.2.2.2.2.2.1 w.2.2.2.2.2.2.1 w.2.2.2.2.2.2.2.1 w.2.2.2.2.2.2.2.2.1 w.2.2.2.2.2.2.2.2.2.1 w.2.2.2.2.2.2.2.2.2.2 p1 = (b, w')) : Same v u b w'.1 ∧ Rel tn tf r qz qn hq lq lfl w' := by
  obtain ⟨rf, sz, ac, sp, ou, tx, nw, tr, dy, kp, ik⟩ := w
  obtain ⟨⟨e1, e2, ⟨N, hN, eN⟩, ht⟩, ⟨e3, hA, hT⟩, hH, hS⟩ := h
  have e1 : tx = tf := e1
  have e2 : sz = tn := e2
  have e3 : nw = r := e3
  have hT : Tl tr := hT
  have hH : RelH qz qn hq ac dy := hH
  have hS : RelS lq lfl ik kp := hS
  subst e1; subst e2; subst e3
  have hR : ∀ x y z : Int32, Rel sz tx nw qz qn hq lq lfl (x, sz, ac, y, z, tx, nw, tr, dy, kp, ik) := fun _ _ _ => ⟨⟨rfl, rfl, ⟨N, hN, eN⟩, ht⟩, ⟨rfl, hA, hT⟩, hH, hS⟩
  have hb : f_X6_place rf sz ac sp ou tx nw tr dy kp ik p1 = (b, w') := hb
  have hline := m_line (r := nw) (l := p1) hA.1.1.1
  by_cases c : f_X3_hasLine nw p1 = 0
  · have hx : f_X5_place nw p1 = (3, 0) := by
      unfold f_X5_place; simp only [gLet]; rw [q_line0 c, if_neg (by decide)]
    have hl : f_L_place od nw p1 = (1, od) := by unfold f_L_place; rw [hx]; rfl
    have hr : f_X6_place rf sz ac sp ou tx nw tr dy kp ik p1 = (0, 1, sz, ac, sp, ou, tx, nw, tr, dy, kp, ik) := by
      unfold f_X6_place; simp only [gLet]; rw [hline, if_pos c]
    have ha := hl.symm.trans ha
    have hb := hr.symm.trans hb
    cases ha; cases hb
    exact ⟨same_no (by decide), hR _ _ _⟩
  · have hl0 := m_has.mp c
    have hx : f_X5_place nw p1 = (0, f_X6_placeOf nw p1) := by
      unfold f_X5_place; simp only [gLet]; rw [q_line1 c, if_pos rfl]
      rw [m_place hl0]
    have hl : f_L_place od nw p1 = (0, vp_updL od ((0 : Int32).toNatClampNeg) (f_X6_placeOf nw p1 : Int32).toInt64) := by unfold f_L_place; rw [hx]; rfl
    have hr : f_X6_place rf sz ac sp ou tx nw tr dy kp ik p1 = (f_X6_placeOf nw p1, 0, sz, ac, sp, ou, tx, nw, tr, dy, kp, ik) := by
      unfold f_X6_place; simp only [gLet]; rw [hline, if_neg c]
    have ha := hl.symm.trans ha
    have hb := hr.symm.trans hb
    cases ha; cases hb
    exact ⟨same_ok, hR _ _ _⟩
theorem o_movesTo {u : (Nat → Int64)} (h : Rel tn tf r qz qn hq lq lfl w) (ha : f_L_movesTo od r p1 = (v, u)) (hb : f_X6_movesTo w.1 w.2.1 w.2.2.1 w.2.2.2.1 w.2.2.2.2.1 w.2.2.2.2.2.1 w.2.2.2.2.2.2.1 w.2.2.2.2.2.2.2.1 w.2.2.2.2.2.2.2.2.1 w.2.2.2.2.2.2.2.2.2.1 w.2.2.2.2.2.2.2.2.2.2 p1 = (b, w')) : Same v u b w'.1 ∧ Rel tn tf r qz qn hq lq lfl w' := by
  obtain ⟨rf, sz, ac, sp, ou, tx, nw, tr, dy, kp, ik⟩ := w
  obtain ⟨⟨e1, e2, ⟨N, hN, eN⟩, ht⟩, ⟨e3, hA, hT⟩, hH, hS⟩ := h
  have e1 : tx = tf := e1
  have e2 : sz = tn := e2
  have e3 : nw = r := e3
  have hT : Tl tr := hT
  have hH : RelH qz qn hq ac dy := hH
  have hS : RelS lq lfl ik kp := hS
  subst e1; subst e2; subst e3
  have hR : ∀ x y z : Int32, Rel sz tx nw qz qn hq lq lfl (x, sz, ac, y, z, tx, nw, tr, dy, kp, ik) := fun _ _ _ => ⟨⟨rfl, rfl, ⟨N, hN, eN⟩, ht⟩, ⟨rfl, hA, hT⟩, hH, hS⟩
  have hb : f_X6_movesTo rf sz ac sp ou tx nw tr dy kp ik p1 = (b, w') := hb
  have hline := m_line (r := nw) (l := p1) hA.1.1.1
  by_cases c : f_X3_hasLine nw p1 = 0
  · have hx : f_X5_movesTo nw p1 = (3, 0) := by
      unfold f_X5_movesTo; simp only [gLet]; rw [q_line0 c, if_neg (by decide)]
    have hl : f_L_movesTo od nw p1 = (1, od) := by unfold f_L_movesTo; rw [hx]; rfl
    have hr : f_X6_movesTo rf sz ac sp ou tx nw tr dy kp ik p1 = (0, 1, sz, ac, sp, ou, tx, nw, tr, dy, kp, ik) := by
      unfold f_X6_movesTo; simp only [gLet]; rw [hline, if_pos c]
    have ha := hl.symm.trans ha
    have hb := hr.symm.trans hb
    cases ha; cases hb
    exact ⟨same_no (by decide), hR _ _ _⟩
  · have hl0 := m_has.mp c
    have hx : f_X5_movesTo nw p1 = (0, nI (mvK nw p1)) := by
      unfold f_X5_movesTo; simp only [gLet]; rw [q_line1 c, if_pos rfl]
      rw [m_moved hA.1 hl0]
    have hl : f_L_movesTo od nw p1 = (0, vp_updL od ((0 : Int32).toNatClampNeg) (nI (mvK nw p1) : Int32).toInt64) := by unfold f_L_movesTo; rw [hx]; rfl
    have hr : f_X6_movesTo rf sz ac sp ou tx nw tr dy kp ik p1 = (nI (mvK nw p1), 0, sz, ac, sp, ou, tx, nw, tr, dy, kp, ik) := by
      unfold f_X6_movesTo; simp only [gLet]; rw [hline, if_neg c]
      exact m_movesTo_L (m_okG hA.1) hl0 _ _ _ _ (mv_0 (m_okG hA.1) hl0) (by omega)
    have ha := hl.symm.trans ha
    have hb := hr.symm.trans hb
    cases ha; cases hb
    exact ⟨same_ok, hR _ _ _⟩
theorem o_line {u : (Nat → Int64)} (h : Rel tn tf r qz qn hq lq lfl w) (ha : f_L_line od r p1 = (v, u)) (hb : f_X6_line w.1 w.2.1 w.2.2.1 w.2.2.2.1 w.2.2.2.2.1 w.2.2.2.2.2.1 w.2.2.2.2.2.2.1 w.2.2.2.2.2.2.2.1 w.2.2.2.2.2.2.2.2.1 w.2.2.2.2.2.2.2.2.2.1 w.2.2.2.2.2.2.2.2.2.2 p1 = (b, w')) : Same v u b w'.1 ∧ Rel tn tf r qz qn hq lq lfl w' := by
  obtain ⟨rf, sz, ac, sp, ou, tx, nw, tr, dy, kp, ik⟩ := w
  obtain ⟨⟨e1, e2, ⟨N, hN, eN⟩, ht⟩, ⟨e3, hA, hT⟩, hH, hS⟩ := h
  have e1 : tx = tf := e1
  have e2 : sz = tn := e2
  have e3 : nw = r := e3
  have hT : Tl tr := hT
  have hH : RelH qz qn hq ac dy := hH
  have hS : RelS lq lfl ik kp := hS
  subst e1; subst e2; subst e3
  have hR : ∀ x y z : Int32, Rel sz tx nw qz qn hq lq lfl (x, sz, ac, y, z, tx, nw, tr, dy, kp, ik) := fun _ _ _ => ⟨⟨rfl, rfl, ⟨N, hN, eN⟩, ht⟩, ⟨rfl, hA, hT⟩, hH, hS⟩
  have hb : f_X6_line rf sz ac sp ou tx nw tr dy kp ik p1 = (b, w') := hb
  have hpl := m_isPlace (r := nw) (p := p1)
  by_cases c : f_X3_hasPlace nw p1 = 0
  · have hx : f_X5_line nw p1 = (3, 0) := by
      unfold f_X5_line; simp only [gLet]; rw [q_pl0 c, if_neg (by decide)]
    have hl : f_L_line od nw p1 = (1, od) := by unfold f_L_line; rw [hx]; rfl
    have hr : f_X6_line rf sz ac sp ou tx nw tr dy kp ik p1 = (0, 1, sz, ac, sp, ou, tx, nw, tr, dy, kp, ik) := by
      unfold f_X6_line; simp only [gLet]; rw [hpl, if_pos c]
    have ha := hl.symm.trans ha
    have hb := hr.symm.trans hb
    cases ha; cases hb
    exact ⟨same_no (by decide), hR _ _ _⟩
  · have hx : f_X5_line nw p1 = (0, f_X3_lineAt nw p1) := by
      unfold f_X5_line; simp only [gLet]; rw [q_pl1 c, if_pos rfl]
    have hl : f_L_line od nw p1 = (0, vp_updL od ((0 : Int32).toNatClampNeg) (f_X3_lineAt nw p1 : Int32).toInt64) := by unfold f_L_line; rw [hx]; rfl
    have hr : f_X6_line rf sz ac sp ou tx nw tr dy kp ik p1 = (f_X3_lineAt nw p1, 0, sz, ac, sp, ou, tx, nw, tr, dy, kp, ik) := by
      unfold f_X6_line; simp only [gLet]; rw [hpl, if_neg c]
      exact m_lineAt hA.1 c
    have ha := hl.symm.trans ha
    have hb := hr.symm.trans hb
    cases ha; cases hb
    exact ⟨same_ok, hR _ _ _⟩
theorem m_hasN (c : ¬ f_X3_hasPlace r p1 = 0) (h : (r 0).toInt ≤ 32) : ∃ k : Nat, k ≤ 32 ∧ p1 = nI k := by
  unfold f_X3_hasPlace at c
  by_cases a : r 0 ≤ 0
  · rw [if_pos a] at c; exact absurd rfl c
  rw [if_neg a] at c
  by_cases b : p1 < 0
  · rw [if_pos b] at c; exact absurd rfl c
  rw [if_neg b] at c
  by_cases d : r 0 < p1
  · rw [if_pos d] at c; exact absurd rfl c
  refine nI_of2 (M := 32) (n := 32) (by decide) b (i_le.mpr ?_)
  have := i_le.mp (Int32.not_lt.mp d)
  have e : (32 : Int32).toInt = 32 := by decide
  omega
theorem o_wear {u : (Nat → Int64)} (h : Rel tn tf r qz qn hq lq lfl w) (ha : f_L_wear od r p1 = (v, u)) (hb : f_X6_wear w.1 w.2.1 w.2.2.1 w.2.2.2.1 w.2.2.2.2.1 w.2.2.2.2.2.1 w.2.2.2.2.2.2.1 w.2.2.2.2.2.2.2.1 w.2.2.2.2.2.2.2.2.1 w.2.2.2.2.2.2.2.2.2.1 w.2.2.2.2.2.2.2.2.2.2 p1 = (b, w')) : Same v u b w'.1 ∧ Rel tn tf r qz qn hq lq lfl w' := by
  obtain ⟨rf, sz, ac, sp, ou, tx, nw, tr, dy, kp, ik⟩ := w
  obtain ⟨⟨e1, e2, ⟨N, hN, eN⟩, ht⟩, ⟨e3, hA, hT⟩, hH, hS⟩ := h
  have e1 : tx = tf := e1
  have e2 : sz = tn := e2
  have e3 : nw = r := e3
  have hT : Tl tr := hT
  have hH : RelH qz qn hq ac dy := hH
  have hS : RelS lq lfl ik kp := hS
  subst e1; subst e2; subst e3
  have hR : ∀ x y z : Int32, Rel sz tx nw qz qn hq lq lfl (x, sz, ac, y, z, tx, nw, tr, dy, kp, ik) := fun _ _ _ => ⟨⟨rfl, rfl, ⟨N, hN, eN⟩, ht⟩, ⟨rfl, hA, hT⟩, hH, hS⟩
  have hb : f_X6_wear rf sz ac sp ou tx nw tr dy kp ik p1 = (b, w') := hb
  have hpl := m_isPlace (r := nw) (p := p1)
  by_cases c : f_X3_hasPlace nw p1 = 0
  · have hx : f_X5_wear nw p1 = (3, 0) := by
      unfold f_X5_wear; simp only [gLet]; rw [q_pl0 c, if_neg (by decide)]
    have hl : f_L_wear od nw p1 = (1, od) := by unfold f_L_wear; rw [hx]; rfl
    have hr : f_X6_wear rf sz ac sp ou tx nw tr dy kp ik p1 = (0, 1, sz, ac, sp, ou, tx, nw, tr, dy, kp, ik) := by
      unfold f_X6_wear; simp only [gLet]; rw [hpl, if_pos c]
    have ha := hl.symm.trans ha
    have hb := hr.symm.trans hb
    cases ha; cases hb
    exact ⟨same_no (by decide), hR _ _ _⟩
  · have hx : f_X5_wear nw p1 = (0, nw ((45 + p1).toNatClampNeg)) := by
      unfold f_X5_wear; simp only [gLet]; rw [q_pl1 c, if_pos rfl]
      unfold f_X3_wearOf; simp only [gLet]; rw [if_neg c]
      obtain ⟨k, hk, e⟩ := m_hasN c hA.1.1.2.1
      rw [e, nI_clamp (by omega), m_45n k (by omega)]
    have hl : f_L_wear od nw p1 = (0, vp_updL od ((0 : Int32).toNatClampNeg) (nw ((45 + p1).toNatClampNeg) : Int32).toInt64) := by unfold f_L_wear; rw [hx]; rfl
    have hr : f_X6_wear rf sz ac sp ou tx nw tr dy kp ik p1 = (nw ((45 + p1).toNatClampNeg), 0, sz, ac, sp, ou, tx, nw, tr, dy, kp, ik) := by
      unfold f_X6_wear; simp only [gLet]; rw [hpl, if_neg c]
    have ha := hl.symm.trans ha
    have hb := hr.symm.trans hb
    cases ha; cases hb
    exact ⟨same_ok, hR _ _ _⟩
theorem o_setting {u : (Nat → Int64)} (h : Rel tn tf r qz qn hq lq lfl w) (ha : f_L_setting od r p1 = (v, u)) (hb : f_X6_setting w.1 w.2.1 w.2.2.1 w.2.2.2.1 w.2.2.2.2.1 w.2.2.2.2.2.1 w.2.2.2.2.2.2.1 w.2.2.2.2.2.2.2.1 w.2.2.2.2.2.2.2.2.1 w.2.2.2.2.2.2.2.2.2.1 w.2.2.2.2.2.2.2.2.2.2 p1 = (b, w')) : Same v u b w'.1 ∧ Rel tn tf r qz qn hq lq lfl w' := by
  obtain ⟨rf, sz, ac, sp, ou, tx, nw, tr, dy, kp, ik⟩ := w
  obtain ⟨⟨e1, e2, ⟨N, hN, eN⟩, ht⟩, ⟨e3, hA, hT⟩, hH, hS⟩ := h
  have e1 : tx = tf := e1
  have e2 : sz = tn := e2
  have e3 : nw = r := e3
  have hT : Tl tr := hT
  have hH : RelH qz qn hq ac dy := hH
  have hS : RelS lq lfl ik kp := hS
  subst e1; subst e2; subst e3
  have hR : ∀ x y z : Int32, Rel sz tx nw qz qn hq lq lfl (x, sz, ac, y, z, tx, nw, tr, dy, kp, ik) := fun _ _ _ => ⟨⟨rfl, rfl, ⟨N, hN, eN⟩, ht⟩, ⟨rfl, hA, hT⟩, hH, hS⟩
  have hb : f_X6_setting rf sz ac sp ou tx nw tr dy kp ik p1 = (b, w') := hb
  have hin : f_X6_in p1.toInt64 0 1 = if p1 < 0 then 0 else if 1 < p1 then 0 else 1 := m_in p1 0 1
  by_cases c0 : p1 = 0
  · subst c0
    have hx : f_X5_setting nw 0 = (0, nw 11) := by
      rfl
    have hl : f_L_setting od nw 0 = (0, vp_updL od ((0 : Int32).toNatClampNeg) (nw 11 : Int32).toInt64) := by unfold f_L_setting; rw [hx]; rfl
    have hr : f_X6_setting rf sz ac sp ou tx nw tr dy kp ik 0 = (nw 11, 0, sz, ac, sp, ou, tx, nw, tr, dy, kp, ik) := by
      unfold f_X6_setting; simp only [gLet]; rw [hin, if_neg (by decide), show ((11 : Int32) + 0).toNatClampNeg = 11 by decide]
    have ha := hl.symm.trans ha
    have hb := hr.symm.trans hb
    cases ha; cases hb
    exact ⟨same_ok, hR _ _ _⟩
  by_cases c1 : p1 = 1
  · subst c1
    have hx : f_X5_setting nw 1 = (0, nw 12) := by
      rfl
    have hl : f_L_setting od nw 1 = (0, vp_updL od ((0 : Int32).toNatClampNeg) (nw 12 : Int32).toInt64) := by unfold f_L_setting; rw [hx]; rfl
    have hr : f_X6_setting rf sz ac sp ou tx nw tr dy kp ik 1 = (nw 12, 0, sz, ac, sp, ou, tx, nw, tr, dy, kp, ik) := by
      unfold f_X6_setting; simp only [gLet]; rw [hin, if_neg (by decide), show ((11 : Int32) + 1).toNatClampNeg = 12 by decide]
    have ha := hl.symm.trans ha
    have hb := hr.symm.trans hb
    cases ha; cases hb
    exact ⟨same_ok, hR _ _ _⟩
  have hz : (if p1 < 0 then (0 : Int32) else if 1 < p1 then 0 else 1) = 0 := by
    by_cases a : p1 < 0
    · rw [if_pos a]
    · by_cases d : 1 < p1
      · rw [if_neg a, if_pos d]
      · exfalso
        have a1 := i_le.mp (Int32.not_lt.mp a)
        have d1 := i_le.mp (Int32.not_lt.mp d)
        have q1 : (1 : Int32).toInt = 1 := by decide
        have n0 : p1.toInt ≠ 0 := fun q => c0 (i_eq.mpr (by rw [q, i_z]))
        have n1 : p1.toInt ≠ 1 := fun q => c1 (i_eq.mpr (by rw [q, q1]))
        rw [i_z] at a1
        omega
  have hx : f_X5_setting nw p1 = (1, 0) := by
    unfold f_X5_setting; simp only [gLet]; rw [q_set1 c0 c1, if_neg (by decide)]
  have hl : f_L_setting od nw p1 = (1, od) := by unfold f_L_setting; rw [hx]; rfl
  have hr : f_X6_setting rf sz ac sp ou tx nw tr dy kp ik p1 = (0, 1, sz, ac, sp, ou, tx, nw, tr, dy, kp, ik) := by
    unfold f_X6_setting; simp only [gLet]; rw [hin, hz, if_pos rfl]
  have ha := hl.symm.trans ha
  have hb := hr.symm.trans hb
  cases ha; cases hb
  exact ⟨same_no (by decide), hR _ _ _⟩
theorem o_about {u : (Nat → Int64)} (h : Rel tn tf r qz qn hq lq lfl w) (ha : f_L_about od r p1 = (v, u)) (hb : f_X6_about w.1 w.2.1 w.2.2.1 w.2.2.2.1 w.2.2.2.2.1 w.2.2.2.2.2.1 w.2.2.2.2.2.2.1 w.2.2.2.2.2.2.2.1 w.2.2.2.2.2.2.2.2.1 w.2.2.2.2.2.2.2.2.2.1 w.2.2.2.2.2.2.2.2.2.2 p1 = (b, w')) : Same v u b w'.1 ∧ Rel tn tf r qz qn hq lq lfl w' := by
  obtain ⟨rf, sz, ac, sp, ou, tx, nw, tr, dy, kp, ik⟩ := w
  obtain ⟨⟨e1, e2, ⟨N, hN, eN⟩, ht⟩, ⟨e3, hA, hT⟩, hH, hS⟩ := h
  have e1 : tx = tf := e1
  have e2 : sz = tn := e2
  have e3 : nw = r := e3
  have hT : Tl tr := hT
  have hH : RelH qz qn hq ac dy := hH
  have hS : RelS lq lfl ik kp := hS
  subst e1; subst e2; subst e3
  have hR : ∀ x y z : Int32, Rel sz tx nw qz qn hq lq lfl (x, sz, ac, y, z, tx, nw, tr, dy, kp, ik) := fun _ _ _ => ⟨⟨rfl, rfl, ⟨N, hN, eN⟩, ht⟩, ⟨rfl, hA, hT⟩, hH, hS⟩
  have hb : f_X6_about rf sz ac sp ou tx nw tr dy kp ik p1 = (b, w') := hb
  have hin : f_X6_in p1.toInt64 0 11 = if p1 < 0 then 0 else if 11 < p1 then 0 else 1 := m_in p1 0 11
  by_cases c : p1 < 0
  · have hx : f_X5_about nw p1 = (1, 0) := by
      unfold f_X5_about; rw [if_pos c]
    have hl : f_L_about od nw p1 = (1, od) := by unfold f_L_about; rw [hx]; rfl
    have hr : f_X6_about rf sz ac sp ou tx nw tr dy kp ik p1 = (0, 1, sz, ac, sp, ou, tx, nw, tr, dy, kp, ik) := by
      unfold f_X6_about; simp only [gLet]; rw [hin, if_pos c, if_pos rfl]
    have ha := hl.symm.trans ha
    have hb := hr.symm.trans hb
    cases ha; cases hb
    exact ⟨same_no (by decide), hR _ _ _⟩
  by_cases d : 11 < p1
  · have hx : f_X5_about nw p1 = (1, 0) := by
      unfold f_X5_about; rw [if_neg c, if_neg (Int32.not_le.mpr d)]
    have hl : f_L_about od nw p1 = (1, od) := by unfold f_L_about; rw [hx]; rfl
    have hr : f_X6_about rf sz ac sp ou tx nw tr dy kp ik p1 = (0, 1, sz, ac, sp, ou, tx, nw, tr, dy, kp, ik) := by
      unfold f_X6_about; simp only [gLet]; rw [hin, if_neg c, if_pos d, if_pos rfl]
    have ha := hl.symm.trans ha
    have hb := hr.symm.trans hb
    cases ha; cases hb
    exact ⟨same_no (by decide), hR _ _ _⟩
  rw [if_neg c, if_neg d] at hin
  have hnum : f_X6_about rf sz ac sp ou tx nw tr dy kp ik p1 = (f_X3_number nw p1, 0, sz, ac, sp, ou, tx, nw, tr, dy, kp, ik) := by
    obtain ⟨k, hk, rfl⟩ := nI_of2 (M := 11) (n := 11) (by decide) c (Int32.not_lt.mp d)
    have hk' : k = 0 ∨ k = 1 ∨ k = 2 ∨ k = 3 ∨ k = 4 ∨ k = 5 ∨ k = 6 ∨ k = 7 ∨ k = 8 ∨ k = 9 ∨ k = 10 ∨ k = 11 := by omega
    unfold f_X6_about
    simp only [gLet]
    rw [hin, if_neg (by decide)]
    by_cases e : nw 0 = 0
    · rw [if_pos e]
      have z := hA.2.2 e
      have hg : f_X3_greatestWear nw = 0 := by
        unfold f_X3_greatestWear
        rw [f_X3_greatestWear_L9_s, if_pos (show nw 0 < 1 by rw [e]; decide)]
        exact z 45 (by omega) (by omega)
      have hl : f_X3_leastWear nw = 0 := by
        unfold f_X3_leastWear
        rw [f_X3_leastWear_L9_s, if_pos (show nw 0 < 1 by rw [e]; decide)]
        exact z 45 (by omega) (by omega)
      have key : f_X3_number nw (nI k) = 0 := by
        rcases hk' with rfl | rfl | rfl | rfl | rfl | rfl | rfl | rfl | rfl | rfl | rfl | rfl
        · exact e
        · exact z 2 (by omega) (by omega)
        · exact z 3 (by omega) (by omega)
        · exact z 4 (by omega) (by omega)
        · exact z 5 (by omega) (by omega)
        · exact z 6 (by omega) (by omega)
        · exact hg
        · exact hl
        · exact z 7 (by omega) (by omega)
        · show (if nw 8 = 0 then (0 : Int32) else 1) = 0
          rw [z 8 (by omega) (by omega), if_pos rfl]
        · exact z 9 (by omega) (by omega)
        · exact z 10 (by omega) (by omega)
      rw [key]
    · rw [if_neg e]
      rcases hk' with rfl | rfl | rfl | rfl | rfl | rfl | rfl | rfl | rfl | rfl | rfl | rfl
      · rfl
      · rfl
      · rfl
      · rfl
      · rfl
      · rfl
      · show (f_X6_greatest nw, (0 : Int32), _) = (f_X3_greatestWear nw, (0 : Int32), _)
        rw [m_greatest hA]
      · show (f_X6_least nw, (0 : Int32), _) = (f_X3_leastWear nw, (0 : Int32), _)
        rw [m_least hA]
      · rfl
      · show (nw 8, (0 : Int32), _) = ((if nw 8 = 0 then (0 : Int32) else 1), (0 : Int32), _)
        rcases hA.1.1.2.2 with q | q
        · rw [q]; rfl
        · rw [q]; rfl
      · rfl
      · rfl
  have hx : f_X5_about nw p1 = (0, f_X3_number nw p1) := by
    unfold f_X5_about; simp only [gLet]; rw [if_neg c, if_pos (Int32.not_lt.mp d)]
  have hl : f_L_about od nw p1 = (0, vp_updL od ((0 : Int32).toNatClampNeg) (f_X3_number nw p1 : Int32).toInt64) := by unfold f_L_about; rw [hx]; rfl
  have hr : f_X6_about rf sz ac sp ou tx nw tr dy kp ik p1 = (f_X3_number nw p1, 0, sz, ac, sp, ou, tx, nw, tr, dy, kp, ik) := by
    exact hnum
  have ha := hl.symm.trans ha
  have hb := hr.symm.trans hb
  cases ha; cases hb
  exact ⟨same_ok, hR _ _ _⟩
theorem o_placeBehind {u : (Nat → Int64)} (h : Rel tn tf r qz qn hq lq lfl w) (ha : f_L_placeBehind od r p1 p2 = (v, u)) (hb : f_X6_placeBehind w.1 w.2.1 w.2.2.1 w.2.2.2.1 w.2.2.2.2.1 w.2.2.2.2.2.1 w.2.2.2.2.2.2.1 w.2.2.2.2.2.2.2.1 w.2.2.2.2.2.2.2.2.1 w.2.2.2.2.2.2.2.2.2.1 w.2.2.2.2.2.2.2.2.2.2 p1 p2 = (b, w')) : Same v u b w'.1 ∧ Rel tn tf r qz qn hq lq lfl w' := by
  obtain ⟨rf, sz, ac, sp, ou, tx, nw, tr, dy, kp, ik⟩ := w
  obtain ⟨⟨e1, e2, ⟨N, hN, eN⟩, ht⟩, ⟨e3, hA, hT⟩, hH, hS⟩ := h
  have e1 : tx = tf := e1
  have e2 : sz = tn := e2
  have e3 : nw = r := e3
  have hT : Tl tr := hT
  have hH : RelH qz qn hq ac dy := hH
  have hS : RelS lq lfl ik kp := hS
  subst e1; subst e2; subst e3
  have hR : ∀ x y z : Int32, Rel sz tx nw qz qn hq lq lfl (x, sz, ac, y, z, tx, nw, tr, dy, kp, ik) := fun _ _ _ => ⟨⟨rfl, rfl, ⟨N, hN, eN⟩, ht⟩, ⟨rfl, hA, hT⟩, hH, hS⟩
  have hb : f_X6_placeBehind rf sz ac sp ou tx nw tr dy kp ik p1 p2 = (b, w') := hb
  have hline := m_line (r := nw) (l := p1) hA.1.1.1
  have hin : f_X6_in p2.toInt64 0 9999 = if p2 < 0 then 0 else if 9999 < p2 then 0 else 1 := m_in p2 0 9999
  by_cases c : f_X3_hasLine nw p1 = 0
  · have hx : f_X5_placeBehind nw p1 p2 = (3, 0) := by
      unfold f_X5_placeBehind; simp only [gLet]; rw [q_line0 c, if_neg (by decide)]
    have hl : f_L_placeBehind od nw p1 p2 = (1, od) := by unfold f_L_placeBehind; rw [hx]; rfl
    have hr : f_X6_placeBehind rf sz ac sp ou tx nw tr dy kp ik p1 p2 = (0, 1, sz, ac, sp, ou, tx, nw, tr, dy, kp, ik) := by
      unfold f_X6_placeBehind; simp only [gLet]; rw [hline, if_pos c]
    have ha := hl.symm.trans ha
    have hb := hr.symm.trans hb
    cases ha; cases hb
    exact ⟨same_no (by decide), hR _ _ _⟩
  have hl0 := m_has.mp c
  by_cases d : p2 < 0
  · have hx : f_X5_placeBehind nw p1 p2 = (1, 0) := by
      unfold f_X5_placeBehind; simp only [gLet]; rw [q_line1 c, if_pos rfl, if_pos d]
    have hl : f_L_placeBehind od nw p1 p2 = (2, od) := by unfold f_L_placeBehind; rw [hx]; rfl
    have hr : f_X6_placeBehind rf sz ac sp ou tx nw tr dy kp ik p1 p2 = (0, 2, sz, ac, sp, ou, tx, nw, tr, dy, kp, ik) := by
      unfold f_X6_placeBehind; simp only [gLet]; rw [hline, if_neg c, hin, if_pos d, if_pos rfl]
    have ha := hl.symm.trans ha
    have hb := hr.symm.trans hb
    cases ha; cases hb
    exact ⟨same_no (by decide), hR _ _ _⟩
  by_cases e : 9999 < p2
  · have hx : f_X5_placeBehind nw p1 p2 = (1, 0) := by
      unfold f_X5_placeBehind; simp only [gLet]; rw [q_line1 c, if_pos rfl, if_neg d, if_neg (Int32.not_le.mpr e)]
    have hl : f_L_placeBehind od nw p1 p2 = (2, od) := by unfold f_L_placeBehind; rw [hx]; rfl
    have hr : f_X6_placeBehind rf sz ac sp ou tx nw tr dy kp ik p1 p2 = (0, 2, sz, ac, sp, ou, tx, nw, tr, dy, kp, ik) := by
      unfold f_X6_placeBehind; simp only [gLet]; rw [hline, if_neg c, hin, if_neg d, if_pos e, if_pos rfl]
    have ha := hl.symm.trans ha
    have hb := hr.symm.trans hb
    cases ha; cases hb
    exact ⟨same_no (by decide), hR _ _ _⟩
  obtain ⟨k, hk, rfl⟩ := nI_of2 (M := 9999) (n := 9999) (by decide) d (Int32.not_lt.mp e)
  have hr0 : ¬ nw 0 = 0 := fun q => by have := hl0.1; have := hl0.2; rw [q, i_z] at this; omega
  obtain ⟨l0, l1, l2, l3, l4, l5, l6⟩ := hA.1.pos hr0
  have hs0 : nI (pbS nw 0) = nw 2 := by
    unfold pbS
    have d0 : nN (nw 0) = (nw 0).toInt.toNat := rfl
    have d2 : nN (nw 2) = (nw 2).toInt.toNat := rfl
    have d3 : nN (nw 3) = (nw 3).toInt.toNat := rfl
    rw [Nat.add_zero, Nat.div_eq_of_lt (by omega), Nat.add_zero, Nat.mod_eq_of_lt (by omega)]
    exact (nI_nN l3).symm
  have hg0 : nI (pbG nw 0) = nw 3 := by
    unfold pbG
    have d0 : nN (nw 0) = (nw 0).toInt.toNat := rfl
    have d3 : nN (nw 3) = (nw 3).toInt.toNat := rfl
    rw [Nat.add_zero, Nat.mod_eq_of_lt (by omega), show nN (nw 0) - (nN (nw 0) - nN (nw 3)) = nN (nw 3) by omega]
    exact (nI_nN l5).symm
  have hx : f_X5_placeBehind nw p1 (nI k) = (0, f_X6_placeWith nw p1 (nI (pbS nw k)) (nI (pbG nw k))) := by
    unfold f_X5_placeBehind; simp only [gLet]; rw [q_line1 c, if_pos rfl, if_neg d, if_pos (Int32.not_lt.mp e), m_after hA.1 hl0 (by omega)]
  have hl : f_L_placeBehind od nw p1 (nI k) = (0, vp_updL od ((0 : Int32).toNatClampNeg) (f_X6_placeWith nw p1 (nI (pbS nw k)) (nI (pbG nw k)) : Int32).toInt64) := by unfold f_L_placeBehind; rw [hx]; rfl
  have hr : f_X6_placeBehind rf sz ac sp ou tx nw tr dy kp ik p1 (nI k) = (f_X6_placeWith nw p1 (nI (pbS nw k)) (nI (pbG nw k)), 0, sz, ac, sp, ou, tx, nw, tr, dy, kp, ik) := by
    unfold f_X6_placeBehind; simp only [gLet]; rw [hline, if_neg c, hin, if_neg d, if_neg e, if_neg (by decide), ← hs0, ← hg0, nI_toInt (by omega), i_z, show ((k : Int) - 0).toNat + 1 = k + 1 by omega]
    exact m_pb_L hA.1 hl0 (by omega) k 0 (by omega)
  have ha := hl.symm.trans ha
  have hb := hr.symm.trans hb
  cases ha; cases hb
  exact ⟨same_ok, hR _ _ _⟩
end OPS
