/-! THE TWO SIDES AGREE: new stores, copies, wears -/
/-- nothing behind the 78 numbers -/
def Tl (r : gR) : Prop := ∀ k, 78 ≤ k → r k = 0
theorem Tl.upd {r : gR} {k : Nat} {x : Int32} (hk : k < 78) (h : Tl r) : Tl (upd r k x) := fun j hj => by
  rw [upd_ne (show j ≠ k by omega)]
  exact h j hj
theorem m_fill {f : Nat → Int32} {k : Nat} {x : Int32} {P : Nat → Prop} [DecidablePred P] : (fun j => if P j then (0 : Int32) else upd f k 0 j) = fun j => if P j ∨ j = k then 0 else f j := by
  funext j
  by_cases h : P j
  · rw [if_pos h, if_pos (Or.inl h)]
  · rw [if_neg h]
    by_cases e : j = k
    · rw [if_pos (Or.inr e), e, upd_eq]
    · rw [if_neg (fun q => q.elim h e), upd_ne e]
theorem m_L85 : ∀ (d i : Nat) (r : gR), i + d = 33 → f_X3_begin_L85 (d + 1) (nI i) r = fun j => if 45 + i ≤ j ∧ j < 78 then 0 else r j
  | 0, i, r, h => by
    rw [f_X3_begin_L85_s, if_pos (show (33 : Int32) ≤ nI i by rw [show i = 33 by omega]; decide)]
    funext j
    rw [if_neg (by omega)]
  | d + 1, i, r, h => by
    rw [f_X3_begin_L85_s, if_neg (show ¬ (33 : Int32) ≤ nI i from nI_ge (b := 33) (by omega) (by omega)), nI_1, nI_clamp (by omega)]
    show f_X3_begin_L85 (d + 1) (nI (i + 1)) (upd r (45 + i) 0) = _
    rw [m_L85 d (i + 1) _ (by omega)]
    funext j
    by_cases e : j = 45 + i
    · rw [e, if_neg (by omega), upd_eq, if_pos (by omega)]
    · rw [upd_ne e]
      by_cases c : 45 + i ≤ j ∧ j < 78
      · rw [if_pos c, if_pos (by omega)]
      · rw [if_neg c, if_neg (by omega)]
theorem m_L58 : ∀ (d i : Nat) (r : gR), i + d = 32 → f_X3_begin_L58 (d + 1) (nI i) r = fun j => if 13 + i ≤ j ∧ j < 78 then 0 else r j
  | 0, i, r, h => by
    rw [f_X3_begin_L58_s, if_pos (show (32 : Int32) ≤ nI i by rw [show i = 32 by omega]; decide)]
    have e := m_L85 33 0 r rfl
    have e2 : (((33 : Int32).toInt - (0 : Int32).toInt).toNat + 1) = 33 + 1 := by decide
    rw [e2]
    refine e.trans (funext fun j => ?_)
    by_cases c : 13 + i ≤ j ∧ j < 78
    · rw [if_pos c, if_pos (by omega)]
    · rw [if_neg c, if_neg (by omega)]
  | d + 1, i, r, h => by
    rw [f_X3_begin_L58_s, if_neg (show ¬ (32 : Int32) ≤ nI i from nI_ge (b := 32) (by omega) (by omega)), nI_1, nI_clamp (by omega)]
    show f_X3_begin_L58 (d + 1) (nI (i + 1)) (upd r (13 + i) 0) = _
    rw [m_L58 d (i + 1) _ (by omega)]
    funext j
    by_cases e : j = 13 + i
    · rw [e, if_neg (by omega), upd_eq, if_pos (by omega)]
    · rw [upd_ne e]
      by_cases c : 13 + i ≤ j ∧ j < 78
      · rw [if_pos c, if_pos (by omega)]
      · rw [if_neg c, if_neg (by omega)]
/-- a new store of n lines -/
def bgF (r : gR) (n k s : Int32) : gR := fun j => if j = 0 then n else if j = 1 then k else if j = 3 then n else if j = 4 then s else if j = 11 then r 11 else if j = 12 then r 12 else 0
theorem m_begin {r : gR} (ht : Tl r) (n k s : Int32) : f_X3_begin r n k s = bgF r n k s := by
  unfold f_X3_begin
  have e2 : (((32 : Int32).toInt - (0 : Int32).toInt).toNat + 1) = 32 + 1 := by decide
  rw [e2]
  have e := m_L58 32 0 (upd (upd (upd (upd (upd (upd (upd (upd (upd (upd (upd r 0 n) 1 k) 2 0) 3 n) 4 s) 5 0) 6 0) 7 0) 9 0) 10 0) 8 0) rfl
  refine e.trans (funext fun j => ?_)
  unfold bgF
  by_cases c : 13 ≤ j
  · by_cases d : j < 78
    · rw [if_pos ⟨by omega, d⟩, if_neg (by omega), if_neg (by omega), if_neg (by omega), if_neg (by omega), if_neg (by omega), if_neg (by omega)]
    · rw [if_neg (by omega), if_neg (by omega), if_neg (by omega), if_neg (by omega), if_neg (by omega), if_neg (by omega), if_neg (by omega)]
      rw [upd_ne (by omega), upd_ne (by omega), upd_ne (by omega), upd_ne (by omega), upd_ne (by omega), upd_ne (by omega), upd_ne (by omega), upd_ne (by omega), upd_ne (by omega), upd_ne (by omega), upd_ne (by omega)]
      exact ht j (by omega)
  · rw [if_neg (by omega)]
    have hj : j = 0 ∨ j = 1 ∨ j = 2 ∨ j = 3 ∨ j = 4 ∨ j = 5 ∨ j = 6 ∨ j = 7 ∨ j = 8 ∨ j = 9 ∨ j = 10 ∨ j = 11 ∨ j = 12 := by omega
    rcases hj with rfl | rfl | rfl | rfl | rfl | rfl | rfl | rfl | rfl | rfl | rfl | rfl | rfl <;> rfl
/-- what there is at first -/
def freshF : gR := fun j => if j = 11 then 100 else if j = 12 then 8 else 0
theorem m_anew {r : gR} (ht : Tl r) : f_X3_beginAnew r = freshF := by
  unfold f_X3_beginAnew
  simp only [gLet]
  rw [m_begin ht]
  funext j
  unfold freshF
  by_cases c : j = 12
  · rw [c, upd_eq]; rfl
  · rw [upd_ne c]
    by_cases d : j = 11
    · rw [d, upd_eq]; rfl
    · rw [upd_ne d, if_neg d, if_neg c]
      unfold bgF
      rw [if_neg d, if_neg c]
      repeat' split
      all_goals rfl
theorem m_clear_L : ∀ (d i : Nat) (r : gR), i + d = 78 → f_X6_clear_L2 (d + 1) (nI i) r = upd (upd (fun j => if i ≤ j ∧ j < 78 then 0 else r j) 11 100) 12 8
  | 0, i, r, h => by
    rw [f_X6_clear_L2_s, if_pos (show (78 : Int32) ≤ nI i by rw [show i = 78 by omega]; decide)]
    simp only [gLet]
    have e : (fun j => if i ≤ j ∧ j < 78 then 0 else r j) = r := funext fun j => if_neg (by omega)
    rw [e]
  | d + 1, i, r, h => by
    rw [f_X6_clear_L2_s, if_neg (show ¬ (78 : Int32) ≤ nI i from nI_ge (b := 78) (by omega) (by omega)), nI_1, nI_clamp (by omega)]
    show f_X6_clear_L2 (d + 1) (nI (i + 1)) (upd r i 0) = _
    rw [m_clear_L d (i + 1) _ (by omega)]
    have e : (fun j => if i + 1 ≤ j ∧ j < 78 then 0 else upd r i 0 j) = fun j => if i ≤ j ∧ j < 78 then 0 else r j := by
      funext j
      by_cases e : j = i
      · rw [e, if_neg (by omega), upd_eq, if_pos (by omega)]
      · rw [upd_ne e]
        by_cases c : i ≤ j ∧ j < 78
        · rw [if_pos c, if_pos (by omega)]
        · rw [if_neg c, if_neg (by omega)]
    rw [e]
theorem m_clear {r : gR} (ht : Tl r) : f_X6_clear r = freshF := by
  unfold f_X6_clear
  have e2 : (((78 : Int32).toInt - (0 : Int32).toInt).toNat + 1) = 78 + 1 := by decide
  rw [e2]
  refine (m_clear_L 78 0 r rfl).trans (funext fun j => ?_)
  unfold freshF
  by_cases c : j = 12
  · rw [c, upd_eq]; rfl
  · rw [upd_ne c]
    by_cases d : j = 11
    · rw [d, upd_eq]; rfl
    · rw [upd_ne d, if_neg d, if_neg c]
      by_cases f : j < 78
      · rw [if_pos ⟨by omega, f⟩]
      · rw [if_neg (by omega)]; exact ht j (by omega)
theorem m_makeOn_L {n k s : Int32} : ∀ (d i : Nat) (r : gR), i + d = 78 → (f_X6_makeOn_L3 n k s (d + 1) (nI i) r).2 = upd (upd (upd (upd (fun j => if i ≤ j ∧ j < 78 ∧ j ≠ 11 ∧ j ≠ 12 then 0 else r j) 0 n) 1 k) 3 n) 4 s ∧ (f_X6_makeOn_L3 n k s (d + 1) (nI i) r).1 = f_X6_placeOf (f_X6_makeOn_L3 n k s (d + 1) (nI i) r).2 1
  | 0, i, r, h => by
    rw [f_X6_makeOn_L3_s, if_pos (show (78 : Int32) ≤ nI i by rw [show i = 78 by omega]; decide)]
    simp only [gLet]
    have e : (fun j => if i ≤ j ∧ j < 78 ∧ j ≠ 11 ∧ j ≠ 12 then 0 else r j) = r := funext fun j => if_neg (by omega)
    rw [e]
    exact ⟨rfl, trivial⟩
  | d + 1, i, r, h => by
    rw [f_X6_makeOn_L3_s, if_neg (show ¬ (78 : Int32) ≤ nI i from nI_ge (b := 78) (by omega) (by omega)), nI_1, nI_clamp (by omega)]
    simp only [gLet]
    have key : ∀ x : Int32, (x = if i = 11 ∨ i = 12 then r i else 0) → (f_X6_makeOn_L3 n k s (d + 1) (nI (i + 1)) (upd r i x)).2 = upd (upd (upd (upd (fun j => if i ≤ j ∧ j < 78 ∧ j ≠ 11 ∧ j ≠ 12 then 0 else r j) 0 n) 1 k) 3 n) 4 s ∧ (f_X6_makeOn_L3 n k s (d + 1) (nI (i + 1)) (upd r i x)).1 = f_X6_placeOf (f_X6_makeOn_L3 n k s (d + 1) (nI (i + 1)) (upd r i x)).2 1 := by
      intro x hx
      obtain ⟨e1, e2⟩ := m_makeOn_L d (i + 1) (upd r i x) (by omega)
      refine ⟨?_, e2⟩
      rw [e1]
      have e : (fun j => if i + 1 ≤ j ∧ j < 78 ∧ j ≠ 11 ∧ j ≠ 12 then 0 else upd r i x j) = fun j => if i ≤ j ∧ j < 78 ∧ j ≠ 11 ∧ j ≠ 12 then 0 else r j := by
        funext j
        by_cases e : j = i
        · rw [e, if_neg (by omega), upd_eq, hx]
          by_cases c : i = 11 ∨ i = 12
          · rw [if_pos c, if_neg (by omega)]
          · rw [if_neg c, if_pos (by omega)]
        · rw [upd_ne e]
          by_cases c : i ≤ j ∧ j < 78 ∧ j ≠ 11 ∧ j ≠ 12
          · rw [if_pos c, if_pos (by omega)]
          · rw [if_neg c, if_neg (by omega)]
      rw [e]
    by_cases c : i = 11
    · rw [if_pos (show nI i = 11 by rw [c]; rfl)]
      exact key _ (by rw [if_pos (Or.inl c)])
    · rw [if_neg (show ¬ nI i = 11 from fun q => c ((nI_eq (b := 11) (by omega) (by omega)).mp q))]
      by_cases c2 : i = 12
      · rw [if_pos (show nI i = 12 by rw [c2]; rfl)]
        exact key _ (by rw [if_pos (Or.inr c2)])
      · rw [if_neg (show ¬ nI i = 12 from fun q => c2 ((nI_eq (b := 12) (by omega) (by omega)).mp q))]
        exact key _ (by rw [if_neg (by omega)])
theorem m_makeOn {r : gR} (ht : Tl r) (n k s : Int32) : f_X6_makeOn r n k s = (f_X6_placeOf (bgF r n k s) 1, bgF r n k s) := by
  have e2 : (((78 : Int32).toInt - (0 : Int32).toInt).toNat + 1) = 78 + 1 := by decide
  obtain ⟨h1, h2⟩ := m_makeOn_L (n := n) (k := k) (s := s) 78 0 r rfl
  have h3 : upd (upd (upd (upd (fun j => if 0 ≤ j ∧ j < 78 ∧ j ≠ 11 ∧ j ≠ 12 then 0 else r j) 0 n) 1 k) 3 n) 4 s = bgF r n k s := by
    funext j
    unfold bgF
    by_cases c4 : j = 4
    · rw [c4, upd_eq]; rfl
    rw [upd_ne c4]
    by_cases c3 : j = 3
    · rw [c3, upd_eq]; rfl
    rw [upd_ne c3]
    by_cases c1 : j = 1
    · rw [c1, upd_eq]; rfl
    rw [upd_ne c1]
    by_cases c0 : j = 0
    · rw [c0, upd_eq]; rfl
    rw [upd_ne c0, if_neg c0, if_neg c1, if_neg c3, if_neg c4]
    by_cases c11 : j = 11
    · rw [c11]; rfl
    by_cases c12 : j = 12
    · rw [c12]; rfl
    rw [if_neg c11, if_neg c12]
    by_cases f : j < 78
    · rw [if_pos ⟨by omega, f, c11, c12⟩]
    · rw [if_neg (by omega)]; exact ht j (by omega)
  rw [h3] at h1
  unfold f_X6_makeOn
  rw [e2]
  show f_X6_makeOn_L3 n k s (78 + 1) (nI 0) r = _
  rw [← h1, ← h2]
theorem m_copy_L {f0 : Nat → Int32} {a b : Nat} (ha : a < 100000) (hb : b < 100000) : ∀ (d i : Nat) (f1 : Nat → Int32), i + d = 78 → f_X6_copyState_L3 f0 (nI a) (nI b) (d + 1) (nI i) f1 = fun j => if b + i ≤ j ∧ j < b + 78 then f0 (a + (j - b)) else f1 j
  | 0, i, f1, h => by
    rw [f_X6_copyState_L3_s, if_pos (show (78 : Int32) ≤ nI i by rw [show i = 78 by omega]; decide)]
    funext j
    rw [if_neg (by omega)]
  | d + 1, i, f1, h => by
    rw [f_X6_copyState_L3_s, if_neg (show ¬ (78 : Int32) ≤ nI i from nI_ge (b := 78) (by omega) (by omega)), nI_1, nI_add, nI_add, nI_clamp (by omega), nI_clamp (by omega)]
    show f_X6_copyState_L3 f0 (nI a) (nI b) (d + 1) (nI (i + 1)) (upd f1 (b + i) (f0 (a + i))) = _
    rw [m_copy_L ha hb d (i + 1) _ (by omega)]
    funext j
    by_cases e : j = b + i
    · rw [e, if_neg (by omega), upd_eq, if_pos (by omega)]
      congr 1
      omega
    · rw [upd_ne e]
      by_cases c : b + i ≤ j ∧ j < b + 78
      · rw [if_pos c, if_pos (by omega)]
      · rw [if_neg c, if_neg (by omega)]
theorem m_copy {N0 N1 : Nat} {f0 f1 : Nat → Int32} {a b : Nat} (ha : a < 100000) (hb : b < 100000) : f_X6_copyState N0 f0 N1 f1 (nI a) (nI b) = fun j => if b ≤ j ∧ j < b + 78 then f0 (a + (j - b)) else f1 j := by
  unfold f_X6_copyState
  have e2 : (((78 : Int32).toInt - (0 : Int32).toInt).toNat + 1) = 78 + 1 := by decide
  rw [e2]
  exact m_copy_L ha hb 78 0 f1 rfl
/-- the row is copied -/
theorem m_copy0 {N0 N1 : Nat} {r t : gR} (hr : Tl r) (ht : Tl t) : f_X6_copyState N0 r N1 t 0 0 = r := by
  have e := m_copy (N0 := N0) (N1 := N1) (f0 := r) (f1 := t) (a := 0) (b := 0) (by omega) (by omega)
  refine e.trans (funext fun j => ?_)
  by_cases c : j < 78
  · rw [if_pos ⟨by omega, by omega⟩, Nat.sub_zero, Nat.zero_add]
  · rw [if_neg (by omega), ht j (by omega), hr j (by omega)]
/-- a block of a row of blocks -/
def blk (d : Nat → Int32) (i : Nat) : gR := fun k => if k < 78 then d (78 * i + k) else 0
theorem blk_Tl {d : Nat → Int32} {i : Nat} : Tl (blk d i) := fun k hk => if_neg (by omega)
theorem m_copyOut {N0 N1 : Nat} {d : Nat → Int32} {t : gR} (ht : Tl t) {i : Nat} (hi : i < 1000) : f_X6_copyState N0 d N1 t (nI (78 * i)) 0 = blk d i := by
  have e := m_copy (N0 := N0) (N1 := N1) (f0 := d) (f1 := t) (a := 78 * i) (b := 0) (by omega) (by omega)
  refine e.trans (funext fun j => ?_)
  unfold blk
  by_cases c : j < 78
  · rw [if_pos ⟨by omega, by omega⟩, if_pos c, Nat.sub_zero]
  · rw [if_neg (by omega), if_neg c]; exact ht j (by omega)
theorem m_copyIn {N0 N1 : Nat} {d : Nat → Int32} {r : gR} (hr : Tl r) {i : Nat} (hi : i < 1000) : ∀ m, blk (f_X6_copyState N0 r N1 d 0 (nI (78 * i))) m = if m = i then r else blk d m := by
  intro m
  have e := m_copy (N0 := N0) (N1 := N1) (f0 := r) (f1 := d) (a := 0) (b := 78 * i) (by omega) (by omega)
  have e' : f_X6_copyState N0 r N1 d 0 (nI (78 * i)) = fun j => if 78 * i ≤ j ∧ j < 78 * i + 78 then r (0 + (j - 78 * i)) else d j := e
  rw [e']
  funext k
  unfold blk
  dsimp only
  by_cases c : m = i
  · rw [if_pos c, c]
    by_cases h : k < 78
    · rw [if_pos h, if_pos (by omega), Nat.zero_add, Nat.add_sub_cancel_left]
    · rw [if_neg h]; exact (hr k (by omega)).symm
  · rw [if_neg c]
    by_cases h : k < 78
    · rw [if_pos h, if_neg (by omega), if_pos h]
    · rw [if_neg h, if_neg h]
