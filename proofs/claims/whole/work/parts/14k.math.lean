/-! one command of a text -/
/-- what the class says of a command -/
theorem m_eic {N S : Nat} {tf : Nat → Int32} (hN : N ≤ 120) (hS : S < N) : f_X4_errorInCommand (nI N) tf (nI S) = if tf S = 97 then f_X4_errorInNumber (nI N) tf (nI (S + 1)) (nI 1) 1 9 else if tf S = 119 then (if f_X4_errorInNumber (nI N) tf (nI (S + 1)) (nI 2) 0 31 = -1 then f_X4_errorInNumber (nI N) tf (nI (S + 3)) (nI 3) 0 999 else f_X4_errorInNumber (nI N) tf (nI (S + 1)) (nI 2) 0 31) else if tf S = 104 then (if f_X4_errorInNumber (nI N) tf (nI (S + 1)) (nI 2) 0 31 = -1 then f_X4_errorInNumber (nI N) tf (nI (S + 3)) (nI 2) 1 99 else f_X4_errorInNumber (nI N) tf (nI (S + 1)) (nI 2) 0 31) else nI S := by
  have hsg : f_X4_signAt (nI N) tf (nI S) = tf S := by rw [m_sign hN (by omega), if_neg (show ¬ N ≤ S by omega)]
  have k1 : nI S + 1 = nI (S + 1) := nI_1 S
  have k3 : nI S + 3 = nI (S + 3) := nI_add S 3
  unfold f_X4_errorInCommand
  rw [gLet_e hsg, k1, k3]
  by_cases ca : tf S = 97
  · rw [if_pos ca, if_pos ca]; rfl
  rw [if_neg ca, if_neg ca, gLet_e hsg]
  by_cases cw : tf S = 119
  · rw [if_pos cw, if_pos cw, gLet_e (show f_X4_errorInNumber (nI N) tf (nI (S + 1)) 2 0 31 = f_X4_errorInNumber (nI N) tf (nI (S + 1)) (nI 2) 0 31 from rfl)]
    by_cases e : f_X4_errorInNumber (nI N) tf (nI (S + 1)) (nI 2) 0 31 = -1
    · rw [if_pos e, if_pos e, gLet_e hsg, if_pos cw]; rfl
    · rw [if_neg e, if_neg e]
  rw [if_neg cw, if_neg cw, gLet_e hsg]
  by_cases ch : tf S = 104
  · rw [if_pos ch, if_pos ch, gLet_e (show f_X4_errorInNumber (nI N) tf (nI (S + 1)) 2 0 31 = f_X4_errorInNumber (nI N) tf (nI (S + 1)) (nI 2) 0 31 from rfl)]
    by_cases e : f_X4_errorInNumber (nI N) tf (nI (S + 1)) (nI 2) 0 31 = -1
    · rw [if_pos e, if_pos e, gLet_e hsg, if_neg cw]; rfl
    · rw [if_neg e, if_neg e]
  rw [if_neg ch, if_neg ch]
/-- what the reference does with a command's outcome -/
def cmdR (p : Int32) (ou : Int32) (q : Int32 × gR) : Int32 × gR × Int32 × Int32 := (1, q.2, p, if q.1 = 0 then ou + 1 else ou + 0)
theorem cmdR1 (p ou : Int32) (x : gR) : cmdR p ou (1, x) = (1, x, p, ou + 0) := by
  unfold cmdR
  rw [if_neg (show ¬ ((1 : Int32), x).1 = 0 by show ¬ (1 : Int32) = 0; decide)]
theorem cmdR0 (p ou : Int32) (x : gR) : cmdR p ou (0, x) = (1, x, p, ou + 1) := by
  unfold cmdR
  rw [if_pos (show ((0 : Int32), x).1 = 0 from rfl)]
theorem m_rcA {N S : Nat} {tf : Nat → Int32} {rf ac ou : Int32} {r : gR} (h : InvA r) (ca : tf S = 97) (hS : S < 120) {a : Int32 × Int32} (ea : f_X6_figures rf (nI N) ac (nI (S + 1)) ou tf 0 (nI 1) 1 9 = a) : (a.1 = -1 → f_X6_readCommand rf (nI N) ac (nI S) ou tf r = (0, r, a.2, ou)) ∧ (¬ a.1 = -1 → ¬ f_X5_isRounds a.1 = 0 → f_X6_readCommand rf (nI N) ac (nI S) ou tf r = cmdR a.2 ou (f_X3_doAll r a.1)) := by
  have k1 : nI S + 1 = nI (S + 1) := nI_1 S
  have hcl : (nI S).toNatClampNeg = S := nI_clamp (by omega)
  unfold f_X6_readCommand
  rw [hcl, gLet_e (b := tf S) rfl, k1, if_pos ca, gLet_e (show f_X6_figures rf (nI N) ac (nI (S + 1)) ou tf 0 1 1 9 = a from ea)]
  refine ⟨fun e => if_pos e, fun e hr => ?_⟩
  rw [if_neg e, m_cmd3 h, if_neg hr]
  by_cases b : r 0 = 0
  · rw [if_pos ((m_le0 h.1.1.1).mpr b), if_pos b]
    exact (cmdR0 _ _ _).symm
  · rw [if_neg (fun q => b ((m_le0 h.1.1.1).mp q)), if_neg b, gLet_e (b := f_X6_allOn r (a.1 * r 0)) rfl, gLet_e (b := f_X6_allOn r (a.1 * r 0)) rfl]
    have hb := m_all_b h hr
    rw [if_neg (m_all_0 hb), if_neg (m_all_0 hb)]
    exact (cmdR1 _ _ _).symm
theorem m_rcH {N S : Nat} {tf : Nat → Int32} {rf ac ou : Int32} {r : gR} (h : InvA r) (ca : ¬ tf S = 97) (ch : tf S = 104) (hS : S < 120) {a b : Int32 × Int32} (ea : f_X6_figures rf (nI N) ac (nI (S + 1)) ou tf 0 (nI 2) 0 31 = a) (eb : f_X6_figures rf (nI N) ac a.2 ou tf a.1 (nI 2) 1 99 = b) : (b.1 = -1 → f_X6_readCommand rf (nI N) ac (nI S) ou tf r = (0, r, b.2, ou)) ∧ (¬ b.1 = -1 → ¬ f_X5_isHammered b.1 = 0 → b.1.toInt < 50000 → f_X6_readCommand rf (nI N) ac (nI S) ou tf r = cmdR b.2 ou (f_X3_doHammer r a.1 b.1)) := by
  have k1 : nI S + 1 = nI (S + 1) := nI_1 S
  have hcl : (nI S).toNatClampNeg = S := nI_clamp (by omega)
  unfold f_X6_readCommand
  rw [hcl, gLet_e (b := tf S) rfl, k1, if_neg ca, if_pos ch, gLet_e (show f_X6_figures rf (nI N) ac (nI (S + 1)) ou tf 0 2 0 31 = a from ea), gLet_e (show f_X6_figures rf (nI N) ac a.2 ou tf a.1 2 1 99 = b from eb)]
  refine ⟨fun e => if_pos e, fun e hr hv => ?_⟩
  rw [if_neg e, m_cmd2 h hv, gLet_e (m_line h.1.1.1), if_neg hr]
  by_cases c : f_X3_hasLine r a.1 = 0
  · rw [if_pos c, if_pos c]; exact (cmdR0 _ _ _).symm
  · rw [if_neg c, if_neg c, gLet_e (b := f_X6_hammerOn r a.1 b.1) rfl, gLet_e (b := f_X6_hammerOn r a.1 b.1) rfl, if_neg (m_hammer_0 hv), if_neg (m_hammer_0 hv)]
    exact (cmdR1 _ _ _).symm
theorem m_rcW {N S : Nat} {tf : Nat → Int32} {rf ac ou : Int32} {r : gR} (h : InvA r) (ca : ¬ tf S = 97) (ch : ¬ tf S = 104) (cw : tf S = 119) (hS : S < 120) {a b : Int32 × Int32} (ea : f_X6_figures rf (nI N) ac (nI (S + 1)) ou tf 0 (nI 2) 0 31 = a) (eb : f_X6_figures rf (nI N) ac a.2 ou tf a.1 (nI 3) 0 999 = b) : (b.1 = -1 → f_X6_readCommand rf (nI N) ac (nI S) ou tf r = (0, r, b.2, ou)) ∧ (¬ b.1 = -1 → f_X5_isValue b.1 = 1 → f_X6_readCommand rf (nI N) ac (nI S) ou tf r = cmdR b.2 ou (f_X3_doWrite r a.1 b.1)) := by
  have k1 : nI S + 1 = nI (S + 1) := nI_1 S
  have hcl : (nI S).toNatClampNeg = S := nI_clamp (by omega)
  unfold f_X6_readCommand
  rw [hcl, gLet_e (b := tf S) rfl, k1, if_neg ca, if_neg ch, if_pos cw, gLet_e (show f_X6_figures rf (nI N) ac (nI (S + 1)) ou tf 0 2 0 31 = a from ea), gLet_e (show f_X6_figures rf (nI N) ac a.2 ou tf a.1 3 0 999 = b from eb)]
  refine ⟨fun e => if_pos e, fun e hr => ?_⟩
  rw [if_neg e, m_cmd1 h hr, gLet_e (b := f_X6_canWrite r a.1) rfl, gLet_e (b := f_X6_canWrite r a.1) rfl]
  by_cases c : f_X6_canWrite r a.1 = 0
  · rw [if_pos c, if_pos c]; exact (cmdR0 _ _ _).symm
  · rw [if_neg c, if_neg c, gLet_e (b := f_X6_writeOn r a.1 b.1) rfl, gLet_e (b := f_X6_writeOn r a.1 b.1) rfl]
    have hok : okL r a.1 := by
      rw [m_canW h] at c
      exact m_has.mp (fun q => c (by rw [if_pos q]))
    rw [if_neg (m_had0 h hok), if_neg (m_had0 h hok)]
    exact (cmdR1 _ _ _).symm
theorem m_rcN {N S : Nat} {tf : Nat → Int32} {rf ac ou : Int32} {r : gR} (ca : ¬ tf S = 97) (ch : ¬ tf S = 104) (cw : ¬ tf S = 119) (hS : S < 120) : f_X6_readCommand rf (nI N) ac (nI S) ou tf r = (0, r, nI S, ou) := by
  have k1 : nI S + 1 = nI (S + 1) := nI_1 S
  have hcl : (nI S).toNatClampNeg = S := nI_clamp (by omega)
  unfold f_X6_readCommand
  rw [hcl, gLet_e (b := tf S) rfl, k1, if_neg ca, if_neg ch, if_neg cw, show nI (S + 1) - 1 = nI S from nI_pred S]
theorem m_cmdT {N S : Nat} {tf : Nat → Int32} {rf ac ou : Int32} {r : gR} (hN : N ≤ 120) (hS : S < N) (ht : ∀ j, ∃ c, c < 256 ∧ tf j = nI c) (h : InvA r) :
    (f_X4_errorInCommand (nI N) tf (nI S) = -1 ∧ S + cmdLen tf S ≤ N ∧ f_X6_readCommand rf (nI N) ac (nI S) ou tf r = cmdR (nI (S + cmdLen tf S)) ou (tellAct N tf S r)) ∨
    (∃ e, e < 1000 ∧ f_X4_errorInCommand (nI N) tf (nI S) = nI e ∧ f_X6_readCommand rf (nI N) ac (nI S) ou tf r = (0, r, nI e, ou)) := by
  have hz : ¬ (0 : Int32) = -1 := by decide
  rw [m_eic hN hS]
  by_cases ca : tf S = 97
  · have n104 : ¬ tf S = 104 := by rw [ca]; decide
    have n119 : ¬ tf S = 119 := by rw [ca]; decide
    have hl : cmdLen tf S = 2 := by unfold cmdLen; rw [if_neg n104, if_neg n119]
    have hact : tellAct N tf S r = f_X3_doAll r (f_X4_numberAt (nI N) tf (nI (S + 1)) (nI 1)) := by unfold tellAct; rw [if_neg n104, if_neg n119]
    rw [if_pos ca, hl, hact]
    rcases m_fig (N := N) (S := S + 1) (m := 1) (tf := tf) (rf := rf) (ac := ac) (ou := ou) (p0 := 0) (lo := 1) (hi := 9) hN (by omega) (Or.inl rfl) hz ht with ⟨a1, a2, ⟨y, a3, a3'⟩, a4, a5, a6⟩ | ⟨e, e0, e1, e2⟩
    · exact Or.inl ⟨a1, by omega, (m_rcA h ca (by omega) a2).2 (by rw [a3]; exact m_ne1 (by omega)) (m_b2 a6 a5)⟩
    · exact Or.inr ⟨e, e0, e1, (m_rcA h ca (by omega) e2).1 rfl⟩
  rw [if_neg ca]
  by_cases ch : tf S = 104
  · have n119 : ¬ tf S = 119 := by rw [ch]; decide
    have hl : cmdLen tf S = 5 := by unfold cmdLen; rw [if_pos ch]
    have hact : tellAct N tf S r = f_X3_doHammer r (f_X4_numberAt (nI N) tf (nI (S + 1)) (nI 2)) (f_X4_numberAt (nI N) tf (nI (S + 3)) (nI 2)) := by unfold tellAct; rw [if_pos ch]
    rw [if_neg n119, if_pos ch, hl, hact]
    rcases m_fig (N := N) (S := S + 1) (m := 2) (tf := tf) (rf := rf) (ac := ac) (ou := ou) (p0 := 0) (lo := 0) (hi := 31) hN (by omega) (Or.inr (Or.inl rfl)) hz ht with ⟨a1, a2, ⟨y, a3, a3'⟩, a4, a5, a6⟩ | ⟨e, e0, e1, e2⟩
    · have hne : ¬ f_X4_numberAt (nI N) tf (nI (S + 1)) (nI 2) = -1 := by rw [a3]; exact m_ne1 (by omega)
      rw [if_pos a1]
      rcases m_fig (N := N) (S := S + 3) (m := 2) (tf := tf) (rf := rf) (ac := ac) (ou := ou) (p0 := f_X4_numberAt (nI N) tf (nI (S + 1)) (nI 2)) (lo := 1) (hi := 99) hN (by omega) (Or.inr (Or.inl rfl)) hne ht with ⟨b1, b2, ⟨z, b3, b3'⟩, b4, b5, b6⟩ | ⟨e, e0, e1, e2⟩
      · exact Or.inl ⟨b1, by omega, (m_rcH h ca ch (by omega) a2 b2).2 (by rw [b3]; exact m_ne1 (by omega)) (m_b1 b6 b5) (by rw [b3, nI_toInt (by omega)]; omega)⟩
      · exact Or.inr ⟨e, e0, e1, (m_rcH h ca ch (by omega) a2 e2).1 rfl⟩
    · rw [if_neg (show ¬ f_X4_errorInNumber (nI N) tf (nI (S + 1)) (nI 2) 0 31 = -1 by rw [e1]; exact m_ne1 (by omega))]
      exact Or.inr ⟨e, e0, e1, (m_rcH h ca ch (by omega) e2 (m_fig0 (m := 2))).1 rfl⟩
  by_cases cw : tf S = 119
  · have hl : cmdLen tf S = 6 := by unfold cmdLen; rw [if_neg ch, if_pos cw]
    have hact : tellAct N tf S r = f_X3_doWrite r (f_X4_numberAt (nI N) tf (nI (S + 1)) (nI 2)) (f_X4_numberAt (nI N) tf (nI (S + 3)) (nI 3)) := by unfold tellAct; rw [if_neg ch, if_pos cw]
    rw [if_pos cw, hl, hact]
    rcases m_fig (N := N) (S := S + 1) (m := 2) (tf := tf) (rf := rf) (ac := ac) (ou := ou) (p0 := 0) (lo := 0) (hi := 31) hN (by omega) (Or.inr (Or.inl rfl)) hz ht with ⟨a1, a2, ⟨y, a3, a3'⟩, a4, a5, a6⟩ | ⟨e, e0, e1, e2⟩
    · have hne : ¬ f_X4_numberAt (nI N) tf (nI (S + 1)) (nI 2) = -1 := by rw [a3]; exact m_ne1 (by omega)
      rw [if_pos a1]
      rcases m_fig (N := N) (S := S + 3) (m := 3) (tf := tf) (rf := rf) (ac := ac) (ou := ou) (p0 := f_X4_numberAt (nI N) tf (nI (S + 1)) (nI 2)) (lo := 0) (hi := 999) hN (by omega) (Or.inr (Or.inr rfl)) hne ht with ⟨b1, b2, ⟨z, b3, b3'⟩, b4, b5, b6⟩ | ⟨e, e0, e1, e2⟩
      · exact Or.inl ⟨b1, by omega, (m_rcW h ca ch cw (by omega) a2 b2).2 (by rw [b3]; exact m_ne1 (by omega)) (by rw [b3]; exact m_val01 (by omega))⟩
      · exact Or.inr ⟨e, e0, e1, (m_rcW h ca ch cw (by omega) a2 e2).1 rfl⟩
    · rw [if_neg (show ¬ f_X4_errorInNumber (nI N) tf (nI (S + 1)) (nI 2) 0 31 = -1 by rw [e1]; exact m_ne1 (by omega))]
      exact Or.inr ⟨e, e0, e1, (m_rcW h ca ch cw (by omega) e2 (m_fig0 (m := 3))).1 rfl⟩
  · rw [if_neg cw, if_neg ch]
    exact Or.inr ⟨S, by omega, rfl, m_rcN ca ch cw (by omega)⟩
