/-! THE TWO SIDES AGREE: a whole text -/
theorem m_skipE {N : Nat} {tf : Nat → Int32} (hN : N ≤ 120) : ∀ (j A T : Nat), A + j = T → T ≤ N → f_X4_firstError_L11 (nI N) tf (N - A + 1) (-1) (nI T) (nI A) = f_X4_firstError_L11 (nI N) tf (N - T + 1) (-1) (nI T) (nI T)
  | 0, A, T, h, _ => by rw [show A = T by omega]
  | j + 1, A, T, h, hT => by
    rw [← m_skipE hN j (A + 1) T (by omega) hT, f_X4_firstError_L11_s, if_neg (nI_ge (by omega) (by omega)), if_pos rfl, if_neg (fun q => absurd ((nI_eq (by omega) (by omega)).mp q) (by omega)), nI_1, show N - (A + 1) + 1 = N - A by omega]
theorem m_skipT {N : Nat} {tf : Nat → Int32} (hN : N ≤ 120) {x2 : Int32} {r : gR} : ∀ (j A T : Nat), A + j = T → T ≤ N → f_X4_tellTo_L49 (nI N) tf (N - A + 1) x2 (nI T) (nI A) r = f_X4_tellTo_L49 (nI N) tf (N - T + 1) x2 (nI T) (nI T) r
  | 0, A, T, h, _ => by rw [show A = T by omega]
  | j + 1, A, T, h, hT => by
    rw [← m_skipT hN j (A + 1) T (by omega) hT, f_X4_tellTo_L49_s, if_neg (nI_ge (by omega) (by omega)), if_neg (fun q => absurd ((nI_eq (by omega) (by omega)).mp q) (by omega)), nI_1, show N - (A + 1) + 1 = N - A by omega]
theorem m_tell1 {N S : Nat} {tf : Nat → Int32} (hN : N ≤ 120) (hS : S < N) {x2 : Int32} {r : gR} : f_X4_tellTo_L49 (nI N) tf (N - S + 1) x2 (nI S) (nI S) r = f_X4_tellTo_L49 (nI N) tf (N - S) (if (tellAct N tf S r).1 = 0 then x2 + 1 else x2 + 0) (nI (S + cmdLen tf S)) (nI (S + 1)) (tellAct N tf S r).2 := by
  have hsg : f_X4_signAt (nI N) tf (nI S) = tf S := by rw [m_sign hN (by omega), if_neg (show ¬ N ≤ S by omega)]
  have k1 : nI S + 1 = nI (S + 1) := nI_1 S
  have k3 : nI S + 3 = nI (S + 3) := nI_add S 3
  have kl : nI S + nI (cmdLen tf S) = nI (S + cmdLen tf S) := nI_add _ _
  have fin : ∀ q : Int32 × gR, (if q.1 = 0 then f_X4_tellTo_L49 (nI N) tf (N - S) (x2 + 1) (nI (S + cmdLen tf S)) (nI (S + 1)) q.2 else f_X4_tellTo_L49 (nI N) tf (N - S) (x2 + 0) (nI (S + cmdLen tf S)) (nI (S + 1)) q.2) = f_X4_tellTo_L49 (nI N) tf (N - S) (if q.1 = 0 then x2 + 1 else x2 + 0) (nI (S + cmdLen tf S)) (nI (S + 1)) q.2 := by
    intro q
    by_cases c : q.1 = 0
    · rw [if_pos c, if_pos c]
    · rw [if_neg c, if_neg c]
  rw [f_X4_tellTo_L49_s, if_neg (nI_ge (by omega) (by omega)), if_pos rfl, gLet_e (m_len hN hS), gLet_e hsg, k1, k3, kl]
  by_cases ch : tf S = 104
  · have hact : tellAct N tf S r = f_X3_doHammer r (f_X4_numberAt (nI N) tf (nI (S + 1)) (nI 2)) (f_X4_numberAt (nI N) tf (nI (S + 3)) (nI 2)) := by unfold tellAct; rw [if_pos ch]
    rw [if_pos ch, hact, gLet_e (show f_X4_numberAt (nI N) tf (nI (S + 1)) 2 = f_X4_numberAt (nI N) tf (nI (S + 1)) (nI 2) from rfl), gLet_e (show f_X4_numberAt (nI N) tf (nI (S + 3)) 2 = f_X4_numberAt (nI N) tf (nI (S + 3)) (nI 2) from rfl)]
    generalize f_X3_doHammer r (f_X4_numberAt (nI N) tf (nI (S + 1)) (nI 2)) (f_X4_numberAt (nI N) tf (nI (S + 3)) (nI 2)) = q
    rw [gLet_e (b := q) rfl]
    exact fin q
  rw [if_neg ch]
  by_cases cw : tf S = 119
  · have hact : tellAct N tf S r = f_X3_doWrite r (f_X4_numberAt (nI N) tf (nI (S + 1)) (nI 2)) (f_X4_numberAt (nI N) tf (nI (S + 3)) (nI 3)) := by unfold tellAct; rw [if_neg ch, if_pos cw]
    rw [if_pos cw, hact, gLet_e (show f_X4_numberAt (nI N) tf (nI (S + 1)) 2 = f_X4_numberAt (nI N) tf (nI (S + 1)) (nI 2) from rfl), gLet_e (show f_X4_numberAt (nI N) tf (nI (S + 3)) 3 = f_X4_numberAt (nI N) tf (nI (S + 3)) (nI 3) from rfl)]
    generalize f_X3_doWrite r (f_X4_numberAt (nI N) tf (nI (S + 1)) (nI 2)) (f_X4_numberAt (nI N) tf (nI (S + 3)) (nI 3)) = q
    rw [gLet_e (b := q) rfl]
    exact fin q
  · have hact : tellAct N tf S r = f_X3_doAll r (f_X4_numberAt (nI N) tf (nI (S + 1)) (nI 1)) := by unfold tellAct; rw [if_neg ch, if_neg cw]
    rw [if_neg cw, hact, gLet_e (show f_X4_numberAt (nI N) tf (nI (S + 1)) 1 = f_X4_numberAt (nI N) tf (nI (S + 1)) (nI 1) from rfl)]
    generalize f_X3_doAll r (f_X4_numberAt (nI N) tf (nI (S + 1)) (nI 1)) = q
    rw [gLet_e (b := q) rfl]
    exact fin q
theorem m_read_L {N : Nat} {tf : Nat → Int32} {rf ac : Int32} (hN : N ≤ 120) (ht : ∀ j, ∃ c, c < 256 ∧ tf j = nI c) : ∀ (M fuel S : Nat) (r : gR) (ou : Int32), N - S ≤ M → S ≤ N → N - S < fuel → InvA r →
    (f_X6_readText_L99 rf (nI N) ac tf fuel r (nI S) ou).1 = f_X4_firstError_L11 (nI N) tf (N - S + 1) (-1) (nI S) (nI S) ∧ InvA (f_X6_readText_L99 rf (nI N) ac tf fuel r (nI S) ou).2.1 ∧ (f_X4_firstError_L11 (nI N) tf (N - S + 1) (-1) (nI S) (nI S) = -1 → f_X4_tellTo_L49 (nI N) tf (N - S + 1) ou (nI S) (nI S) r = ((f_X6_readText_L99 rf (nI N) ac tf fuel r (nI S) ou).2.2.2, (f_X6_readText_L99 rf (nI N) ac tf fuel r (nI S) ou).2.1))
  | _, 0, _, _, _, _, _, h, _ => absurd h (by omega)
  | M, fuel + 1, S, r, ou, hM, hS, hf, h => by
    by_cases c : S = N
    · subst c
      rw [f_X6_readText_L99_s, if_pos (nI_le (by omega) (by omega)), f_X4_firstError_L11_s, if_pos (nI_le (by omega) (by omega)), f_X4_tellTo_L49_s, if_pos (nI_le (by omega) (by omega))]
      exact ⟨rfl, h, fun _ => rfl⟩
    · have hSN : S < N := by omega
      cases M with
      | zero => exfalso; omega
      | succ M =>
      have hE : f_X4_firstError_L11 (nI N) tf (N - S + 1) (-1) (nI S) (nI S) = f_X4_firstError_L11 (nI N) tf (N - S) (f_X4_errorInCommand (nI N) tf (nI S)) (nI (S + cmdLen tf S)) (nI (S + 1)) := by
        rw [f_X4_firstError_L11_s, if_neg (nI_ge (by omega) (by omega)), if_pos rfl, if_pos rfl, gLet_e (b := f_X4_errorInCommand (nI N) tf (nI S)) rfl, gLet_e (m_len hN hSN), nI_add, nI_1]
      have hR : ∀ q, f_X6_readCommand rf (nI N) ac (nI S) ou tf r = q → f_X6_readText_L99 rf (nI N) ac tf (fuel + 1) r (nI S) ou = if q.1 = 0 then (q.2.2.1, q.2.1, q.2.2.1, q.2.2.2) else f_X6_readText_L99 rf (nI N) ac tf fuel q.2.1 q.2.2.1 q.2.2.2 := by
        intro q hq
        rw [f_X6_readText_L99_s, if_neg (nI_ge (by omega) (by omega)), gLet_e hq]
      rcases m_cmdT (rf := rf) (ac := ac) (ou := ou) hN hSN ht h with ⟨a1, a2, a3⟩ | ⟨e, e0, e1, e2⟩
      · have hlen : 2 ≤ cmdLen tf S := by unfold cmdLen; split <;> first | omega | (split <;> omega)
        have hk := m_skipE (tf := tf) hN (cmdLen tf S - 1) (S + 1) (S + cmdLen tf S) (by omega) a2
        rw [show N - (S + 1) + 1 = N - S by omega] at hk
        have hq : f_X6_readText_L99 rf (nI N) ac tf (fuel + 1) r (nI S) ou = f_X6_readText_L99 rf (nI N) ac tf fuel (tellAct N tf S r).2 (nI (S + cmdLen tf S)) (if (tellAct N tf S r).1 = 0 then ou + 1 else ou + 0) := by
          rw [hR _ a3]
          exact if_neg (show ¬ (1 : Int32) = 0 by decide)
        obtain ⟨i1, i2, i3⟩ := m_read_L (rf := rf) (ac := ac) hN ht M fuel (S + cmdLen tf S) (tellAct N tf S r).2 (if (tellAct N tf S r).1 = 0 then ou + 1 else ou + 0) (by omega) a2 (by omega) (m_tell_A h)
        rw [hE, a1, hk, hq]
        refine ⟨i1, i2, fun q => ?_⟩
        rw [m_tell1 hN hSN]
        have hk2 := m_skipT (tf := tf) hN (x2 := if (tellAct N tf S r).1 = 0 then ou + 1 else ou + 0) (r := (tellAct N tf S r).2) (cmdLen tf S - 1) (S + 1) (S + cmdLen tf S) (by omega) a2
        rw [show N - (S + 1) + 1 = N - S by omega] at hk2
        rw [hk2]
        exact i3 q
      · have hne := m_ne1 (k := e) (by omega)
        have hE2 : f_X4_firstError_L11 (nI N) tf (N - S) (nI e) (nI (S + cmdLen tf S)) (nI (S + 1)) = nI e := by
          rw [show N - S = (N - S - 1) + 1 by omega, f_X4_firstError_L11_s]
          by_cases d : nI N ≤ nI (S + 1)
          · rw [if_pos d]
          · rw [if_neg d, if_neg hne]
        have hq := hR _ e2
        rw [if_pos rfl] at hq
        rw [hE, e1, hE2, hq]
        exact ⟨rfl, h, fun q => absurd q hne⟩
/-- the reference's reading, by the three numbers of the head -/
theorem m_rt {N : Nat} {tf : Nat → Int32} {rf ac sp ou : Int32} {t : gR} (hN : N ≤ 120) (h0 : ¬ N = 0) (hT : Tl t) (cL : tf 0 = 76) {a b c : Int32 × Int32} (ea : f_X6_figures rf (nI N) ac (nI 1) 0 tf 0 (nI 2) 4 32 = a) (eb : f_X6_figures rf (nI N) ac a.2 0 tf a.1 (nI 2) 1 31 = b) (ec : f_X6_figures rf (nI N) ac b.2 0 tf b.1 (nI 1) 0 4 = c) :
    (c.1 = -1 → f_X6_readText rf (nI N) ac sp ou tf t = (c.2, freshF, c.2, 0)) ∧ (¬ c.1 = -1 → f_X6_canMake a.1 b.1 c.1 = 0 → f_X6_readText rf (nI N) ac sp ou tf t = f_X6_readText_L99 rf (nI N) ac tf (((nI N).toInt - c.2.toInt).toNat + 1) freshF c.2 0) ∧ (¬ c.1 = -1 → ¬ f_X6_canMake a.1 b.1 c.1 = 0 → f_X6_readText rf (nI N) ac sp ou tf t = f_X6_readText_L99 rf (nI N) ac tf (((nI N).toInt - c.2.toInt).toNat + 1) (bgF freshF a.1 b.1 c.1) c.2 0) := by
  unfold f_X6_readText
  rw [gLet_e (m_clear hT), if_neg (show ¬ nI N = 0 from nI_ne0 (by omega) (by omega)), if_pos cL, gLet_e (show f_X6_figures rf (nI N) ac 1 0 tf 0 2 4 32 = a from ea), gLet_e (show f_X6_figures rf (nI N) ac a.2 0 tf a.1 2 1 31 = b from eb), gLet_e (show f_X6_figures rf (nI N) ac b.2 0 tf b.1 1 0 4 = c from ec)]
  refine ⟨fun e => if_pos e, fun e d => ?_, fun e d => ?_⟩
  · rw [if_neg e, gLet_e (b := f_X6_canMake a.1 b.1 c.1) rfl, if_pos d]
  · rw [if_neg e, gLet_e (b := f_X6_canMake a.1 b.1 c.1) rfl, if_neg d, gLet_e (m_makeOn m_fresh_A.tl _ _ _)]
theorem m_rt0 {N : Nat} {tf : Nat → Int32} {rf ac sp ou : Int32} {t : gR} (hN : N ≤ 120) (hT : Tl t) (c : N = 0 ∨ ¬ tf 0 = 76) : f_X6_readText rf (nI N) ac sp ou tf t = (0, freshF, 0, 0) := by
  unfold f_X6_readText
  rw [gLet_e (m_clear hT)]
  by_cases h0 : N = 0
  · rw [if_pos (show nI N = 0 by rw [h0]; rfl)]
  · rw [if_neg (show ¬ nI N = 0 from nI_ne0 (by omega) (by omega)), if_neg (c.resolve_left h0)]
theorem m_eih {N : Nat} {tf : Nat → Int32} (hN : N ≤ 120) : f_X4_errorInHead (nI N) tf = if N = 0 ∨ ¬ tf 0 = 76 then 0 else if f_X4_errorInNumber (nI N) tf (nI 1) (nI 2) 4 32 = -1 then (if f_X4_errorInNumber (nI N) tf (nI 3) (nI 2) 1 31 = -1 then f_X4_errorInNumber (nI N) tf (nI 5) (nI 1) 0 4 else f_X4_errorInNumber (nI N) tf (nI 3) (nI 2) 1 31) else f_X4_errorInNumber (nI N) tf (nI 1) (nI 2) 4 32 := by
  have hsg : f_X4_signAt (nI N) tf 0 = if N ≤ 0 then 0 else tf 0 := m_sign (S := 0) hN (by omega)
  unfold f_X4_errorInHead
  rw [gLet_e hsg]
  by_cases c : N = 0 ∨ ¬ tf 0 = 76
  · rw [if_pos c]
    by_cases h0 : N = 0
    · rw [if_pos (show N ≤ 0 by omega), if_neg (by decide)]
    · rw [if_neg (show ¬ N ≤ 0 by omega), if_neg (c.resolve_left h0)]
  · have h0 : ¬ N = 0 := fun q => c (Or.inl q)
    have hL : tf 0 = 76 := Classical.byContradiction fun q => c (Or.inr q)
    rw [if_neg c, if_neg (show ¬ N ≤ 0 by omega), if_pos hL, gLet_e (show f_X4_errorInNumber (nI N) tf 1 2 4 32 = f_X4_errorInNumber (nI N) tf (nI 1) (nI 2) 4 32 from rfl)]
    by_cases d : f_X4_errorInNumber (nI N) tf (nI 1) (nI 2) 4 32 = -1
    · rw [if_pos d, if_pos d, gLet_e (show f_X4_errorInNumber (nI N) tf 3 2 1 31 = f_X4_errorInNumber (nI N) tf (nI 3) (nI 2) 1 31 from rfl)]
      by_cases f : f_X4_errorInNumber (nI N) tf (nI 3) (nI 2) 1 31 = -1
      · rw [if_pos f, if_pos f]; rfl
      · rw [if_neg f, if_neg f]
    · rw [if_neg d, if_neg d, if_neg d]
theorem m_fe {N : Nat} {tf : Nat → Int32} : f_X4_firstError (nI N) tf = f_X4_firstError_L11 (nI N) tf (((nI N).toInt - (6 : Int32).toInt).toNat + 1) (f_X4_errorInHead (nI N) tf) 6 6 := rfl
theorem m_fe1 {N : Nat} {tf : Nat → Int32} {v : Int32} (e : f_X4_errorInHead (nI N) tf = v) (hv : ¬ v = -1) : f_X4_firstError (nI N) tf = v := by
  rw [m_fe, e, f_X4_firstError_L11_s]
  by_cases d : nI N ≤ 6
  · rw [if_pos d]
  · rw [if_neg d, if_neg hv]
def textP (N : Nat) (tf : Nat → Int32) (X : Int32 × gR × Int32 × Int32) : Prop := X.1 = f_X4_firstError (nI N) tf ∧ InvA X.2.1 ∧ (f_X4_firstError (nI N) tf = -1 → f_X4_tellTo (nI N) tf freshF = (X.2.2.2, X.2.1))
theorem m_tellTo {N : Nat} {tf : Nat → Int32} (hN : N ≤ 120) (h6 : 6 ≤ N) : f_X4_tellTo (nI N) tf freshF = f_X4_tellTo_L49 (nI N) tf (N - 6 + 1) 0 (nI 6) (nI 6) (if f_X5_isShape (f_X4_numberAt (nI N) tf (nI 1) (nI 2)) (f_X4_numberAt (nI N) tf (nI 3) (nI 2)) = 0 then freshF else bgF freshF (f_X4_numberAt (nI N) tf (nI 1) (nI 2)) (f_X4_numberAt (nI N) tf (nI 3) (nI 2)) (f_X4_numberAt (nI N) tf (nI 5) (nI 1))) := by
  have e6 : (6 : Int32).toInt = 6 := by decide
  have hfe : ((nI N).toInt - (6 : Int32).toInt).toNat + 1 = N - 6 + 1 := by rw [nI_toInt (by omega), e6]; omega
  have x1 : f_X4_numberAt (nI N) tf 1 2 = f_X4_numberAt (nI N) tf (nI 1) (nI 2) := rfl
  have x3 : f_X4_numberAt (nI N) tf 3 2 = f_X4_numberAt (nI N) tf (nI 3) (nI 2) := rfl
  have x5 : f_X4_numberAt (nI N) tf 5 1 = f_X4_numberAt (nI N) tf (nI 5) (nI 1) := rfl
  unfold f_X4_tellTo
  rw [gLet_e x1, gLet_e x3, hfe, gLet_e (b := f_X5_isShape (f_X4_numberAt (nI N) tf (nI 1) (nI 2)) (f_X4_numberAt (nI N) tf (nI 3) (nI 2))) rfl]
  by_cases d : f_X5_isShape (f_X4_numberAt (nI N) tf (nI 1) (nI 2)) (f_X4_numberAt (nI N) tf (nI 3) (nI 2)) = 0
  · rw [if_pos d, if_pos d]; rfl
  · rw [if_neg d, if_neg d, gLet_e x1, gLet_e x3, gLet_e x5, gLet_e (m_begin m_fresh_A.tl _ _ _)]; rfl
/-- a text is read as it is told -/
theorem m_text {N : Nat} {tf : Nat → Int32} {rf ac sp ou : Int32} {t : gR} (hN : N ≤ 120) (ht : ∀ j, ∃ c, c < 256 ∧ tf j = nI c) (hT : Tl t) : textP N tf (f_X6_readText rf (nI N) ac sp ou tf t) := by
  have hz : ¬ (0 : Int32) = -1 := by decide
  have hh := m_eih (tf := tf) hN
  by_cases c0 : N = 0 ∨ ¬ tf 0 = 76
  · rw [if_pos c0] at hh
    have hf := m_fe1 hh hz
    rw [m_rt0 hN hT c0]
    exact ⟨hf.symm, m_fresh_A, fun q => absurd (hf.symm.trans q) hz⟩
  rw [if_neg c0] at hh
  have h0 : ¬ N = 0 := fun q => c0 (Or.inl q)
  have hL : tf 0 = 76 := Classical.byContradiction fun q => c0 (Or.inr q)
  have bad : ∀ e : Nat, e < 1000 → f_X4_errorInHead (nI N) tf = nI e → f_X6_readText rf (nI N) ac sp ou tf t = (nI e, freshF, nI e, 0) → textP N tf (f_X6_readText rf (nI N) ac sp ou tf t) := by
    intro e he h1 h2
    have hf := m_fe1 h1 (m_ne1 (by omega))
    rw [h2]
    exact ⟨hf.symm, m_fresh_A, fun q => absurd (hf.symm.trans q) (m_ne1 (by omega))⟩
  rcases m_fig (N := N) (S := 1) (m := 2) (tf := tf) (rf := rf) (ac := ac) (ou := 0) (p0 := 0) (lo := 4) (hi := 32) hN (by omega) (Or.inr (Or.inl rfl)) hz ht with ⟨a1, a2, ⟨y, a3, a3'⟩, a4, a5, a6⟩ | ⟨e, e0, e1, e2⟩
  · rw [if_pos a1] at hh
    have hn1 : ¬ f_X4_numberAt (nI N) tf (nI 1) (nI 2) = -1 := by rw [a3]; exact m_ne1 (by omega)
    rcases m_fig (N := N) (S := 3) (m := 2) (tf := tf) (rf := rf) (ac := ac) (ou := 0) (p0 := f_X4_numberAt (nI N) tf (nI 1) (nI 2)) (lo := 1) (hi := 31) hN (by omega) (Or.inr (Or.inl rfl)) hn1 ht with ⟨b1, b2, ⟨z, b3, b3'⟩, b4, b5, b6⟩ | ⟨e, e0, e1, e2⟩
    · rw [if_pos b1] at hh
      have hn2 : ¬ f_X4_numberAt (nI N) tf (nI 3) (nI 2) = -1 := by rw [b3]; exact m_ne1 (by omega)
      rcases m_fig (N := N) (S := 5) (m := 1) (tf := tf) (rf := rf) (ac := ac) (ou := 0) (p0 := f_X4_numberAt (nI N) tf (nI 3) (nI 2)) (lo := 0) (hi := 4) hN (by omega) (Or.inl rfl) hn2 ht with ⟨c1, c2, ⟨w, c3, c3'⟩, c4, c5, c6⟩ | ⟨e, e0, e1, e2⟩
      · rw [c1] at hh
        obtain ⟨-, r1, r2⟩ := m_rt (sp := sp) (ou := ou) hN h0 hT hL a2 b2 c2
        have hc : ¬ f_X4_numberAt (nI N) tf (nI 5) (nI 1) = -1 := by rw [c3]; exact m_ne1 (by omega)
        have r1 := r1 hc
        have r2 := r2 hc
        have e6 : (6 : Int32).toInt = 6 := by decide
        have hfe : ((nI N).toInt - (6 : Int32).toInt).toNat + 1 = N - 6 + 1 := by rw [nI_toInt (by omega), e6]; omega
        have hfr : ((nI N).toInt - (nI (5 + 1)).toInt).toNat + 1 = N - 6 + 1 := by
          rw [nI_toInt (by omega), nI_toInt (by omega)]; omega
        have hcan : f_X6_canMake (f_X4_numberAt (nI N) tf (nI 1) (nI 2)) (f_X4_numberAt (nI N) tf (nI 3) (nI 2)) (f_X4_numberAt (nI N) tf (nI 5) (nI 1)) = if f_X5_isShape (f_X4_numberAt (nI N) tf (nI 1) (nI 2)) (f_X4_numberAt (nI N) tf (nI 3) (nI 2)) = 0 then 0 else 1 := by
          rw [m_can, if_neg (Int32.not_lt.mpr c6), if_neg c5]
        have htell := m_tellTo (tf := tf) hN (by omega)
        have hfirst : f_X4_firstError (nI N) tf = f_X4_firstError_L11 (nI N) tf (N - 6 + 1) (-1) (nI 6) (nI 6) := by rw [m_fe, hh, hfe]; rfl
        have good : ∀ st : gR, InvA st → f_X6_readText rf (nI N) ac sp ou tf t = f_X6_readText_L99 rf (nI N) ac tf (N - 6 + 1) st (nI 6) 0 → f_X4_tellTo (nI N) tf freshF = f_X4_tellTo_L49 (nI N) tf (N - 6 + 1) 0 (nI 6) (nI 6) st → textP N tf (f_X6_readText rf (nI N) ac sp ou tf t) := by
          intro st hst h1 h2
          obtain ⟨k1, k2, k3⟩ := m_read_L (rf := rf) (ac := ac) hN ht (N - 6) (N - 6 + 1) 6 st 0 (by omega) (by omega) (by omega) hst
          rw [h1]
          unfold textP
          rw [hfirst, h2]
          exact ⟨k1, k2, k3⟩
        by_cases d : f_X5_isShape (f_X4_numberAt (nI N) tf (nI 1) (nI 2)) (f_X4_numberAt (nI N) tf (nI 3) (nI 2)) = 0
        · rw [if_pos d] at hcan htell
          have r1 := r1 hcan
          rw [show (((nI N).toInt - ((f_X4_numberAt (nI N) tf (nI 5) (nI 1), nI (5 + 1)) : Int32 × Int32).2.toInt).toNat + 1) = N - 6 + 1 from hfr] at r1
          exact good freshF m_fresh_A r1 htell
        · rw [if_neg d] at hcan htell
          have r2 := r2 (by rw [hcan]; decide)
          rw [show (((nI N).toInt - ((f_X4_numberAt (nI N) tf (nI 5) (nI 1), nI (5 + 1)) : Int32 × Int32).2.toInt).toNat + 1) = N - 6 + 1 from hfr] at r2
          refine good (bgF freshF (f_X4_numberAt (nI N) tf (nI 1) (nI 2)) (f_X4_numberAt (nI N) tf (nI 3) (nI 2)) (f_X4_numberAt (nI N) tf (nI 5) (nI 1))) ?_ r2 htell
          rw [a3, b3] at d
          rw [a3, b3, c3]
          rw [c3] at c5
          have c5' : w ≤ 4 := (nI_leI (a := w) (b := 4) (by omega) (by omega)).mp (Int32.not_lt.mp c5)
          rw [m_shape] at d
          have d1 : ¬ nI y < 4 := fun q => d (if_pos q)
          rw [if_neg d1] at d
          have d2 : ¬ 32 < nI y := fun q => d (if_pos q)
          rw [if_neg d2] at d
          have d3 : ¬ nI z < 1 := fun q => d (if_pos q)
          rw [if_neg d3] at d
          have d4 : ¬ nI y ≤ nI z := fun q => d (if_pos q)
          have f1 := (nI_leI (a := 4) (b := y) (by omega) (by omega)).mp (Int32.not_lt.mp d1)
          have f2 := (nI_leI (a := y) (b := 32) (by omega) (by omega)).mp (Int32.not_lt.mp d2)
          have f3 := (nI_leI (a := 1) (b := z) (by omega) (by omega)).mp (Int32.not_lt.mp d3)
          have f4 : z < y := (nI_ltI (a := z) (b := y) (by omega) (by omega)).mp (Int32.not_le.mp d4)
          exact m_bg_A m_fresh_A f1 f2 f3 f4 c5'
      · exact bad e e0 (hh.trans e1) ((m_rt (sp := sp) (ou := ou) hN h0 hT hL a2 b2 e2).1 rfl)
    · rw [if_neg (show ¬ f_X4_errorInNumber (nI N) tf (nI 3) (nI 2) 1 31 = -1 by rw [e1]; exact m_ne1 (by omega))] at hh
      exact bad e e0 (hh.trans e1) ((m_rt (sp := sp) (ou := ou) hN h0 hT hL a2 e2 (m_fig0 (m := 1))).1 rfl)
  · rw [if_neg (show ¬ f_X4_errorInNumber (nI N) tf (nI 1) (nI 2) 4 32 = -1 by rw [e1]; exact m_ne1 (by omega))] at hh
    exact bad e e0 (hh.trans e1) ((m_rt (sp := sp) (ou := ou) hN h0 hT hL e2 (m_fig0 (m := 2)) (m_fig0 (m := 1))).1 rfl)
