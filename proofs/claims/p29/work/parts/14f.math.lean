/-! WHAT IS ANSWERED -/
def okS (S : oS) : Prop := (0 ≤ S.2.2.2.2.2.1.toInt ∧ S.2.2.2.2.2.1.toInt < (14 : Nat)) ∧ okC S.2.2.1 ∧ okT S.1 S.2.1 ∧ okQ S.2.2.2.2.2.2.1 ∧ okQ S.2.2.2.2.2.2.2.1
def GS (S : oS) : Prop := okS S ∧ Gd S.2.2.1 ∧ (0 ≤ S.2.2.2.2.1.toInt ∧ S.2.2.2.2.1.toInt ≤ 14) ∧ ∀ s : Nat, s < 2 → ¬ S.2.2.2.2.2.2.2.2 s = 0 → ∃ r', S.2.2.2.2.2.2.2.1 s = some r' ∧ Gd r'
def sRc (S : oS) (c : gR) : oS := (S.1, S.2.1, S.2.2.1, c, S.2.2.2.2)
theorem GS.rc {S : oS} {c : gR} (h : GS S) : GS (sRc S c) := h
theorem GS.gd {S : oS} (h : GS S) : Gd S.2.2.1 := h.2.1
theorem GS.ok {S : oS} (h : GS S) : okS S := h.1
theorem sRc_rc (S : oS) (c c' : gR) : sRc (sRc S c) c' = sRc S c' := rfl
theorem sRc_id (S : oS) : sRc S S.2.2.2.1 = S := rfl
/-- behind an action: the state that it makes, and the one before it remembered -/
def sAct (S : oS) (r' : gR) : oS := (S.1, S.2.1, r', S.2.2.2.1, (f_X0_remember S.2.2.1 S.2.2.2.2.1 S.2.2.2.2.2.1 S.2.2.2.2.2.2.1).2.1, (f_X0_remember S.2.2.1 S.2.2.2.2.1 S.2.2.2.2.2.1 S.2.2.2.2.2.2.1).2.2, (f_X0_remember S.2.2.1 S.2.2.2.2.1 S.2.2.2.2.2.1 S.2.2.2.2.2.2.1).1, S.2.2.2.2.2.2.2.1, S.2.2.2.2.2.2.2.2)
theorem h_qn {x : Int32} (h : 0 ≤ x.toInt ∧ x.toInt < (14 : Nat)) : 0 ≤ ((if 14 ≤ x + 1 then 0 else x + 1 : Int32)).toInt ∧ ((if 14 ≤ x + 1 then 0 else x + 1 : Int32)).toInt < (14 : Nat) := by
  have e1 : (1 : Int32).toInt = 1 := by decide
  have e14 : (14 : Int32).toInt = 14 := by decide
  have e2 : (x + 1).toInt = x.toInt + 1 := by rw [i_add (by omega) (by omega), e1]
  by_cases c : (14 : Int32) ≤ x + 1
  · rw [if_pos c]; exact ⟨by decide, by decide⟩
  · rw [if_neg c]
    have c1 := i_lt.mp (Int32.not_le.mp c)
    omega
theorem h_qz {x : Int32} (h : 0 ≤ x.toInt ∧ x.toInt ≤ 14) : 1 ≤ ((if 14 < x + 1 then 14 else x + 1 : Int32)).toInt ∧ ((if 14 < x + 1 then 14 else x + 1 : Int32)).toInt ≤ 14 := by
  have e1 : (1 : Int32).toInt = 1 := by decide
  have e14 : (14 : Int32).toInt = 14 := by decide
  have e2 : (x + 1).toInt = x.toInt + 1 := by rw [i_add (by omega) (by omega), e1]
  by_cases c : (14 : Int32) < x + 1
  · rw [if_pos c]; exact ⟨by decide, by decide⟩
  · rw [if_neg c]
    have c1 := i_le.mp (Int32.not_lt.mp c)
    omega
theorem okQ_put {q : Nat → Option gR} {k : Nat} {r : gR} (h : okQ q) (hr : okC r) : okQ (gPut q k r) := by
  intro i s hs
  unfold gPut at hs
  by_cases c : i = k
  · rw [if_pos c] at hs; cases hs; exact hr
  · rw [if_neg c] at hs; exact h i s hs
theorem okS.act {S : oS} {r' : gR} (h : okS S) (h' : okC r') : okS (sAct S r') := ⟨h_qn h.1, h', h.2.2.1, okQ_put h.2.2.2.1 h.2.1, h.2.2.2.2⟩
theorem GS.act {S : oS} {r' : gR} (h : GS S) (h' : Gd r') : GS (sAct S r') := by
  obtain ⟨h1, h2, h3, h4⟩ := h
  have q := h_qz h3
  exact ⟨h1.act h'.1.1, h', ⟨Int.le_trans (by decide) q.1, q.2⟩, h4⟩
theorem s_ab {r : gR} {p : Int32} (h0 : ¬ p < 0) (h1 : p ≤ 11) : f_L_tryAbout r p = f_X3_number r p := by
  have e : f_X5_about r p = (0, f_X3_number r p) := by
    unfold f_X5_about; rw [if_neg h0, if_pos h1]; rfl
  unfold f_L_tryAbout; rw [gLet_e e]; rfl
theorem s_ab0 (S : oS) (q d : Int32) : fCall S 2 0 q d = (S.2.2.1 0, S) := by
  rw [fc_tryAbout, s_ab (by decide) (by decide)]
  unfold f_X3_number
  rw [if_pos rfl]
theorem s_ab1 (S : oS) (q d : Int32) : fCall S 2 1 q d = (S.2.2.1 2, S) := by
  rw [fc_tryAbout, s_ab (by decide) (by decide)]
  unfold f_X3_number
  rw [if_neg (by decide)]
  rw [if_pos rfl]
theorem s_ab2 (S : oS) (q d : Int32) : fCall S 2 2 q d = (S.2.2.1 3, S) := by
  rw [fc_tryAbout, s_ab (by decide) (by decide)]
  unfold f_X3_number
  rw [if_neg (by decide)]
  rw [if_neg (by decide)]
  rw [if_pos rfl]
theorem s_ab3 (S : oS) (q d : Int32) : fCall S 2 3 q d = (S.2.2.1 4, S) := by
  rw [fc_tryAbout, s_ab (by decide) (by decide)]
  unfold f_X3_number
  rw [if_neg (by decide)]
  rw [if_neg (by decide)]
  rw [if_neg (by decide)]
  rw [if_pos rfl]
theorem s_ab4 (S : oS) (q d : Int32) : fCall S 2 4 q d = (S.2.2.1 5, S) := by
  rw [fc_tryAbout, s_ab (by decide) (by decide)]
  unfold f_X3_number
  rw [if_neg (by decide)]
  rw [if_neg (by decide)]
  rw [if_neg (by decide)]
  rw [if_neg (by decide)]
  rw [if_pos rfl]
theorem s_ab5 (S : oS) (q d : Int32) : fCall S 2 5 q d = (S.2.2.1 6, S) := by
  rw [fc_tryAbout, s_ab (by decide) (by decide)]
  unfold f_X3_number
  rw [if_neg (by decide)]
  rw [if_neg (by decide)]
  rw [if_neg (by decide)]
  rw [if_neg (by decide)]
  rw [if_neg (by decide)]
  rw [if_pos rfl]
theorem s_ab8 (S : oS) (q d : Int32) : fCall S 2 8 q d = (S.2.2.1 7, S) := by
  rw [fc_tryAbout, s_ab (by decide) (by decide)]
  unfold f_X3_number
  rw [if_neg (by decide)]
  rw [if_neg (by decide)]
  rw [if_neg (by decide)]
  rw [if_neg (by decide)]
  rw [if_neg (by decide)]
  rw [if_neg (by decide)]
  rw [if_neg (by decide)]
  rw [if_neg (by decide)]
  rw [if_pos rfl]
theorem s_ab10 (S : oS) (q d : Int32) : fCall S 2 10 q d = (S.2.2.1 9, S) := by
  rw [fc_tryAbout, s_ab (by decide) (by decide)]
  unfold f_X3_number
  rw [if_neg (by decide)]
  rw [if_neg (by decide)]
  rw [if_neg (by decide)]
  rw [if_neg (by decide)]
  rw [if_neg (by decide)]
  rw [if_neg (by decide)]
  rw [if_neg (by decide)]
  rw [if_neg (by decide)]
  rw [if_neg (by decide)]
  rw [if_neg (by decide)]
  rw [if_pos rfl]
theorem s_ab11 (S : oS) (q d : Int32) : fCall S 2 11 q d = (S.2.2.1 10, S) := by
  rw [fc_tryAbout, s_ab (by decide) (by decide)]
  unfold f_X3_number
  rw [if_neg (by decide)]
  rw [if_neg (by decide)]
  rw [if_neg (by decide)]
  rw [if_neg (by decide)]
  rw [if_neg (by decide)]
  rw [if_neg (by decide)]
  rw [if_neg (by decide)]
  rw [if_neg (by decide)]
  rw [if_neg (by decide)]
  rw [if_neg (by decide)]
  rw [if_neg (by decide)]
  rw [if_pos rfl]
theorem s_ab6 (S : oS) (q d : Int32) (h : Gd S.2.2.1) : fCall S 2 6 q d = (nI (mxW S.2.2.1 (nN (S.2.2.1 0) + 1)), S) := by
  rw [fc_tryAbout, s_ab (by decide) (by decide)]
  unfold f_X3_number
  rw [if_neg (by decide)]
  rw [if_neg (by decide)]
  rw [if_neg (by decide)]
  rw [if_neg (by decide)]
  rw [if_neg (by decide)]
  rw [if_neg (by decide)]
  rw [if_pos rfl, gLet_e (m_great h)]
theorem s_ab7 (S : oS) (q d : Int32) (h : Gd S.2.2.1) : fCall S 2 7 q d = (nI (mnW S.2.2.1 (nN (S.2.2.1 0) + 1)), S) := by
  rw [fc_tryAbout, s_ab (by decide) (by decide)]
  unfold f_X3_number
  rw [if_neg (by decide)]
  rw [if_neg (by decide)]
  rw [if_neg (by decide)]
  rw [if_neg (by decide)]
  rw [if_neg (by decide)]
  rw [if_neg (by decide)]
  rw [if_neg (by decide)]
  rw [if_pos rfl, gLet_e (m_least h)]
theorem s_ab9 (S : oS) (q d : Int32) (h : S.2.2.1 8 = 0 ∨ S.2.2.1 8 = 1) : fCall S 2 9 q d = (S.2.2.1 8, S) := by
  rw [fc_tryAbout, s_ab (by decide) (by decide)]
  unfold f_X3_number
  rw [if_neg (by decide)]
  rw [if_neg (by decide)]
  rw [if_neg (by decide)]
  rw [if_neg (by decide)]
  rw [if_neg (by decide)]
  rw [if_neg (by decide)]
  rw [if_neg (by decide)]
  rw [if_neg (by decide)]
  rw [if_neg (by decide)]
  rw [if_pos rfl]
  rcases h with h | h
  · rw [h, if_pos rfl]
  · rw [h, if_neg (by decide)]
theorem s_read (S : oS) {l : Int32} (q d : Int32) (hl : okL S.2.2.1 l) : fCall S 3 l q d = (S.2.2.1 (13 + l.toNatClampNeg), S) := by
  have e : f_X5_read S.2.2.1 l = (0, S.2.2.1 (13 + l.toNatClampNeg)) := by
    unfold f_X5_read; rw [gLet_e (q_l1 hl), if_pos rfl, gLet_e (m_valueV hl)]
  have e2 : f_L_tryRead S.2.2.1 l = S.2.2.1 (13 + l.toNatClampNeg) := by unfold f_L_tryRead; rw [gLet_e e]; rfl
  rw [fc_tryRead, e2]
theorem s_place0 (S : oS) {l : Int32} (q d : Int32) (hl : okL S.2.2.1 l) : fCall S 4 l q d = (f_X3_placeOf S.2.2.1 l, S) := by
  have e : f_X5_place S.2.2.1 l = (0, f_X3_placeOf S.2.2.1 l) := by
    unfold f_X5_place; rw [gLet_e (q_l1 hl), if_pos rfl]; rfl
  have e2 : f_L_tryPlace S.2.2.1 l = f_X3_placeOf S.2.2.1 l := by unfold f_L_tryPlace; rw [gLet_e e]; rfl
  rw [fc_tryPlace, e2]
theorem s_place (S : oS) {l : Int32} (q d : Int32) (h : Gd S.2.2.1) (hl : okL S.2.2.1 l) : fCall S 4 l q d = (nI (pwN (nN (S.2.2.1 0)) (nN (S.2.2.1 1)) (nN l) (nN (S.2.2.1 2)) (nN (S.2.2.1 3))), S) := by
  rw [s_place0 S q d hl, m_placeN h.1 hl]
theorem pl_in {r : gR} (h : Gd r) {P : Nat} (hP : P ≤ nN (r 0)) : ¬ r 0 ≤ 0 ∧ ¬ nI P < 0 ∧ ¬ r 0 < nI P := by
  obtain ⟨e0, e1, e2, e3, b0, b1, b2, b3, b4, b5⟩ := m_num h
  refine ⟨?_, nI_pos (by omega), ?_⟩
  · rw [e0]; exact nI_nle (by omega) (by omega)
  · rw [e0]; exact nI_nlt hP (by omega)
theorem s_line (S : oS) {P : Nat} (q d : Int32) (h : Gd S.2.2.1) (hP : P ≤ nN (S.2.2.1 0)) : fCall S 5 (nI P) q d = (f_X3_lineAt S.2.2.1 (nI P), S) := by
  obtain ⟨a0, a1, a2⟩ := pl_in h hP
  have e : f_X5_line S.2.2.1 (nI P) = (0, f_X3_lineAt S.2.2.1 (nI P)) := by
    unfold f_X5_line; rw [gLet_e (q_p1 a0 a1 a2), if_pos rfl]; rfl
  have e2 : f_L_tryLine S.2.2.1 (nI P) = f_X3_lineAt S.2.2.1 (nI P) := by unfold f_L_tryLine; rw [gLet_e e]; rfl
  rw [fc_tryLine, e2]
theorem s_wear (S : oS) {P : Nat} (q d : Int32) (h : Gd S.2.2.1) (hP : P ≤ nN (S.2.2.1 0)) : fCall S 6 (nI P) q d = (nI (nN (S.2.2.1 (45 + P))), S) := by
  obtain ⟨a0, a1, a2⟩ := pl_in h hP
  obtain ⟨e0, e1, e2, e3, b0, b1, -⟩ := m_num h
  have ew : f_X3_wearOf S.2.2.1 (nI P) = nI (nN (S.2.2.1 (45 + P))) := by
    unfold f_X3_wearOf
    rw [gLet_e (hp_1 a0 a1 a2), if_neg (by decide), nI_clamp (by omega)]
    exact (m_wearN h.2.1 (by omega)).1
  have e : f_X5_wear S.2.2.1 (nI P) = (0, nI (nN (S.2.2.1 (45 + P)))) := by
    unfold f_X5_wear; rw [gLet_e (q_p1 a0 a1 a2), if_pos rfl, gLet_e ew]
  have e2 : f_L_tryWear S.2.2.1 (nI P) = nI (nN (S.2.2.1 (45 + P))) := by unfold f_L_tryWear; rw [gLet_e e]; rfl
  rw [fc_tryWear, e2]
theorem s_setting1 (S : oS) (q d : Int32) : fCall S 7 1 q d = (S.2.2.1 12, S) := by
  have e1 : f_X5_requireSetting 1 = 0 := by decide
  have e : f_X5_setting S.2.2.1 1 = (0, S.2.2.1 12) := by
    unfold f_X5_setting; rw [gLet_e e1, if_pos rfl]
    unfold f_X3_settingOf; rw [if_neg (by decide)]; rfl
  have e2 : f_L_trySetting S.2.2.1 1 = S.2.2.1 12 := by unfold f_L_trySetting; rw [gLet_e e]; rfl
  rw [fc_trySetting, e2]
theorem s_moves (S : oS) {l : Int32} (q d : Int32) (h : Gd S.2.2.1) (hl : okL S.2.2.1 l) : fCall S 18 l q d = (nI (mvK S.2.2.1 l), S) := by
  have e : f_X5_movesTo S.2.2.1 l = (0, nI (mvK S.2.2.1 l)) := by
    unfold f_X5_movesTo; rw [gLet_e (q_l1 hl), if_pos rfl, gLet_e (m_moved h.1 hl)]
  have e2 : f_L_tryMoves S.2.2.1 l = nI (mvK S.2.2.1 l) := by unfold f_L_tryMoves; rw [gLet_e e]; rfl
  rw [fc_tryMoves, e2]
theorem s_behind0 (S : oS) {l : Int32} {m : Nat} (d : Int32) (hl : okL S.2.2.1 l) (hm : m < 10000) : fCall S 19 l (nI m) d = (f_X3_placeAfterMoves S.2.2.1 l (nI m), S) := by
  have e : f_X5_placeBehind S.2.2.1 l (nI m) = (0, f_X3_placeAfterMoves S.2.2.1 l (nI m)) := by
    unfold f_X5_placeBehind
    rw [gLet_e (q_l1 hl), if_pos rfl, if_neg (nI_pos (by omega)), if_pos (show nI m ≤ 9999 from nI_le (b := 9999) (by omega) (by omega))]
    rfl
  have e2 : f_L_tryBehind S.2.2.1 l (nI m) = f_X3_placeAfterMoves S.2.2.1 l (nI m) := by unfold f_L_tryBehind; rw [gLet_e e]; rfl
  rw [fc_tryBehind, e2]
theorem s_behind (S : oS) {l : Int32} {m : Nat} (d : Int32) (h : Gd S.2.2.1) (hl : okL S.2.2.1 l) (hm : m < 10000) : fCall S 19 l (nI m) d = (nI (pwN (nN (S.2.2.1 0)) (nN (S.2.2.1 1)) (nN l) (pbS S.2.2.1 m) (pbG S.2.2.1 m)), S) := by
  rw [s_behind0 S d hl hm, m_after h.1 hl hm]
theorem s_life (S : oS) {l : Int32} (q d : Int32) (hl : okL S.2.2.1 l) : fCall S 14 l q d = (nI (hmF l 2000 S.2.2.1).1, sRc S (hmF l 2000 S.2.2.1).2) := by
  have eh : f_X3_hammerLine S.2.2.1 l 2000 = (nI (hmF l 2000 S.2.2.1).1, (hmF l 2000 S.2.2.1).2) := m_hm (m := 2000) (by omega)
  have e : f_X5_life S.2.2.1 S.2.2.2.1 l = (0, nI (hmF l 2000 S.2.2.1).1, (hmF l 2000 S.2.2.1).2) := by
    unfold f_X5_life; rw [gLet_e (q_l1 hl), if_pos rfl, gLet_e eh]
  have e2 : f_L_tryLife S.2.2.1 S.2.2.2.1 l = (nI (hmF l 2000 S.2.2.1).1, (hmF l 2000 S.2.2.1).2) := by unfold f_L_tryLife; rw [gLet_e e]; rfl
  rw [fc_tryLife, e2]
  rfl
theorem r0_pos {r : gR} (h : Gd r) : ¬ r 0 ≤ 0 := (pl_in h (Nat.zero_le _)).1
theorem s_long (S : oS) (p q d : Int32) (h : Gd S.2.2.1) : ∃ (j : Nat) (c : gR), fCall S 15 p q d = (nI j, sRc S c) ∧ j ≤ 4000 ∧ (j = 0 ↔ ¬ S.2.2.1 8 = 0) := by
  obtain ⟨j, h1, h2, h3⟩ := m_long (r := S.2.2.1)
  have e : f_X5_lifeOfAll S.2.2.1 S.2.2.2.1 = (0, nI j, (f_X3_writeInTurn S.2.2.1 4000).2) := by
    unfold f_X5_lifeOfAll; rw [gLet_e (q_st (r0_pos h)), if_pos rfl, gLet_e (b := f_X3_writeInTurn S.2.2.1 4000) rfl, h2]
  have e2 : f_L_tryLong S.2.2.1 S.2.2.2.1 = (nI j, (f_X3_writeInTurn S.2.2.1 4000).2) := by unfold f_L_tryLong; rw [gLet_e e]; rfl
  refine ⟨j, (f_X3_writeInTurn S.2.2.1 4000).2, ?_, h1, h3⟩
  rw [fc_tryLong, e2]
  rfl
theorem s_every (S : oS) {l : Int32} {e m : Nat} (hl : okL S.2.2.1 l) (h1 : 1 ≤ e) (h2 : e ≤ 50) (h3 : 1 ≤ m) (h4 : m ≤ 500) : fCall S 16 l (nI e) (nI m) = (wE S.2.2.1 l (nI m) e, sRc S (f_X5_wearIfEvery S.2.2.1 S.2.2.1 l (nI e) (nI m)).2) := by
  have ee : f_X5_ifEvery S.2.2.1 S.2.2.2.1 l (nI e) (nI m) = (0, wE S.2.2.1 l (nI m) e, (f_X5_wearIfEvery S.2.2.1 S.2.2.1 l (nI e) (nI m)).2) := by
    unfold f_X5_ifEvery
    rw [gLet_e (q_l1 hl), if_pos rfl, if_neg (show ¬ nI e < 1 from nI_nlt (b := 1) h1 (by omega)), if_pos (show nI e ≤ 50 from nI_le (b := 50) h2 (by omega)), gLet_e (q_h1 (show ¬ nI m < 1 from nI_nlt (b := 1) h3 (by omega)) (show ¬ 500 < nI m from nI_nlt (a := 500) h4 (by omega))), if_pos rfl]
    rfl
  have e2 : f_L_tryEvery S.2.2.1 S.2.2.2.1 l (nI e) (nI m) = (wE S.2.2.1 l (nI m) e, (f_X5_wearIfEvery S.2.2.1 S.2.2.1 l (nI e) (nI m)).2) := by unfold f_L_tryEvery; rw [gLet_e ee]; rfl
  rw [fc_tryEvery, e2]
  rfl
theorem s_best (S : oS) {l : Int32} {m : Nat} (d : Int32) (hl : okL S.2.2.1 l) (h1 : 1 ≤ m) (h2 : m ≤ 500) : ∃ (B : Nat) (c : gR), fCall S 17 l (nI m) d = (nI B, sRc S c) ∧ 1 ≤ B ∧ B ≤ 50 ∧ ∀ e, 1 ≤ e → e ≤ 50 → wE S.2.2.1 l (nI m) B ≤ wE S.2.2.1 l (nI m) e ∧ (B < e → wE S.2.2.1 l (nI m) B < wE S.2.2.1 l (nI m) e) := by
  obtain ⟨B, c, e, h3, h4, h5⟩ := m_best (rc := S.2.2.2.1) hl h1 h2
  have e2 : f_L_tryBest S.2.2.1 S.2.2.2.1 l (nI m) = (nI B, c) := by unfold f_L_tryBest; rw [gLet_e e]; rfl
  refine ⟨B, c, ?_, h3, h4, h5⟩
  rw [fc_tryBest, e2]
  rfl
theorem s_hammer (S : oS) {l : Int32} {m : Nat} (d : Int32) (hl : okL S.2.2.1 l) (h1 : 1 ≤ m) (h2 : m ≤ 500) : fCall S 10 l (nI m) d = (nI (hmF l m S.2.2.1).1, sAct S (hmF l m S.2.2.1).2) := by
  have e : f_X5_hammer S.1 S.2.1 S.2.2.1 S.2.2.2.1 S.2.2.2.2.1 S.2.2.2.2.2.1 S.2.2.2.2.2.2.1 S.2.2.2.2.2.2.2.1 S.2.2.2.2.2.2.2.2 l (nI m) = (0, nI (hmF l m S.2.2.1).1, (hmF l m S.2.2.1).2, (f_X0_remember S.2.2.1 S.2.2.2.2.1 S.2.2.2.2.2.1 S.2.2.2.2.2.2.1).1, (f_X0_remember S.2.2.1 S.2.2.2.2.1 S.2.2.2.2.2.1 S.2.2.2.2.2.2.1).2.1, (f_X0_remember S.2.2.1 S.2.2.2.2.1 S.2.2.2.2.2.1 S.2.2.2.2.2.2.1).2.2) := by
    unfold f_X5_hammer
    rw [gLet_e (q_l1 hl), if_pos rfl, gLet_e (q_h1 (show ¬ nI m < 1 from nI_nlt (b := 1) h1 (by omega)) (show ¬ 500 < nI m from nI_nlt (a := 500) h2 (by omega))), if_pos rfl, gLet_e (b := f_X0_remember S.2.2.1 S.2.2.2.2.1 S.2.2.2.2.2.1 S.2.2.2.2.2.2.1) rfl, gLet_e (m_hm (by omega))]
  have e2 : f_L_tryHammer S.1 S.2.1 S.2.2.1 S.2.2.2.1 S.2.2.2.2.1 S.2.2.2.2.2.1 S.2.2.2.2.2.2.1 S.2.2.2.2.2.2.2.1 S.2.2.2.2.2.2.2.2 l (nI m) = (nI (hmF l m S.2.2.1).1, (hmF l m S.2.2.1).2, (f_X0_remember S.2.2.1 S.2.2.2.2.1 S.2.2.2.2.2.1 S.2.2.2.2.2.2.1).1, (f_X0_remember S.2.2.1 S.2.2.2.2.1 S.2.2.2.2.2.1 S.2.2.2.2.2.2.1).2.1, (f_X0_remember S.2.2.1 S.2.2.2.2.1 S.2.2.2.2.2.1 S.2.2.2.2.2.2.1).2.2) := by unfold f_L_tryHammer; rw [gLet_e e]; rfl
  rw [fc_tryHammer, e2]
  rfl
/-- behind an action and its undo -/
def sUn (S : oS) : oS := (S.1, S.2.1, S.2.2.1, S.2.2.2.1, (f_X0_remember S.2.2.1 S.2.2.2.2.1 S.2.2.2.2.2.1 S.2.2.2.2.2.2.1).2.1 - 1, S.2.2.2.2.2.1, (f_X0_remember S.2.2.1 S.2.2.2.2.1 S.2.2.2.2.2.1 S.2.2.2.2.2.2.1).1, S.2.2.2.2.2.2.2.1, S.2.2.2.2.2.2.2.2)
theorem h_un {x : Int32} (h : 0 ≤ x.toInt ∧ x.toInt ≤ 14) : 0 ≤ ((if 14 < x + 1 then 14 else x + 1 : Int32) - 1).toInt ∧ ((if 14 < x + 1 then 14 else x + 1 : Int32) - 1).toInt ≤ 13 := by
  obtain ⟨q1, q2⟩ := h_qz h
  have e1 : (1 : Int32).toInt = 1 := by decide
  rw [i_sub (by omega) (by omega), e1]
  omega
theorem h_back {x : Int32} (h : 0 ≤ x.toInt ∧ x.toInt < (14 : Nat)) : (if (if 14 ≤ x + 1 then 0 else x + 1 : Int32) ≤ 0 then 13 else (if 14 ≤ x + 1 then 0 else x + 1 : Int32) - 1 : Int32) = x := by
  have e1 : (1 : Int32).toInt = 1 := by decide
  have e14 : (14 : Int32).toInt = 14 := by decide
  have e2 : (x + 1).toInt = x.toInt + 1 := by rw [i_add (by omega) (by omega), e1]
  by_cases c : (14 : Int32) ≤ x + 1
  · rw [if_pos c, if_pos (by decide)]
    have c1 := i_le.mp c
    exact i_eq.mpr (by rw [show (13 : Int32).toInt = 13 from by decide]; omega)
  · rw [if_neg c, if_neg (by rw [i_le, i_z]; omega)]
    exact Int32.add_sub_cancel _ _
theorem s_undo (S : oS) {r' : gR} (p q d : Int32) (h : GS S) : fCall (sAct S r') 13 p q d = ((f_X0_remember S.2.2.1 S.2.2.2.2.1 S.2.2.2.2.2.1 S.2.2.2.2.2.2.1).2.1 - 1, sUn S) := by
  have hz : ¬ (f_X0_remember S.2.2.1 S.2.2.2.2.1 S.2.2.2.2.2.1 S.2.2.2.2.2.2.1).2.1 = 0 := fun e => by
    have q1 := (h_qz h.2.2.1).1
    have e : (if 14 < S.2.2.2.2.1 + 1 then 14 else S.2.2.2.2.1 + 1 : Int32) = 0 := e
    rw [e] at q1
    exact absurd q1 (by decide)
  have hb := h_back h.1.1
  have e0 : f_X0_takeBack r' (f_X0_remember S.2.2.1 S.2.2.2.2.1 S.2.2.2.2.2.1 S.2.2.2.2.2.2.1).2.1 (f_X0_remember S.2.2.1 S.2.2.2.2.1 S.2.2.2.2.2.1 S.2.2.2.2.2.2.1).2.2 (f_X0_remember S.2.2.1 S.2.2.2.2.1 S.2.2.2.2.2.1 S.2.2.2.2.2.2.1).1 = (1, S.2.2.1, (f_X0_remember S.2.2.1 S.2.2.2.2.1 S.2.2.2.2.2.1 S.2.2.2.2.2.2.1).2.1 - 1, S.2.2.2.2.2.1) :=
    tb_some hz hb (by show gPut _ _ _ _ = _; unfold gPut; rw [if_pos rfl])
  have e : f_X5_undo S.1 S.2.1 r' S.2.2.2.1 (f_X0_remember S.2.2.1 S.2.2.2.2.1 S.2.2.2.2.2.1 S.2.2.2.2.2.2.1).2.1 (f_X0_remember S.2.2.1 S.2.2.2.2.1 S.2.2.2.2.2.1 S.2.2.2.2.2.2.1).2.2 (f_X0_remember S.2.2.1 S.2.2.2.2.1 S.2.2.2.2.2.1 S.2.2.2.2.2.2.1).1 S.2.2.2.2.2.2.2.1 S.2.2.2.2.2.2.2.2 = (0, (f_X0_remember S.2.2.1 S.2.2.2.2.1 S.2.2.2.2.2.1 S.2.2.2.2.2.2.1).2.1 - 1, S.2.2.1, (f_X0_remember S.2.2.1 S.2.2.2.2.1 S.2.2.2.2.2.1 S.2.2.2.2.2.2.1).2.1 - 1, S.2.2.2.2.2.1) := by
    unfold f_X5_undo; rw [gLet_e e0, if_neg (show ¬ (1 : Int32) = 0 by decide)]; rfl
  have e2 : f_L_tryUndo S.1 S.2.1 r' S.2.2.2.1 (f_X0_remember S.2.2.1 S.2.2.2.2.1 S.2.2.2.2.2.1 S.2.2.2.2.2.2.1).2.1 (f_X0_remember S.2.2.1 S.2.2.2.2.1 S.2.2.2.2.2.1 S.2.2.2.2.2.2.1).2.2 (f_X0_remember S.2.2.1 S.2.2.2.2.1 S.2.2.2.2.2.1 S.2.2.2.2.2.2.1).1 S.2.2.2.2.2.2.2.1 S.2.2.2.2.2.2.2.2 = ((f_X0_remember S.2.2.1 S.2.2.2.2.1 S.2.2.2.2.2.1 S.2.2.2.2.2.2.1).2.1 - 1, S.2.2.1, (f_X0_remember S.2.2.1 S.2.2.2.2.1 S.2.2.2.2.2.1 S.2.2.2.2.2.2.1).2.1 - 1, S.2.2.2.2.2.1) := by
    unfold f_L_tryUndo; rw [gLet_e e]; rfl
  have e3 : f_L_tryUndo (sAct S r').1 (sAct S r').2.1 (sAct S r').2.2.1 (sAct S r').2.2.2.1 (sAct S r').2.2.2.2.1 (sAct S r').2.2.2.2.2.1 (sAct S r').2.2.2.2.2.2.1 (sAct S r').2.2.2.2.2.2.2.1 (sAct S r').2.2.2.2.2.2.2.2 = ((f_X0_remember S.2.2.1 S.2.2.2.2.1 S.2.2.2.2.2.1 S.2.2.2.2.2.2.1).2.1 - 1, S.2.2.1, (f_X0_remember S.2.2.1 S.2.2.2.2.1 S.2.2.2.2.2.1 S.2.2.2.2.2.2.1).2.1 - 1, S.2.2.2.2.2.1) := e2
  rw [fc_tryUndo, e3]
  rfl
theorem GS.un {S : oS} (h : GS S) : GS (sUn S) := by
  obtain ⟨h1, h2, h3, h4⟩ := h
  have q := h_un h3
  exact ⟨⟨h1.1, h1.2.1, h1.2.2.1, okQ_put h1.2.2.2.1 h1.2.1, h1.2.2.2.2⟩, h2, ⟨q.1, Int.le_trans q.2 (by decide)⟩, h4⟩
theorem s_unv {S : oS} (h : GS S) : f_L_thrown ((f_X0_remember S.2.2.1 S.2.2.2.2.1 S.2.2.2.2.2.1 S.2.2.2.2.2.2.1).2.1 - 1) = 0 := by
  have q : 0 ≤ ((f_X0_remember S.2.2.1 S.2.2.2.2.1 S.2.2.2.2.2.1 S.2.2.2.2.2.2.1).2.1 - 1).toInt := (h_un h.2.2.1).1
  generalize (f_X0_remember S.2.2.1 S.2.2.2.2.1 S.2.2.2.2.2.1 S.2.2.2.2.2.2.1).2.1 - 1 = v at q
  unfold f_L_thrown
  rw [if_neg (fun e => by rw [e] at q; exact absurd q (by decide)), if_neg (fun e => by rw [e] at q; exact absurd q (by decide)), if_neg (fun e => by rw [e] at q; exact absurd q (by decide))]
