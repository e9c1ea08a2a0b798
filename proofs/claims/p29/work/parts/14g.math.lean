/-! WHAT IS DONE IN A TURN -/
theorem GS.act' {S : oS} {r' : gR} (h1 : okS S) (h3 : 0 ≤ S.2.2.2.2.1.toInt ∧ S.2.2.2.2.1.toInt ≤ 14) (h4 : ∀ s : Nat, s < 2 → ¬ S.2.2.2.2.2.2.2.2 s = 0 → ∃ r', S.2.2.2.2.2.2.2.1 s = some r' ∧ Gd r') (h' : Gd r') : GS (sAct S r') := by
  have q := h_qz h3
  exact ⟨h1.act h'.1.1, h', ⟨Int.le_trans (by decide) q.1, q.2⟩, h4⟩
theorem s_write (S : oS) {l v : Int32} (d : Int32) (hl : okL S.2.2.1 l) (h0 : ¬ v < 0) (h1 : ¬ 999 < v) (h8 : S.2.2.1 8 = 0) : fCall S 9 l v d = ((f_X3_writeLine S.2.2.1 l v).1, sAct S (f_X3_writeLine S.2.2.1 l v).2) := by
  have e : f_X5_write S.1 S.2.1 S.2.2.1 S.2.2.2.1 S.2.2.2.2.1 S.2.2.2.2.2.1 S.2.2.2.2.2.2.1 S.2.2.2.2.2.2.2.1 S.2.2.2.2.2.2.2.2 l v = (0, (f_X3_writeLine S.2.2.1 l v).1, (f_X3_writeLine S.2.2.1 l v).2, (f_X0_remember S.2.2.1 S.2.2.2.2.1 S.2.2.2.2.2.1 S.2.2.2.2.2.2.1).1, (f_X0_remember S.2.2.1 S.2.2.2.2.1 S.2.2.2.2.2.1 S.2.2.2.2.2.2.1).2.1, (f_X0_remember S.2.2.1 S.2.2.2.2.1 S.2.2.2.2.2.1 S.2.2.2.2.2.2.1).2.2) := by
    unfold f_X5_write
    rw [gLet_e (q_l1 hl), if_pos rfl, gLet_e (q_v1 h0 h1), if_neg (by decide), if_pos h8]
    rfl
  have e2 : f_L_tryWrite S.1 S.2.1 S.2.2.1 S.2.2.2.1 S.2.2.2.2.1 S.2.2.2.2.2.1 S.2.2.2.2.2.2.1 S.2.2.2.2.2.2.2.1 S.2.2.2.2.2.2.2.2 l v = ((f_X3_writeLine S.2.2.1 l v).1, (f_X3_writeLine S.2.2.1 l v).2, (f_X0_remember S.2.2.1 S.2.2.2.2.1 S.2.2.2.2.2.1 S.2.2.2.2.2.2.1).1, (f_X0_remember S.2.2.1 S.2.2.2.2.1 S.2.2.2.2.2.1 S.2.2.2.2.2.2.1).2.1, (f_X0_remember S.2.2.1 S.2.2.2.2.1 S.2.2.2.2.2.1 S.2.2.2.2.2.2.1).2.2) := by unfold f_L_tryWrite; rw [gLet_e e]; rfl
  rw [fc_tryWrite, e2]
  rfl
theorem s_writeD (S : oS) {l v : Int32} (d : Int32) (hl : okL S.2.2.1 l) (h0 : ¬ v < 0) (h1 : ¬ 999 < v) (h8 : ¬ S.2.2.1 8 = 0) : fCall S 9 l v d = (-9999003, S) := by
  have e : f_X5_write S.1 S.2.1 S.2.2.1 S.2.2.2.1 S.2.2.2.2.1 S.2.2.2.2.2.1 S.2.2.2.2.2.2.1 S.2.2.2.2.2.2.2.1 S.2.2.2.2.2.2.2.2 l v = (2, 0, S.2.2.1, S.2.2.2.2.2.2.1, S.2.2.2.2.1, S.2.2.2.2.2.1) := by
    unfold f_X5_write
    rw [gLet_e (q_l1 hl), if_pos rfl, gLet_e (q_v1 h0 h1), if_neg (by decide), if_neg h8]
  have e2 : f_L_tryWrite S.1 S.2.1 S.2.2.1 S.2.2.2.1 S.2.2.2.2.1 S.2.2.2.2.2.1 S.2.2.2.2.2.2.1 S.2.2.2.2.2.2.2.1 S.2.2.2.2.2.2.2.2 l v = (-9999003, S.2.2.1, S.2.2.2.2.2.2.1, S.2.2.2.2.1, S.2.2.2.2.2.1) := by unfold f_L_tryWrite; rw [gLet_e e]; rfl
  rw [fc_tryWrite, e2]
theorem s_all (S : oS) {p : Int32} (q d : Int32) (h : Gd S.2.2.1) (h0 : ¬ p < 1) (h1 : ¬ 50 < p) : fCall S 11 p q d = ((f_X3_writeInTurn S.2.2.1 (p * S.2.2.1 0)).1, sAct S (f_X3_writeInTurn S.2.2.1 (p * S.2.2.1 0)).2) := by
  have e1 : f_X5_isRounds p = 1 := by unfold f_X5_isRounds; rw [if_neg h0, if_neg h1]
  have e : f_X5_all S.1 S.2.1 S.2.2.1 S.2.2.2.1 S.2.2.2.2.1 S.2.2.2.2.2.1 S.2.2.2.2.2.2.1 S.2.2.2.2.2.2.2.1 S.2.2.2.2.2.2.2.2 p = (0, (f_X3_writeInTurn S.2.2.1 (p * S.2.2.1 0)).1, (f_X3_writeInTurn S.2.2.1 (p * S.2.2.1 0)).2, (f_X0_remember S.2.2.1 S.2.2.2.2.1 S.2.2.2.2.2.1 S.2.2.2.2.2.2.1).1, (f_X0_remember S.2.2.1 S.2.2.2.2.1 S.2.2.2.2.2.1 S.2.2.2.2.2.2.1).2.1, (f_X0_remember S.2.2.1 S.2.2.2.2.1 S.2.2.2.2.2.1 S.2.2.2.2.2.2.1).2.2) := by
    unfold f_X5_all
    rw [gLet_e e1, if_neg (by decide), gLet_e (q_st (r0_pos h)), if_pos rfl]
    rfl
  have e2 : f_L_tryAll S.1 S.2.1 S.2.2.1 S.2.2.2.1 S.2.2.2.2.1 S.2.2.2.2.2.1 S.2.2.2.2.2.2.1 S.2.2.2.2.2.2.2.1 S.2.2.2.2.2.2.2.2 p = ((f_X3_writeInTurn S.2.2.1 (p * S.2.2.1 0)).1, (f_X3_writeInTurn S.2.2.1 (p * S.2.2.1 0)).2, (f_X0_remember S.2.2.1 S.2.2.2.2.1 S.2.2.2.2.2.1 S.2.2.2.2.2.2.1).1, (f_X0_remember S.2.2.1 S.2.2.2.2.1 S.2.2.2.2.2.1 S.2.2.2.2.2.2.1).2.1, (f_X0_remember S.2.2.1 S.2.2.2.2.1 S.2.2.2.2.2.1 S.2.2.2.2.2.2.1).2.2) := by unfold f_L_tryAll; rw [gLet_e e]; rfl
  rw [fc_tryAll, e2]
  rfl
theorem s_lay (S : oS) {p q : Int32} (d : Int32) (h : ¬ f_X5_isSettingValue p q = 0) : fCall S 12 p q d = (f_X3_settingOf S.2.2.1 p, sAct S (f_X3_changeSetting S.2.2.1 p q)) := by
  have e : f_X5_set S.1 S.2.1 S.2.2.1 S.2.2.2.1 S.2.2.2.2.1 S.2.2.2.2.2.1 S.2.2.2.2.2.2.1 S.2.2.2.2.2.2.2.1 S.2.2.2.2.2.2.2.2 p q = (0, f_X3_settingOf S.2.2.1 p, f_X3_changeSetting S.2.2.1 p q, (f_X0_remember S.2.2.1 S.2.2.2.2.1 S.2.2.2.2.2.1 S.2.2.2.2.2.2.1).1, (f_X0_remember S.2.2.1 S.2.2.2.2.1 S.2.2.2.2.2.1 S.2.2.2.2.2.2.1).2.1, (f_X0_remember S.2.2.1 S.2.2.2.2.1 S.2.2.2.2.2.1 S.2.2.2.2.2.2.1).2.2) := by
    unfold f_X5_set
    rw [gLet_e (b := f_X5_isSettingValue p q) rfl, if_neg h]
    rfl
  have e2 : f_L_tryLay S.1 S.2.1 S.2.2.1 S.2.2.2.1 S.2.2.2.2.1 S.2.2.2.2.2.1 S.2.2.2.2.2.2.1 S.2.2.2.2.2.2.2.1 S.2.2.2.2.2.2.2.2 p q = (f_X3_settingOf S.2.2.1 p, f_X3_changeSetting S.2.2.1 p q, (f_X0_remember S.2.2.1 S.2.2.2.2.1 S.2.2.2.2.2.1 S.2.2.2.2.2.2.1).1, (f_X0_remember S.2.2.1 S.2.2.2.2.1 S.2.2.2.2.2.1 S.2.2.2.2.2.2.1).2.1, (f_X0_remember S.2.2.1 S.2.2.2.2.1 S.2.2.2.2.2.1 S.2.2.2.2.2.2.1).2.2) := by unfold f_L_tryLay; rw [gLet_e e]; rfl
  rw [fc_tryLay, e2]
  rfl
theorem sv_1 {p v : Int32} (c : ¬ f_X5_isSettingValue p v = 0) : (p = 0 ∧ 5 ≤ v.toInt ∧ v.toInt ≤ 999) ∨ (p = 1 ∧ 1 ≤ v.toInt ∧ v.toInt ≤ 50) := by
  have e5 : (5 : Int32).toInt = 5 := by decide
  have e9 : (999 : Int32).toInt = 999 := by decide
  have e1 : (1 : Int32).toInt = 1 := by decide
  have e50 : (50 : Int32).toInt = 50 := by decide
  by_cases h0 : p = 0
  · refine Or.inl ⟨h0, ?_, ?_⟩
    · have : ¬ v < 5 := fun q => c (sv_0 (Or.inl ⟨h0, Or.inl q⟩))
      have := i_le.mp (Int32.not_lt.mp this)
      omega
    · have : ¬ 999 < v := fun q => c (sv_0 (Or.inl ⟨h0, Or.inr q⟩))
      have := i_le.mp (Int32.not_lt.mp this)
      omega
  · by_cases h1 : p = 1
    · refine Or.inr ⟨h1, ?_, ?_⟩
      · have : ¬ v < 1 := fun q => c (sv_0 (Or.inr (Or.inl ⟨h1, Or.inl q⟩)))
        have := i_le.mp (Int32.not_lt.mp this)
        omega
      · have : ¬ 50 < v := fun q => c (sv_0 (Or.inr (Or.inl ⟨h1, Or.inr q⟩)))
        have := i_le.mp (Int32.not_lt.mp this)
        omega
    · exact absurd (sv_0 (Or.inr (Or.inr ⟨h0, h1⟩))) c
theorem Gd.change {r : gR} {p v : Int32} (h : Gd r) (c : ¬ f_X5_isSettingValue p v = 0) : Gd (f_X3_changeSetting r p v) := by
  unfold f_X3_changeSetting
  rcases sv_1 c with ⟨e, h1, h2⟩ | ⟨e, h1, h2⟩
  · rw [if_pos e]; exact h.set (Or.inl ⟨rfl, h2⟩)
  · rw [if_neg (by rw [e]; decide)]; exact h.set (Or.inr ⟨rfl, h1, h2⟩)
theorem k_cd1 : ∀ n, n < 33 → f_X5_haveCommonDivisor (nI n) (nI 1) = 0 := by decide +kernel
theorem k_cd2 : ∀ k, k < 32 → 3 ≤ k → f_X5_haveCommonDivisor (nI (k + 1)) (nI k) = 0 := by decide +kernel
theorem k_shape {n k : Nat} (h0 : 4 ≤ n) (h1 : n ≤ 32) (h2 : k = 1 ∨ k + 1 = n) : f_X5_isShape (nI n) (nI k) = 1 := by
  have e : f_X5_haveCommonDivisor (nI n) (nI k) = 0 := by
    rcases h2 with rfl | h2
    · exact k_cd1 n (by omega)
    · rw [← h2]; exact k_cd2 k (by omega) (by omega)
  unfold f_X5_isShape
  rw [if_neg (show ¬ nI n < 4 from nI_nlt (b := 4) h0 (by omega)), if_neg (show ¬ 32 < nI n from nI_nlt (a := 32) h1 (by omega)), if_neg (show ¬ nI k < 1 from nI_nlt (b := 1) (by omega) (by omega)), if_neg (nI_ge (by omega) (by omega)), gLet_e e, if_pos rfl]
theorem s_make (S : oS) {n k s : Nat} (ht : Tl S.2.2.1) (h11 : (S.2.2.1 11).toInt ≤ 999) (h12 : 1 ≤ (S.2.2.1 12).toInt ∧ (S.2.2.1 12).toInt ≤ 50) (h0 : 4 ≤ n) (h1 : n ≤ 32) (h2 : k = 1 ∨ k + 1 = n) (h4 : s ≤ 4) : fCall S 8 (nI n) (nI k) (nI s) = (nI k, sAct S (bgF S.2.2.1 (nI n) (nI k) (nI s))) := by
  have hg : Gd (bgF S.2.2.1 (nI n) (nI k) (nI s)) := Gd.make h11 h12 h0 h1 h2 h4
  have b0 : bgF S.2.2.1 (nI n) (nI k) (nI s) 0 = nI n := rfl
  have b1 : bgF S.2.2.1 (nI n) (nI k) (nI s) 1 = nI k := rfl
  have b2 : bgF S.2.2.1 (nI n) (nI k) (nI s) 2 = nI 0 := rfl
  have b3 : bgF S.2.2.1 (nI n) (nI k) (nI s) 3 = nI n := rfl
  have hl : okL (bgF S.2.2.1 (nI n) (nI k) (nI s)) (nI 1) := okL_nI hg (by rw [b0, nN_nI (by omega)]; omega)
  have ep : f_X3_placeOf (bgF S.2.2.1 (nI n) (nI k) (nI s)) 1 = nI k := by
    have q := m_placeN hg.1 hl
    rw [b0, b1, b2, b3, nN_nI (by omega), nN_nI (by omega), nN_nI (by omega), nN_nI (by omega)] at q
    refine Eq.trans q ?_
    unfold pwN
    rw [Nat.mul_one, Nat.add_zero, Nat.mod_eq_of_lt (by omega), if_pos (by omega)]
  have e : f_X5_make S.1 S.2.1 S.2.2.1 S.2.2.2.1 S.2.2.2.2.1 S.2.2.2.2.2.1 S.2.2.2.2.2.2.1 S.2.2.2.2.2.2.2.1 S.2.2.2.2.2.2.2.2 (nI n) (nI k) (nI s) = (0, nI k, bgF S.2.2.1 (nI n) (nI k) (nI s), (f_X0_remember S.2.2.1 S.2.2.2.2.1 S.2.2.2.2.2.1 S.2.2.2.2.2.2.1).1, (f_X0_remember S.2.2.1 S.2.2.2.2.1 S.2.2.2.2.2.1 S.2.2.2.2.2.2.1).2.1, (f_X0_remember S.2.2.1 S.2.2.2.2.1 S.2.2.2.2.2.1 S.2.2.2.2.2.2.1).2.2) := by
    unfold f_X5_make
    rw [gLet_e (k_shape h0 h1 h2), if_neg (by decide), if_neg (nI_pos (by omega)), if_pos (show nI s ≤ 4 from nI_le (b := 4) h4 (by omega)), gLet_e (b := f_X0_remember S.2.2.1 S.2.2.2.2.1 S.2.2.2.2.2.1 S.2.2.2.2.2.2.1) rfl, gLet_e (m_begin ht _ _ _), gLet_e ep]
  have e2 : f_L_tryMake S.1 S.2.1 S.2.2.1 S.2.2.2.1 S.2.2.2.2.1 S.2.2.2.2.2.1 S.2.2.2.2.2.2.1 S.2.2.2.2.2.2.2.1 S.2.2.2.2.2.2.2.2 (nI n) (nI k) (nI s) = (nI k, bgF S.2.2.1 (nI n) (nI k) (nI s), (f_X0_remember S.2.2.1 S.2.2.2.2.1 S.2.2.2.2.2.1 S.2.2.2.2.2.2.1).1, (f_X0_remember S.2.2.1 S.2.2.2.2.1 S.2.2.2.2.2.1 S.2.2.2.2.2.2.1).2.1, (f_X0_remember S.2.2.1 S.2.2.2.2.1 S.2.2.2.2.2.1 S.2.2.2.2.2.2.1).2.2) := by unfold f_L_tryMake; rw [gLet_e e]; rfl
  rw [fc_tryMake, e2]
  rfl
theorem s_keep (S : oS) {p : Nat} (q d : Int32) (h : p < 2) : fCall S 20 (nI p) q d = (S.2.2.1 5, (S.1, S.2.1, S.2.2.1, S.2.2.2.1, S.2.2.2.2.1, S.2.2.2.2.2.1, S.2.2.2.2.2.2.1, gPut S.2.2.2.2.2.2.2.1 p S.2.2.1, upd S.2.2.2.2.2.2.2.2 p 1)) := by
  have a0 : ¬ nI p < 0 := nI_pos (by omega)
  have a1 : ¬ 2 ≤ nI p := nI_ge (b := 2) h (by omega)
  have ek : f_X2_keep S.2.2.1 S.2.2.2.2.2.2.2.1 S.2.2.2.2.2.2.2.2 (nI p) = (gPut S.2.2.2.2.2.2.2.1 p S.2.2.1, upd S.2.2.2.2.2.2.2.2 p 1) := by
    unfold f_X2_keep; rw [hs_1 a0 a1, if_neg (by decide), nI_clamp (by omega)]
  have e : f_X5_save S.1 S.2.1 S.2.2.1 S.2.2.2.1 S.2.2.2.2.1 S.2.2.2.2.2.1 S.2.2.2.2.2.2.1 S.2.2.2.2.2.2.2.1 S.2.2.2.2.2.2.2.2 (nI p) = (0, S.2.2.1 5, gPut S.2.2.2.2.2.2.2.1 p S.2.2.1, upd S.2.2.2.2.2.2.2.2 p 1) := by
    unfold f_X5_save; rw [gLet_e (q_s1 a0 a1), if_pos rfl, gLet_e ek]
  have e2 : f_L_tryKeep S.1 S.2.1 S.2.2.1 S.2.2.2.1 S.2.2.2.2.1 S.2.2.2.2.2.1 S.2.2.2.2.2.2.1 S.2.2.2.2.2.2.2.1 S.2.2.2.2.2.2.2.2 (nI p) = (S.2.2.1 5, gPut S.2.2.2.2.2.2.2.1 p S.2.2.1, upd S.2.2.2.2.2.2.2.2 p 1) := by unfold f_L_tryKeep; rw [gLet_e e]; rfl
  rw [fc_tryKeep, e2]
theorem GS.keep {S : oS} {p : Nat} (h : GS S) : GS (S.1, S.2.1, S.2.2.1, S.2.2.2.1, S.2.2.2.2.1, S.2.2.2.2.2.1, S.2.2.2.2.2.2.1, gPut S.2.2.2.2.2.2.2.1 p S.2.2.1, upd S.2.2.2.2.2.2.2.2 p 1) := by
  obtain ⟨h1, h2, h3, h4⟩ := h
  refine ⟨⟨h1.1, h1.2.1, h1.2.2.1, h1.2.2.2.1, okQ_put h1.2.2.2.2 h1.2.1⟩, h2, h3, fun s hs hf => ?_⟩
  by_cases c : s = p
  · exact ⟨S.2.2.1, by show gPut _ _ _ _ = _; unfold gPut; rw [if_pos c], h2⟩
  · have hf : ¬ upd S.2.2.2.2.2.2.2.2 p 1 s = 0 := hf
    rw [upd_ne c] at hf
    obtain ⟨r', a, b⟩ := h4 s hs hf
    exact ⟨r', by show gPut _ _ _ _ = _; unfold gPut; rw [if_neg c]; exact a, b⟩
theorem s_back (S : oS) {p : Nat} (q d : Int32) (hS : GS S) (h : p < 2) : ∃ v u, fCall S 21 (nI p) q d = (v, u) ∧ GS u := by
  have a0 : ¬ nI p < 0 := nI_pos (by omega)
  have a1 : ¬ 2 ≤ nI p := nI_ge (b := 2) h (by omega)
  obtain ⟨h1, h2, h3, h4⟩ := hS
  by_cases c : S.2.2.2.2.2.2.2.2 p = 0
  · have ek : f_X2_bringBack S.2.2.1 S.2.2.2.2.2.2.2.1 S.2.2.2.2.2.2.2.2 (nI p) = (0, S.2.2.1) := by
      unfold f_X2_bringBack; rw [hs_1 a0 a1, if_neg (by decide), nI_clamp (by omega), if_pos c]
    have e : f_X5_restore S.1 S.2.1 S.2.2.1 S.2.2.2.1 S.2.2.2.2.1 S.2.2.2.2.2.1 S.2.2.2.2.2.2.1 S.2.2.2.2.2.2.2.1 S.2.2.2.2.2.2.2.2 (nI p) = (2, 0, S.2.2.1, S.2.2.2.2.1) := by
      unfold f_X5_restore; rw [gLet_e (q_s1 a0 a1), if_pos rfl, gLet_e ek]; rfl
    have e2 : f_L_tryBack S.1 S.2.1 S.2.2.1 S.2.2.2.1 S.2.2.2.2.1 S.2.2.2.2.2.1 S.2.2.2.2.2.2.1 S.2.2.2.2.2.2.2.1 S.2.2.2.2.2.2.2.2 (nI p) = (-9999003, S.2.2.1, S.2.2.2.2.1) := by unfold f_L_tryBack; rw [gLet_e e]; rfl
    refine ⟨-9999003, S, ?_, h1, h2, h3, h4⟩
    rw [fc_tryBack, e2]
  · obtain ⟨r', b1, b2⟩ := h4 p h c
    have ek : f_X2_bringBack S.2.2.1 S.2.2.2.2.2.2.2.1 S.2.2.2.2.2.2.2.2 (nI p) = (1, r') := by
      unfold f_X2_bringBack; rw [hs_1 a0 a1, if_neg (by decide), nI_clamp (by omega), if_neg c, b1]
    have e : f_X5_restore S.1 S.2.1 S.2.2.1 S.2.2.2.1 S.2.2.2.2.1 S.2.2.2.2.2.1 S.2.2.2.2.2.2.1 S.2.2.2.2.2.2.2.1 S.2.2.2.2.2.2.2.2 (nI p) = (0, r' 5, r', f_X0_forgetAll S.2.2.2.2.1 S.2.2.2.2.2.1) := by
      unfold f_X5_restore; rw [gLet_e (q_s1 a0 a1), if_pos rfl, gLet_e ek]; rfl
    have e2 : f_L_tryBack S.1 S.2.1 S.2.2.1 S.2.2.2.1 S.2.2.2.2.1 S.2.2.2.2.2.1 S.2.2.2.2.2.2.1 S.2.2.2.2.2.2.2.1 S.2.2.2.2.2.2.2.2 (nI p) = (r' 5, r', f_X0_forgetAll S.2.2.2.2.1 S.2.2.2.2.2.1) := by unfold f_L_tryBack; rw [gLet_e e]; rfl
    refine ⟨r' 5, (S.1, S.2.1, r', S.2.2.2.1, f_X0_forgetAll S.2.2.2.2.1 S.2.2.2.2.2.1, S.2.2.2.2.2.1, S.2.2.2.2.2.2.1, S.2.2.2.2.2.2.2.1, S.2.2.2.2.2.2.2.2), ?_, ⟨h1.1, b2.1.1, h1.2.2.1, h1.2.2.2.1, h1.2.2.2.2⟩, b2, ?_, h4⟩
    · rw [fc_tryBack, e2]
    · show 0 ≤ (0 : Int32).toInt ∧ (0 : Int32).toInt ≤ 14
      decide
def fAct (S : oS) (X : Nat) : Int32 × oS :=
  if X % 16 < 4 then fCall S 9 (nI (X / 16 % nN (S.2.2.1 0))) (nI (X / 512 % 1000)) 0
  else if X % 16 < 7 then fCall S 10 (nI (X / 16 % nN (S.2.2.1 0))) (nI (1 + X / 512 % 50)) 0
  else if X % 16 < 9 then fCall S 11 (nI (1 + X / 16 % 3)) 0 0
  else if X % 16 = 9 then fCall S 12 (nI (X / 16 % 2)) (nI (X / 32 % 60)) 0
  else if X % 16 = 10 then (if S.2.2.1 5 < 600 then (-1, S) else fCall S 8 (nI (4 + X / 16 % 12)) (nI 1) (nI (X / 192 % 5)))
  else if X % 16 = 11 then fCall S 20 (nI (X / 16 % 2)) 0 0
  else if X % 16 = 12 then fCall S 21 (nI (X / 16 % 2)) 0 0
  else fSim S (nI X).toInt64 (nI (1 + X / 16 % 100))
theorem fAct_GS {S : oS} {X : Nat} (h : GS S) : GS (fAct S X).2 := by
  obtain ⟨e0, e1, e2, e3, b0, b1, b2, b3, b4, b5⟩ := m_num h.gd
  have hl : okL S.2.2.1 (nI (X / 16 % nN (S.2.2.1 0))) := okL_nI h.gd (Nat.mod_lt _ (by omega))
  unfold fAct
  refine gIf_i (P := fun z : Int32 × oS => GS z.2) (fun _ => ?_) (fun _ => ?_)
  · have hv := Nat.mod_lt (X / 512) (show 0 < 1000 by omega)
    have v0 : ¬ nI (X / 512 % 1000) < 0 := nI_pos (by omega)
    have v1 : ¬ 999 < nI (X / 512 % 1000) := nI_nlt (a := 999) (by omega) (by omega)
    by_cases c : S.2.2.1 8 = 0
    · rw [s_write S 0 hl v0 v1 c]
      exact h.act (h.gd.write c hl (by rw [nI_toInt (by omega)]; omega) (by rw [nI_toInt (by omega)]; omega))
    · rw [s_writeD S 0 hl v0 v1 c]; exact h
  refine gIf_i (P := fun z : Int32 × oS => GS z.2) (fun _ => ?_) (fun _ => ?_)
  · have hv := Nat.mod_lt (X / 512) (show 0 < 50 by omega)
    rw [s_hammer S 0 hl (by omega) (by omega)]
    have q := h.gd.hammer (m := nI (1 + X / 512 % 50)) hl
    rw [m_hm (by omega)] at q
    exact h.act q
  refine gIf_i (P := fun z : Int32 × oS => GS z.2) (fun _ => ?_) (fun _ => ?_)
  · have hv := Nat.mod_lt (X / 16) (show 0 < 3 by omega)
    rw [s_all S 0 0 h.gd (show ¬ nI (1 + X / 16 % 3) < 1 from nI_nlt (b := 1) (by omega) (by omega)) (show ¬ 50 < nI (1 + X / 16 % 3) from nI_nlt (a := 50) (by omega) (by omega))]
    exact h.act h.gd.turn
  refine gIf_i (P := fun z : Int32 × oS => GS z.2) (fun _ => ?_) (fun _ => ?_)
  · by_cases c : f_X5_isSettingValue (nI (X / 16 % 2)) (nI (X / 32 % 60)) = 0
    · rw [t_laysS S 0 c]; exact h
    · rw [s_lay S 0 c]; exact h.act (h.gd.change c)
  refine gIf_i (P := fun z : Int32 × oS => GS z.2) (fun _ => ?_) (fun _ => ?_)
  · refine gIf_i (P := fun z : Int32 × oS => GS z.2) (fun _ => h) (fun _ => ?_)
    have hv := Nat.mod_lt (X / 16) (show 0 < 12 by omega)
    have hw := Nat.mod_lt (X / 192) (show 0 < 5 by omega)
    rw [s_make S h.gd.1.2.2.2 h.gd.2.1.1 h.gd.2.2.2.2.2.2 (by omega) (by omega) (Or.inl rfl) (by omega)]
    exact h.act (Gd.make h.gd.2.1.1 h.gd.2.2.2.2.2.2 (by omega) (by omega) (Or.inl rfl) (by omega))
  refine gIf_i (P := fun z : Int32 × oS => GS z.2) (fun _ => ?_) (fun _ => ?_)
  · rw [s_keep S 0 0 (Nat.mod_lt _ (by omega))]
    exact h.keep
  refine gIf_i (P := fun z : Int32 × oS => GS z.2) (fun _ => ?_) (fun _ => ?_)
  · obtain ⟨v, u, e, hu⟩ := s_back S 0 0 h (Nat.mod_lt (X / 16) (show 0 < 2 by omega))
    rw [e]; exact hu
  · exact h
theorem sim_rc0 {r c c' : gR} {x : Int64} {m : Int32} : (f_X5_simulate r c x m).1 = (f_X5_simulate r c' x m).1 ∧ (f_X5_simulate r c x m).2.1 = (f_X5_simulate r c' x m).2.1 := by
  unfold f_X5_simulate
  by_cases h1 : m < 1
  · rw [if_pos h1, if_pos h1]; exact ⟨rfl, rfl⟩
  · rw [if_neg h1, if_neg h1]
    by_cases h2 : m ≤ 300
    · rw [if_pos h2, if_pos h2]
      simp only [gLet]
      by_cases h3 : f_X3_exists r = 0
      · rw [if_pos h3, if_pos h3]; exact ⟨rfl, rfl⟩
      · rw [if_neg h3, if_neg h3]; exact ⟨rfl, rfl⟩
    · rw [if_neg h2, if_neg h2]; exact ⟨rfl, rfl⟩
theorem sim_rc {r c c' : gR} {x : Int64} {m : Int32} : (f_L_doSimulate r c x m).1 = (f_L_doSimulate r c' x m).1 := by
  have e : ∀ c, (f_L_doSimulate r c x m).1 = if (f_X5_simulate r c x m).1 = 0 then (f_X5_simulate r c x m).2.1 else -9999002 := fun c => by
    unfold f_L_doSimulate
    simp only [gLet]
    split <;> rfl
  obtain ⟨k1, k2⟩ := sim_rc0 (r := r) (c := c) (c' := c') (x := x) (m := m)
  rw [e c, e c', k1, k2]
theorem fSim_rc (S : oS) (c : gR) (x : Int64) (m : Int32) : ∃ c', fSim (sRc S c) x m = ((fSim S x m).1, sRc (fSim S x m).2 c') :=
  ⟨(f_L_doSimulate S.2.2.1 c x m).2, by
    have e : (f_L_doSimulate S.2.2.1 c x m).1 = (f_L_doSimulate S.2.2.1 S.2.2.2.1 x m).1 := sim_rc
    show ((f_L_doSimulate S.2.2.1 c x m).1, _) = ((f_L_doSimulate S.2.2.1 S.2.2.2.1 x m).1, _)
    rw [e]
    rfl⟩
theorem rc_8 (S : oS) (c : gR) (p q d : Int32) : fCall (sRc S c) 8 p q d = ((fCall S 8 p q d).1, sRc (fCall S 8 p q d).2 c) := by rw [fc_tryMake, fc_tryMake]; rfl
theorem rc_9 (S : oS) (c : gR) (p q d : Int32) : fCall (sRc S c) 9 p q d = ((fCall S 9 p q d).1, sRc (fCall S 9 p q d).2 c) := by rw [fc_tryWrite, fc_tryWrite]; rfl
theorem rc_10 (S : oS) (c : gR) (p q d : Int32) : fCall (sRc S c) 10 p q d = ((fCall S 10 p q d).1, sRc (fCall S 10 p q d).2 c) := by rw [fc_tryHammer, fc_tryHammer]; rfl
theorem rc_11 (S : oS) (c : gR) (p q d : Int32) : fCall (sRc S c) 11 p q d = ((fCall S 11 p q d).1, sRc (fCall S 11 p q d).2 c) := by rw [fc_tryAll, fc_tryAll]; rfl
theorem rc_12 (S : oS) (c : gR) (p q d : Int32) : fCall (sRc S c) 12 p q d = ((fCall S 12 p q d).1, sRc (fCall S 12 p q d).2 c) := by rw [fc_tryLay, fc_tryLay]; rfl
theorem rc_20 (S : oS) (c : gR) (p q d : Int32) : fCall (sRc S c) 20 p q d = ((fCall S 20 p q d).1, sRc (fCall S 20 p q d).2 c) := by rw [fc_tryKeep, fc_tryKeep]; rfl
theorem rc_21 (S : oS) (c : gR) (p q d : Int32) : fCall (sRc S c) 21 p q d = ((fCall S 21 p q d).1, sRc (fCall S 21 p q d).2 c) := by rw [fc_tryBack, fc_tryBack]; rfl
theorem fAct_rc (S : oS) (c : gR) (X : Nat) : ∃ c', fAct (sRc S c) X = ((fAct S X).1, sRc (fAct S X).2 c') := by
  have er : (sRc S c).2.2.1 = S.2.2.1 := rfl
  unfold fAct
  rw [er]
  by_cases h1 : X % 16 < 4
  · rw [if_pos h1, if_pos h1]; exact ⟨c, rc_9 S c _ _ _⟩
  rw [if_neg h1, if_neg h1]
  by_cases h2 : X % 16 < 7
  · rw [if_pos h2, if_pos h2]; exact ⟨c, rc_10 S c _ _ _⟩
  rw [if_neg h2, if_neg h2]
  by_cases h3 : X % 16 < 9
  · rw [if_pos h3, if_pos h3]; exact ⟨c, rc_11 S c _ _ _⟩
  rw [if_neg h3, if_neg h3]
  by_cases h4 : X % 16 = 9
  · rw [if_pos h4, if_pos h4]; exact ⟨c, rc_12 S c _ _ _⟩
  rw [if_neg h4, if_neg h4]
  by_cases h5 : X % 16 = 10
  · rw [if_pos h5, if_pos h5]
    by_cases h6 : S.2.2.1 5 < 600
    · rw [if_pos h6, if_pos h6]; exact ⟨c, rfl⟩
    · rw [if_neg h6, if_neg h6]; exact ⟨c, rc_8 S c _ _ _⟩
  rw [if_neg h5, if_neg h5]
  by_cases h7 : X % 16 = 11
  · rw [if_pos h7, if_pos h7]; exact ⟨c, rc_20 S c _ _ _⟩
  rw [if_neg h7, if_neg h7]
  by_cases h8 : X % 16 = 12
  · rw [if_pos h8, if_pos h8]; exact ⟨c, rc_21 S c _ _ _⟩
  rw [if_neg h8, if_neg h8]
  exact fSim_rc S c _ _
