/-! the best step -/
theorem m_worst {rf sz ac sp ou : Int32} {r t rc : gR} {l e m : Int32} (h : InvA r) (hl : okL r l) (ht : Tl t) : f_X6_worst rf sz ac sp ou r t l e m = f_X5_wearIfEvery r rc l e m ∧ InvA (f_X5_wearIfEvery r rc l e m).2 := by
  have h12 : InvA (upd r 12 e) := ⟨h.1.upd (by omega), h.2.1.upd0 (by omega), h.2.2.upd (Or.inr rfl)⟩
  have hl12 : okL (upd r 12 e) l := by unfold okL; rw [upd_ne (by omega)]; exact hl
  have hA := m_hammerA (l := l) (m := m) h12
  unfold f_X6_worst f_X5_wearIfEvery
  simp only [gLet]
  rw [m_copy0 h.tl ht, ← m_hammer h12 hl12, m_greatest hA]
  exact ⟨rfl, hA⟩
theorem m_best_L {sz ac sp ou : Int32} {tx : Nat → Int32} {nw : gR} {dy kp ik : Nat → Int32} {rf l m : Int32} (h : InvA nw) (hl : okL nw l) : ∀ (d : Nat) (x3 x4 : Int32) (t : gR), d < 1000 → Tl t → f_X6_bestEvery_L58 sz ac sp ou tx nw dy kp ik l m (d + 1) x3 x4 (nI d) rf t = ((f_X5_bestEvery_L25 nw l m (d + 1) x3 x4 (nI d) t).2.1, rf, sz, ac, sp, ou, tx, nw, (f_X5_bestEvery_L25 nw l m (d + 1) x3 x4 (nI d) t).2.2, dy, kp, ik) ∧ (f_X5_bestEvery_L25 nw l m (d + 1) x3 x4 (nI d) t).1 = 0 ∧ Tl (f_X5_bestEvery_L25 nw l m (d + 1) x3 x4 (nI d) t).2.2
  | 0, x3, x4, t, hd, ht => by
    rw [f_X6_bestEvery_L58_s, f_X5_bestEvery_L25_s, if_pos (show nI 0 ≤ 0 by decide), if_pos (show nI 0 < 1 by decide)]
    exact ⟨rfl, rfl, ht⟩
  | d + 1, x3, x4, t, hd, ht => by
    rw [f_X6_bestEvery_L58_s, f_X5_bestEvery_L25_s, if_neg (nI_nle (by omega) (by omega)), if_neg (show ¬ nI (d + 1) < 1 from nI_nlt (b := 1) (by omega) (by omega))]
    simp only [gLet]
    obtain ⟨e1, e2⟩ := m_worst (rf := rf) (sz := sz) (ac := ac) (sp := sp) (ou := ou) (rc := t) (e := nI (d + 1)) (m := m) h hl ht
    rw [e1, pk_m1]
    generalize f_X5_wearIfEvery nw t l (nI (d + 1)) m = q at e2
    by_cases c : x4 ≤ q.1
    · rw [if_pos c, if_pos c, if_pos c]
      exact m_best_L h hl d _ _ _ (by omega) e2.tl
    · rw [if_neg c, if_neg c, if_neg c]
      exact m_best_L h hl d _ _ _ (by omega) e2.tl
