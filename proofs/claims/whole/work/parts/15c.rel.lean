/-! THE TWO SIDES, side by side: what would be, scripts, simulations, the text -/
section OPS
variable {tn : Int32} {tf : Nat → Int32} {r rc : gR} {qz qn : Int32} {hq lq : Nat → Option gR} {lfl : Nat → Int32} {w w' : gM} {od od' : Nat → Int64} {v b p1 p2 p3 : Int32} {q1 : Int64}
theorem o_life {u : gR × (Nat → Int64)} (h : Rel tn tf r qz qn hq lq lfl w) (ha : f_L_life od r rc p1 = (v, u)) (hb : f_X6_life w.1 w.2.1 w.2.2.1 w.2.2.2.1 w.2.2.2.2.1 w.2.2.2.2.2.1 w.2.2.2.2.2.2.1 w.2.2.2.2.2.2.2.1 w.2.2.2.2.2.2.2.2.1 w.2.2.2.2.2.2.2.2.2.1 w.2.2.2.2.2.2.2.2.2.2 p1 = (b, w')) : Same v u.2 b w'.1 ∧ Rel tn tf r qz qn hq lq lfl w' := by
  obtain ⟨rf, sz, ac, sp, ou, tx, nw, tr, dy, kp, ik⟩ := w
  obtain ⟨⟨e1, e2, ⟨N, hN, eN⟩, ht⟩, ⟨e3, hA, hT⟩, hH, hS⟩ := h
  have e1 : tx = tf := e1
  have e2 : sz = tn := e2
  have e3 : nw = r := e3
  have hT : Tl tr := hT
  have hH : RelH qz qn hq ac dy := hH
  have hS : RelS lq lfl ik kp := hS
  subst e1; subst e2; subst e3
  have hR : ∀ x y z : Int32, Rel sz tx nw qz qn hq lq lfl (x, sz, ac, y, z, tx, nw, tr, dy, kp, ik) := fun _ _ _ => ⟨⟨rfl, rfl, ⟨N, hN, eN⟩, ht⟩, ⟨rfl, hA, hT⟩, hH, hS⟩
  have hb : f_X6_life rf sz ac sp ou tx nw tr dy kp ik p1 = (b, w') := hb
  have hline := m_line (r := nw) (l := p1) hA.1.1.1
  by_cases c : f_X3_hasLine nw p1 = 0
  · have hx : f_X5_life nw rc p1 = (3, 0, rc) := by
      unfold f_X5_life; simp only [gLet]; rw [q_line0 c, if_neg (by decide)]
    have hl : f_L_life od nw rc p1 = (1, rc, od) := by unfold f_L_life; rw [hx]; rfl
    have hr : f_X6_life rf sz ac sp ou tx nw tr dy kp ik p1 = (0, 1, sz, ac, sp, ou, tx, nw, tr, dy, kp, ik) := by
      unfold f_X6_life; simp only [gLet]; rw [hline, if_pos c]
    have ha := hl.symm.trans ha
    have hb := hr.symm.trans hb
    cases ha; cases hb
    exact ⟨same_no (by decide), hR _ _ _⟩
  have hl0 := m_has.mp c
  have hx : f_X5_life nw rc p1 = (0, (f_X3_hammerLine nw p1 2000).1, (f_X3_hammerLine nw p1 2000).2) := by
    unfold f_X5_life; simp only [gLet]; rw [q_line1 c, if_pos rfl]
  have hl : f_L_life od nw rc p1 = (0, (f_X3_hammerLine nw p1 2000).2, vp_updL od ((0 : Int32).toNatClampNeg) ((f_X3_hammerLine nw p1 2000).1 : Int32).toInt64) := by unfold f_L_life; rw [hx]; rfl
  have hr : f_X6_life rf sz ac sp ou tx nw tr dy kp ik p1 = ((f_X3_hammerLine nw p1 2000).1, 0, sz, ac, sp, ou, tx, nw, (f_X3_hammerLine nw p1 2000).2, dy, kp, ik) := by
    unfold f_X6_life; simp only [gLet]; rw [hline, if_neg c, m_copy0 hA.tl hT, ← m_hammer hA hl0]
  have ha := hl.symm.trans ha
  have hb := hr.symm.trans hb
  cases ha; cases hb
  exact ⟨same_ok, ⟨rfl, rfl, ⟨N, hN, eN⟩, ht⟩, ⟨rfl, hA, (m_hammerA hA).tl⟩, hH, hS⟩
theorem o_lifeOfAll {u : gR × (Nat → Int64)} (h : Rel tn tf r qz qn hq lq lfl w) (ha : f_L_lifeOfAll od r rc = (v, u)) (hb : f_X6_lifeOfAll w.1 w.2.1 w.2.2.1 w.2.2.2.1 w.2.2.2.2.1 w.2.2.2.2.2.1 w.2.2.2.2.2.2.1 w.2.2.2.2.2.2.2.1 w.2.2.2.2.2.2.2.2.1 w.2.2.2.2.2.2.2.2.2.1 w.2.2.2.2.2.2.2.2.2.2  = (b, w')) : Same v u.2 b w'.1 ∧ Rel tn tf r qz qn hq lq lfl w' := by
  obtain ⟨rf, sz, ac, sp, ou, tx, nw, tr, dy, kp, ik⟩ := w
  obtain ⟨⟨e1, e2, ⟨N, hN, eN⟩, ht⟩, ⟨e3, hA, hT⟩, hH, hS⟩ := h
  have e1 : tx = tf := e1
  have e2 : sz = tn := e2
  have e3 : nw = r := e3
  have hT : Tl tr := hT
  have hH : RelH qz qn hq ac dy := hH
  have hS : RelS lq lfl ik kp := hS
  subst e1; subst e2; subst e3
  have hR : ∀ x y z : Int32, Rel sz tx nw qz qn hq lq lfl (x, sz, ac, y, z, tx, nw, tr, dy, kp, ik) := fun _ _ _ => ⟨⟨rfl, rfl, ⟨N, hN, eN⟩, ht⟩, ⟨rfl, hA, hT⟩, hH, hS⟩
  have hb : f_X6_lifeOfAll rf sz ac sp ou tx nw tr dy kp ik  = (b, w') := hb
  have hex := m_exists hA.1.1.1
  by_cases d : nw 0 = 0
  · rw [if_pos d] at hex
    have hx : f_X5_lifeOfAll nw rc = (2, 0, rc) := by
      unfold f_X5_lifeOfAll; simp only [gLet]; rw [q_st0 hex, if_neg (by decide)]
    have hl : f_L_lifeOfAll od nw rc = (1, rc, od) := by unfold f_L_lifeOfAll; rw [hx]; rfl
    have hr : f_X6_lifeOfAll rf sz ac sp ou tx nw tr dy kp ik  = (0, 1, sz, ac, sp, ou, tx, nw, tr, dy, kp, ik) := by
      unfold f_X6_lifeOfAll; simp only [gLet]; rw [if_pos ((m_le0 hA.1.1.1).mpr d)]
    have ha := hl.symm.trans ha
    have hb := hr.symm.trans hb
    cases ha; cases hb
    exact ⟨same_no (by decide), hR _ _ _⟩
  rw [if_neg d] at hex
  have hx : f_X5_lifeOfAll nw rc = (0, (f_X3_writeInTurn nw 4000).1, (f_X3_writeInTurn nw 4000).2) := by
    unfold f_X5_lifeOfAll; simp only [gLet]; rw [q_st1 hex, if_pos rfl]
  have hl : f_L_lifeOfAll od nw rc = (0, (f_X3_writeInTurn nw 4000).2, vp_updL od ((0 : Int32).toNatClampNeg) ((f_X3_writeInTurn nw 4000).1 : Int32).toInt64) := by unfold f_L_lifeOfAll; rw [hx]; rfl
  have hr : f_X6_lifeOfAll rf sz ac sp ou tx nw tr dy kp ik  = ((f_X3_writeInTurn nw 4000).1, 0, sz, ac, sp, ou, tx, nw, (f_X3_writeInTurn nw 4000).2, dy, kp, ik) := by
    unfold f_X6_lifeOfAll; simp only [gLet]; rw [if_neg (fun q => d ((m_le0 hA.1.1.1).mp q)), m_copy0 hA.tl hT, ← m_all hA d (by decide)]
  have ha := hl.symm.trans ha
  have hb := hr.symm.trans hb
  cases ha; cases hb
  exact ⟨same_ok, ⟨rfl, rfl, ⟨N, hN, eN⟩, ht⟩, ⟨rfl, hA, (m_allA hA).tl⟩, hH, hS⟩
theorem o_ifEvery {u : gR × (Nat → Int64)} (h : Rel tn tf r qz qn hq lq lfl w) (ha : f_L_ifEvery od r rc p1 p2 p3 = (v, u)) (hb : f_X6_ifEvery w.1 w.2.1 w.2.2.1 w.2.2.2.1 w.2.2.2.2.1 w.2.2.2.2.2.1 w.2.2.2.2.2.2.1 w.2.2.2.2.2.2.2.1 w.2.2.2.2.2.2.2.2.1 w.2.2.2.2.2.2.2.2.2.1 w.2.2.2.2.2.2.2.2.2.2 p1 p2 p3 = (b, w')) : Same v u.2 b w'.1 ∧ Rel tn tf r qz qn hq lq lfl w' := by
  obtain ⟨rf, sz, ac, sp, ou, tx, nw, tr, dy, kp, ik⟩ := w
  obtain ⟨⟨e1, e2, ⟨N, hN, eN⟩, ht⟩, ⟨e3, hA, hT⟩, hH, hS⟩ := h
  have e1 : tx = tf := e1
  have e2 : sz = tn := e2
  have e3 : nw = r := e3
  have hT : Tl tr := hT
  have hH : RelH qz qn hq ac dy := hH
  have hS : RelS lq lfl ik kp := hS
  subst e1; subst e2; subst e3
  have hR : ∀ x y z : Int32, Rel sz tx nw qz qn hq lq lfl (x, sz, ac, y, z, tx, nw, tr, dy, kp, ik) := fun _ _ _ => ⟨⟨rfl, rfl, ⟨N, hN, eN⟩, ht⟩, ⟨rfl, hA, hT⟩, hH, hS⟩
  have hb : f_X6_ifEvery rf sz ac sp ou tx nw tr dy kp ik p1 p2 p3 = (b, w') := hb
  have hline := m_line (r := nw) (l := p1) hA.1.1.1
  have hin : f_X6_in p2.toInt64 1 50 = if p2 < 1 then 0 else if 50 < p2 then 0 else 1 := m_in p2 1 50
  have hham := m_hammered p3
  by_cases c : f_X3_hasLine nw p1 = 0
  · have hx : f_X5_ifEvery nw rc p1 p2 p3 = (3, 0, rc) := by
      unfold f_X5_ifEvery; simp only [gLet]; rw [q_line0 c, if_neg (by decide)]
    have hl : f_L_ifEvery od nw rc p1 p2 p3 = (1, rc, od) := by unfold f_L_ifEvery; rw [hx]; rfl
    have hr : f_X6_ifEvery rf sz ac sp ou tx nw tr dy kp ik p1 p2 p3 = (0, 1, sz, ac, sp, ou, tx, nw, tr, dy, kp, ik) := by
      unfold f_X6_ifEvery; simp only [gLet]; rw [hline, if_pos c]
    have ha := hl.symm.trans ha
    have hb := hr.symm.trans hb
    cases ha; cases hb
    exact ⟨same_no (by decide), hR _ _ _⟩
  have hl0 := m_has.mp c
  by_cases d : p2 < 1
  · rw [if_pos d] at hin
    have hx : f_X5_ifEvery nw rc p1 p2 p3 = (1, 0, rc) := by
      unfold f_X5_ifEvery; simp only [gLet]; rw [q_line1 c, if_pos rfl, if_pos d]
    have hl : f_L_ifEvery od nw rc p1 p2 p3 = (2, rc, od) := by unfold f_L_ifEvery; rw [hx]; rfl
    have hr : f_X6_ifEvery rf sz ac sp ou tx nw tr dy kp ik p1 p2 p3 = (0, 2, sz, ac, sp, ou, tx, nw, tr, dy, kp, ik) := by
      unfold f_X6_ifEvery; simp only [gLet]; rw [hline, if_neg c, hin, if_pos rfl]
    have ha := hl.symm.trans ha
    have hb := hr.symm.trans hb
    cases ha; cases hb
    exact ⟨same_no (by decide), hR _ _ _⟩
  rw [if_neg d] at hin
  by_cases e : 50 < p2
  · rw [if_pos e] at hin
    have hx : f_X5_ifEvery nw rc p1 p2 p3 = (1, 0, rc) := by
      unfold f_X5_ifEvery; simp only [gLet]; rw [q_line1 c, if_pos rfl, if_neg d, if_neg (Int32.not_le.mpr e)]
    have hl : f_L_ifEvery od nw rc p1 p2 p3 = (2, rc, od) := by unfold f_L_ifEvery; rw [hx]; rfl
    have hr : f_X6_ifEvery rf sz ac sp ou tx nw tr dy kp ik p1 p2 p3 = (0, 2, sz, ac, sp, ou, tx, nw, tr, dy, kp, ik) := by
      unfold f_X6_ifEvery; simp only [gLet]; rw [hline, if_neg c, hin, if_pos rfl]
    have ha := hl.symm.trans ha
    have hb := hr.symm.trans hb
    cases ha; cases hb
    exact ⟨same_no (by decide), hR _ _ _⟩
  rw [if_neg e] at hin
  by_cases f : f_X5_isHammered p3 = 0
  · have hx : f_X5_ifEvery nw rc p1 p2 p3 = (1, 0, rc) := by
      unfold f_X5_ifEvery; simp only [gLet]; rw [q_line1 c, if_pos rfl, if_neg d, if_pos (Int32.not_lt.mp e), q_ham0 f, if_neg (by decide)]
    have hl : f_L_ifEvery od nw rc p1 p2 p3 = (2, rc, od) := by unfold f_L_ifEvery; rw [hx]; rfl
    have hr : f_X6_ifEvery rf sz ac sp ou tx nw tr dy kp ik p1 p2 p3 = (0, 2, sz, ac, sp, ou, tx, nw, tr, dy, kp, ik) := by
      unfold f_X6_ifEvery; simp only [gLet]; rw [hline, if_neg c, hin, if_neg (by decide), hham, if_pos f]
    have ha := hl.symm.trans ha
    have hb := hr.symm.trans hb
    cases ha; cases hb
    exact ⟨same_no (by decide), hR _ _ _⟩
  obtain ⟨g1, g2⟩ := m_worst (rf := 0) (sz := sz) (ac := ac) (sp := sp) (ou := ou) (rc := rc) (e := p2) (m := p3) hA hl0 hT
  have hx : f_X5_ifEvery nw rc p1 p2 p3 = (0, (f_X5_wearIfEvery nw rc p1 p2 p3).1, (f_X5_wearIfEvery nw rc p1 p2 p3).2) := by
    unfold f_X5_ifEvery; simp only [gLet]; rw [q_line1 c, if_pos rfl, if_neg d, if_pos (Int32.not_lt.mp e), q_ham1 f, if_pos rfl]
  have hl : f_L_ifEvery od nw rc p1 p2 p3 = (0, (f_X5_wearIfEvery nw rc p1 p2 p3).2, vp_updL od ((0 : Int32).toNatClampNeg) ((f_X5_wearIfEvery nw rc p1 p2 p3).1 : Int32).toInt64) := by unfold f_L_ifEvery; rw [hx]; rfl
  have hr : f_X6_ifEvery rf sz ac sp ou tx nw tr dy kp ik p1 p2 p3 = ((f_X5_wearIfEvery nw rc p1 p2 p3).1, 0, sz, ac, sp, ou, tx, nw, (f_X5_wearIfEvery nw rc p1 p2 p3).2, dy, kp, ik) := by
    unfold f_X6_ifEvery; simp only [gLet]; rw [hline, if_neg c, hin, if_neg (by decide), hham, if_neg f, g1]
  have ha := hl.symm.trans ha
  have hb := hr.symm.trans hb
  cases ha; cases hb
  exact ⟨same_ok, ⟨rfl, rfl, ⟨N, hN, eN⟩, ht⟩, ⟨rfl, hA, g2.tl⟩, hH, hS⟩
theorem o_bestEvery {u : gR × (Nat → Int64)} (h : Rel tn tf r qz qn hq lq lfl w) (ha : f_L_bestEvery od r rc p1 p2 = (v, u)) (hb : f_X6_bestEvery w.1 w.2.1 w.2.2.1 w.2.2.2.1 w.2.2.2.2.1 w.2.2.2.2.2.1 w.2.2.2.2.2.2.1 w.2.2.2.2.2.2.2.1 w.2.2.2.2.2.2.2.2.1 w.2.2.2.2.2.2.2.2.2.1 w.2.2.2.2.2.2.2.2.2.2 p1 p2 = (b, w')) : Same v u.2 b w'.1 ∧ Rel tn tf r qz qn hq lq lfl w' := by
  obtain ⟨rf, sz, ac, sp, ou, tx, nw, tr, dy, kp, ik⟩ := w
  obtain ⟨⟨e1, e2, ⟨N, hN, eN⟩, ht⟩, ⟨e3, hA, hT⟩, hH, hS⟩ := h
  have e1 : tx = tf := e1
  have e2 : sz = tn := e2
  have e3 : nw = r := e3
  have hT : Tl tr := hT
  have hH : RelH qz qn hq ac dy := hH
  have hS : RelS lq lfl ik kp := hS
  subst e1; subst e2; subst e3
  have hR : ∀ x y z : Int32, Rel sz tx nw qz qn hq lq lfl (x, sz, ac, y, z, tx, nw, tr, dy, kp, ik) := fun _ _ _ => ⟨⟨rfl, rfl, ⟨N, hN, eN⟩, ht⟩, ⟨rfl, hA, hT⟩, hH, hS⟩
  have hb : f_X6_bestEvery rf sz ac sp ou tx nw tr dy kp ik p1 p2 = (b, w') := hb
  have hline := m_line (r := nw) (l := p1) hA.1.1.1
  have hham := m_hammered p2
  by_cases c : f_X3_hasLine nw p1 = 0
  · have hx : f_X5_bestEvery nw rc p1 p2 = (3, 0, rc) := by
      unfold f_X5_bestEvery; rw [gLet_e (q_line0 c), if_neg (by decide)]
    have hl : f_L_bestEvery od nw rc p1 p2 = (1, rc, od) := by unfold f_L_bestEvery; rw [hx]; rfl
    have hr : f_X6_bestEvery rf sz ac sp ou tx nw tr dy kp ik p1 p2 = (0, 1, sz, ac, sp, ou, tx, nw, tr, dy, kp, ik) := by
      unfold f_X6_bestEvery; rw [gLet_e hline, if_pos c]
    have ha := hl.symm.trans ha
    have hb := hr.symm.trans hb
    cases ha; cases hb
    exact ⟨same_no (by decide), hR _ _ _⟩
  have hl0 := m_has.mp c
  by_cases f : f_X5_isHammered p2 = 0
  · have hx : f_X5_bestEvery nw rc p1 p2 = (1, 0, rc) := by
      unfold f_X5_bestEvery; rw [gLet_e (q_line1 c), if_pos rfl, gLet_e (q_ham0 f), if_neg (by decide)]
    have hl : f_L_bestEvery od nw rc p1 p2 = (2, rc, od) := by unfold f_L_bestEvery; rw [hx]; rfl
    have hr : f_X6_bestEvery rf sz ac sp ou tx nw tr dy kp ik p1 p2 = (0, 2, sz, ac, sp, ou, tx, nw, tr, dy, kp, ik) := by
      unfold f_X6_bestEvery; rw [gLet_e hline, if_neg c, gLet_e hham, if_pos f]
    have ha := hl.symm.trans ha
    have hb := hr.symm.trans hb
    cases ha; cases hb
    exact ⟨same_no (by decide), hR _ _ _⟩
  obtain ⟨g1, g2⟩ := m_worst (rf := 0) (sz := sz) (ac := ac) (sp := sp) (ou := ou) (rc := rc) (e := 50) (m := p2) hA hl0 hT
  obtain ⟨k1, k2, k3⟩ := m_best_L (sz := sz) (ac := ac) (sp := sp) (ou := ou) (tx := tx) (dy := dy) (kp := kp) (ik := ik) (rf := 0) (m := p2) hA hl0 49 50 (f_X5_wearIfEvery nw rc p1 50 p2).1 (f_X5_wearIfEvery nw rc p1 50 p2).2 (by omega) g2.tl
  have e49 : (49 : Int32).toInt.toNat + 1 = 49 + 1 := by decide
  have y49 : nI 49 = 49 := rfl
  rw [y49] at k1 k2 k3
  have hbe : f_X5_bestEvery nw rc p1 p2 = f_X5_bestEvery_L25 nw p1 p2 (49 + 1) 50 (f_X5_wearIfEvery nw rc p1 50 p2).1 49 (f_X5_wearIfEvery nw rc p1 50 p2).2 := by
    unfold f_X5_bestEvery
    rw [gLet_e (q_line1 c), if_pos rfl, gLet_e (q_ham1 f), if_pos rfl, gLet_e (b := f_X5_wearIfEvery nw rc p1 50 p2) rfl, e49]
  generalize f_X5_bestEvery_L25 nw p1 p2 (49 + 1) 50 (f_X5_wearIfEvery nw rc p1 50 p2).1 49 (f_X5_wearIfEvery nw rc p1 50 p2).2 = G at k1 k2 k3 hbe
  obtain ⟨G1, G2, G3⟩ := G
  have k2 : G1 = 0 := k2
  subst k2
  have hx : f_X5_bestEvery nw rc p1 p2 = (0, G2, G3) := by
    exact hbe
  have hl : f_L_bestEvery od nw rc p1 p2 = (0, G3, vp_updL od ((0 : Int32).toNatClampNeg) (G2 : Int32).toInt64) := by unfold f_L_bestEvery; rw [hx]; rfl
  have hr : f_X6_bestEvery rf sz ac sp ou tx nw tr dy kp ik p1 p2 = (G2, 0, sz, ac, sp, ou, tx, nw, G3, dy, kp, ik) := by
    unfold f_X6_bestEvery; rw [gLet_e hline, if_neg c, gLet_e hham, if_neg f, gLet_e g1, e49]
    exact k1
  have ha := hl.symm.trans ha
  have hb := hr.symm.trans hb
  cases ha; cases hb
  exact ⟨same_ok, ⟨rfl, rfl, ⟨N, hN, eN⟩, ht⟩, ⟨rfl, hA, k3⟩, hH, hS⟩
theorem o_simulate {u : gR × (Nat → Int64)} (h : Rel tn tf r qz qn hq lq lfl w) (ha : f_L_simulate od r rc q1 p1 = (v, u)) (hb : f_X6_simulate w.1 w.2.1 w.2.2.1 w.2.2.2.1 w.2.2.2.2.1 w.2.2.2.2.2.1 w.2.2.2.2.2.2.1 w.2.2.2.2.2.2.2.1 w.2.2.2.2.2.2.2.2.1 w.2.2.2.2.2.2.2.2.2.1 w.2.2.2.2.2.2.2.2.2.2 q1 p1 = (b, w')) : Same v u.2 b w'.1 ∧ Rel tn tf r qz qn hq lq lfl w' := by
  obtain ⟨rf, sz, ac, sp, ou, tx, nw, tr, dy, kp, ik⟩ := w
  obtain ⟨⟨e1, e2, ⟨N, hN, eN⟩, ht⟩, ⟨e3, hA, hT⟩, hH, hS⟩ := h
  have e1 : tx = tf := e1
  have e2 : sz = tn := e2
  have e3 : nw = r := e3
  have hT : Tl tr := hT
  have hH : RelH qz qn hq ac dy := hH
  have hS : RelS lq lfl ik kp := hS
  subst e1; subst e2; subst e3
  have hR : ∀ x y z : Int32, Rel sz tx nw qz qn hq lq lfl (x, sz, ac, y, z, tx, nw, tr, dy, kp, ik) := fun _ _ _ => ⟨⟨rfl, rfl, ⟨N, hN, eN⟩, ht⟩, ⟨rfl, hA, hT⟩, hH, hS⟩
  have hb : f_X6_simulate rf sz ac sp ou tx nw tr dy kp ik q1 p1 = (b, w') := hb
  have hin : f_X6_in p1.toInt64 1 300 = if p1 < 1 then 0 else if 300 < p1 then 0 else 1 := m_in p1 1 300
  have hex := m_exists hA.1.1.1
  by_cases c : p1 < 1
  · rw [if_pos c] at hin
    have hx : f_X5_simulate nw rc q1 p1 = (1, 0, rc) := by
      unfold f_X5_simulate; rw [if_pos c]
    have hl : f_L_simulate od nw rc q1 p1 = (1, rc, od) := by unfold f_L_simulate; rw [hx]; rfl
    have hr : f_X6_simulate rf sz ac sp ou tx nw tr dy kp ik q1 p1 = (0, 1, sz, ac, sp, ou, tx, nw, tr, dy, kp, ik) := by
      unfold f_X6_simulate; simp only [gLet]; rw [hin, if_pos rfl]
    have ha := hl.symm.trans ha
    have hb := hr.symm.trans hb
    cases ha; cases hb
    exact ⟨same_no (by decide), hR _ _ _⟩
  rw [if_neg c] at hin
  by_cases d : 300 < p1
  · rw [if_pos d] at hin
    have hx : f_X5_simulate nw rc q1 p1 = (1, 0, rc) := by
      unfold f_X5_simulate; rw [if_neg c, if_neg (Int32.not_le.mpr d)]
    have hl : f_L_simulate od nw rc q1 p1 = (1, rc, od) := by unfold f_L_simulate; rw [hx]; rfl
    have hr : f_X6_simulate rf sz ac sp ou tx nw tr dy kp ik q1 p1 = (0, 1, sz, ac, sp, ou, tx, nw, tr, dy, kp, ik) := by
      unfold f_X6_simulate; simp only [gLet]; rw [hin, if_pos rfl]
    have ha := hl.symm.trans ha
    have hb := hr.symm.trans hb
    cases ha; cases hb
    exact ⟨same_no (by decide), hR _ _ _⟩
  rw [if_neg d] at hin
  by_cases e : nw 0 = 0
  · rw [if_pos e] at hex
    have hx : f_X5_simulate nw rc q1 p1 = (0, 0, rc) := by
      unfold f_X5_simulate; simp only [gLet]; rw [if_neg c, if_pos (Int32.not_lt.mp d), hex, if_pos rfl]
    have hl : f_L_simulate od nw rc q1 p1 = (0, rc, vp_updL od ((0 : Int32).toNatClampNeg) (0 : Int32).toInt64) := by unfold f_L_simulate; rw [hx]; rfl
    have hr : f_X6_simulate rf sz ac sp ou tx nw tr dy kp ik q1 p1 = (0, 0, sz, ac, sp, ou, tx, nw, tr, dy, kp, ik) := by
      unfold f_X6_simulate; simp only [gLet]; rw [hin, if_neg (by decide), if_pos e]
    have ha := hl.symm.trans ha
    have hb := hr.symm.trans hb
    cases ha; cases hb
    exact ⟨same_ok, hR _ _ _⟩
  rw [if_neg e] at hex
  obtain ⟨k, hk, rfl⟩ := nI_of2 (M := 300) (n := 300) (by decide) (fun q => c (Int32.lt_trans q (by decide))) (Int32.not_lt.mp d)
  obtain ⟨k1, k2⟩ := m_sim_L (sz := sz) (ac := ac) (sp := sp) (ou := ou) (tx := tx) (nw := nw) (dy := dy) (kp := kp) (ik := ik) (rf := 0) (m := k) (by omega) k 0 q1 nw (by omega) hA e
  have efu : ((nI k).toInt - (0 : Int32).toInt).toNat + 1 = k + 1 := by rw [nI_toInt (by omega), i_z]; omega
  have y0 : nI 0 = 0 := rfl
  rw [y0] at k1 k2
  have hwc : f_X3_writeByChance nw q1 (nI k) = f_X3_writeByChance_L14 (nI k) (k + 1) q1 0 nw := by
    unfold f_X3_writeByChance
    rw [gLet_e hex, if_neg (by decide), efu]
  generalize f_X3_writeByChance_L14 (nI k) (k + 1) q1 0 nw = G at k1 k2 hwc
  have hx : f_X5_simulate nw rc q1 (nI k) = (0, 1000 * (G 6 - nw 6) + f_X3_greatestWear G, G) := by
    unfold f_X5_simulate; rw [if_neg c, if_pos (Int32.not_lt.mp d), gLet_e hex, if_neg (by decide), gLet_e hwc, gLet_e (b := f_X3_greatestWear G) rfl]
  have hl : f_L_simulate od nw rc q1 (nI k) = (0, G, vp_updL od ((0 : Int32).toNatClampNeg) (1000 * (G 6 - nw 6) + f_X3_greatestWear G : Int32).toInt64) := by unfold f_L_simulate; rw [hx]; rfl
  have hr : f_X6_simulate rf sz ac sp ou tx nw tr dy kp ik q1 (nI k) = (1000 * (G 6 - nw 6) + f_X3_greatestWear G, 0, sz, ac, sp, ou, tx, nw, G, dy, kp, ik) := by
    unfold f_X6_simulate; rw [gLet_e hin, if_neg (by decide), if_neg e, gLet_e (m_copy0 hA.tl hT), efu]
    exact k1
  have ha := hl.symm.trans ha
  have hb := hr.symm.trans hb
  cases ha; cases hb
  exact ⟨same_ok, ⟨rfl, rfl, ⟨N, hN, eN⟩, ht⟩, ⟨rfl, hA, k2.tl⟩, hH, hS⟩
theorem o_runScript {u : gR × (Nat → Int64)} (h : Rel tn tf r qz qn hq lq lfl w) (ha : f_L_runScript od r rc p1 q1 = (v, u)) (hb : f_X6_runScript w.1 w.2.1 w.2.2.1 w.2.2.2.1 w.2.2.2.2.1 w.2.2.2.2.2.1 w.2.2.2.2.2.2.1 w.2.2.2.2.2.2.2.1 w.2.2.2.2.2.2.2.2.1 w.2.2.2.2.2.2.2.2.2.1 w.2.2.2.2.2.2.2.2.2.2 p1 q1 = (b, w')) : Same v u.2 b w'.1 ∧ Rel tn tf r qz qn hq lq lfl w' := by
  obtain ⟨rf, sz, ac, sp, ou, tx, nw, tr, dy, kp, ik⟩ := w
  obtain ⟨⟨e1, e2, ⟨N, hN, eN⟩, ht⟩, ⟨e3, hA, hT⟩, hH, hS⟩ := h
  have e1 : tx = tf := e1
  have e2 : sz = tn := e2
  have e3 : nw = r := e3
  have hT : Tl tr := hT
  have hH : RelH qz qn hq ac dy := hH
  have hS : RelS lq lfl ik kp := hS
  subst e1; subst e2; subst e3
  have hR : ∀ x y z : Int32, Rel sz tx nw qz qn hq lq lfl (x, sz, ac, y, z, tx, nw, tr, dy, kp, ik) := fun _ _ _ => ⟨⟨rfl, rfl, ⟨N, hN, eN⟩, ht⟩, ⟨rfl, hA, hT⟩, hH, hS⟩
  have hb : f_X6_runScript rf sz ac sp ou tx nw tr dy kp ik p1 q1 = (b, w') := hb
  have hin : f_X6_in p1.toInt64 1 3 = if p1 < 1 then 0 else if 3 < p1 then 0 else 1 := m_in p1 1 3
  have e1 : (1 : Int32).toInt = 1 := by decide
  have e3 : (3 : Int32).toInt = 3 := by decide
  by_cases c : p1 < 1
  · rw [if_pos c] at hin
    have c1 := i_lt.mp c
    have hx : f_X5_runScript nw rc p1 q1 = (1, 0, rc) := by
      unfold f_X5_runScript; rw [if_pos c]
    have hl : f_L_runScript od nw rc p1 q1 = (1, rc, od) := by unfold f_L_runScript; rw [hx]; rfl
    have hr : f_X6_runScript rf sz ac sp ou tx nw tr dy kp ik p1 q1 = (0, 1, sz, ac, sp, ou, tx, nw, tr, dy, kp, ik) := by
      unfold f_X6_runScript; rw [f_X6_runScript_L6_s, if_pos (show p1 ≤ 0 by rw [i_le, i_z]; omega)]
      simp only [gLet]; rw [hin, if_pos rfl]
    have ha := hl.symm.trans ha
    have hb := hr.symm.trans hb
    cases ha; cases hb
    exact ⟨same_no (by decide), hR _ _ _⟩
  rw [if_neg c] at hin
  have c1 := i_le.mp (Int32.not_lt.mp c)
  have z1 : ¬ p1 ≤ 0 := by rw [i_le, i_z]; omega
  have efu : ∃ f : Nat, (p1.toInt - (0 : Int32).toInt).toNat + 1 = f + 1 + 1 := ⟨p1.toInt.toNat - 1, by rw [i_z]; omega⟩
  by_cases d : 3 < p1
  · rw [if_pos d] at hin
    have d1 := i_lt.mp d
    have z2 : ¬ p1 ≤ 0 + 1 := by rw [i_le]; have : ((0 : Int32) + 1).toInt = 1 := by decide
                                 omega
    have z3 : ¬ p1 ≤ 0 + 1 + 1 := by rw [i_le]; have : ((0 : Int32) + 1 + 1).toInt = 2 := by decide
                                     omega
    have z4 : ¬ p1 ≤ 0 + 1 + 1 + 1 := by rw [i_le]; have : ((0 : Int32) + 1 + 1 + 1).toInt = 3 := by decide
                                         omega
    have efu2 : ∃ f : Nat, (p1.toInt - (0 : Int32).toInt).toNat + 1 = f + 1 + 1 + 1 + 1 := ⟨p1.toInt.toNat - 3, by rw [i_z]; omega⟩
    obtain ⟨f, ef⟩ := efu2
    have hx : f_X5_runScript nw rc p1 q1 = (1, 0, rc) := by
      unfold f_X5_runScript; rw [if_neg c, if_neg (Int32.not_le.mpr d)]
    have hl : f_L_runScript od nw rc p1 q1 = (1, rc, od) := by unfold f_L_runScript; rw [hx]; rfl
    have hr : f_X6_runScript rf sz ac sp ou tx nw tr dy kp ik p1 q1 = (0, 1, sz, ac, sp, ou, tx, nw, tr, dy, kp, ik) := by
      unfold f_X6_runScript; rw [ef, f_X6_runScript_L6_s, if_neg z1, if_neg (by decide), f_X6_runScript_L6_s, if_neg z2, if_neg (by decide), f_X6_runScript_L6_s, if_neg z3, if_neg (by decide), f_X6_runScript_L6_s, if_neg z4, if_pos (by decide)]
      simp only [gLet]; rw [hin, if_pos rfl]
    have ha := hl.symm.trans ha
    have hb := hr.symm.trans hb
    cases ha; cases hb
    exact ⟨same_no (by decide), hR _ _ _⟩
  rw [if_neg d] at hin
  have d1 := i_le.mp (Int32.not_lt.mp d)
  obtain ⟨k, hk, ek⟩ := nI_of2 (M := 3) (n := 3) (by decide) (fun q => c (Int32.lt_trans q (by decide))) (Int32.not_lt.mp d)
  subst ek
  have hk1 : 1 ≤ k := by rw [nI_toInt (by omega)] at c1; omega
  have hkk : k = 1 ∨ k = 2 ∨ k = 3 := by omega
  have efk : ((nI k).toInt - (0 : Int32).toInt).toNat + 1 = k + 1 := by rw [nI_toInt (by omega), i_z]; omega
  have hpw : 1000000 ≤ 1000000 ^ k ∧ 1000000 ^ k < 2 ^ 63 := by rcases hkk with rfl | rfl | rfl <;> decide
  have hL6 : f_X6_runScript rf sz ac sp ou tx nw tr dy kp ik (nI k) q1 = gLet (f_X6_in q1 0 (lN (1000000 ^ k) - 1)) (fun v19 => if v19 = 0 then (0, 1, sz, ac, sp, ou, tx, nw, tr, dy, kp, ik) else gLet (f_X6_copyState 78 nw 78 tr 0 0) (fun u30 => f_X6_runScript_L86 sz ac sp ou tx nw dy kp ik (nI k) q1 (k + 1) (lN (1000000 ^ k)) 0 0 u30)) := by
    unfold f_X6_runScript
    rcases hkk with rfl | rfl | rfl
    · rw [show (((nI 1).toInt - (0 : Int32).toInt).toNat + 1) = 1 + 1 by decide, f_X6_runScript_L6_s, if_neg (by decide), if_neg (by decide), f_X6_runScript_L6_s, if_pos (by decide), gLet_e hin, if_neg (by decide), show ((nI 1).toInt - (0 : Int32).toInt).toNat + 1 = 1 + 1 by decide, show (1 : Int64) * 1000000 = lN (1000000 ^ 1) by decide]
    · rw [show (((nI 2).toInt - (0 : Int32).toInt).toNat + 1) = 2 + 1 by decide, f_X6_runScript_L6_s, if_neg (by decide), if_neg (by decide), f_X6_runScript_L6_s, if_neg (by decide), if_neg (by decide), f_X6_runScript_L6_s, if_pos (by decide), gLet_e hin, if_neg (by decide), show ((nI 2).toInt - (0 : Int32).toInt).toNat + 1 = 2 + 1 by decide, show (1 : Int64) * 1000000 * 1000000 = lN (1000000 ^ 2) by decide]
    · rw [show (((nI 3).toInt - (0 : Int32).toInt).toNat + 1) = 3 + 1 by decide, f_X6_runScript_L6_s, if_neg (by decide), if_neg (by decide), f_X6_runScript_L6_s, if_neg (by decide), if_neg (by decide), f_X6_runScript_L6_s, if_neg (by decide), if_neg (by decide), f_X6_runScript_L6_s, if_pos (by decide), gLet_e hin, if_neg (by decide), show ((nI 3).toInt - (0 : Int32).toInt).toNat + 1 = 3 + 1 by decide, show (1 : Int64) * 1000000 * 1000000 * 1000000 = lN (1000000 ^ 3) by decide]
  have hin2 := in_iff q1 0 (lN (1000000 ^ k) - 1)
  have eL : (lN (1000000 ^ k) - 1).toInt = (1000000 ^ k : Nat) - 1 := by
    rcases hkk with rfl | rfl | rfl <;> decide
  have z64 : (0 : Int64).toInt = 0 := by decide
  rw [eL, z64] at hin2
  have hcmp : (lg_cmp q1 0) < 0 ↔ q1.toInt < 0 := by
    have := (lg_sound (x := q1) (y := 0)).1
    rw [Int64.le_iff_toInt_le, z64] at this
    constructor
    · intro q
      exact Classical.byContradiction fun q2 => (this.mpr (by omega)) q
    · intro q
      exact Classical.byContradiction fun q2 => by have := this.mp q2; omega
  by_cases e : q1.toInt < 0
  · have hz : f_X6_in q1 0 (lN (1000000 ^ k) - 1) = 0 := Classical.byContradiction fun q => by have := hin2.mp q; omega
    have hx : f_X5_runScript nw rc (nI k) q1 = (1, 0, rc) := by
      unfold f_X5_runScript; rw [if_neg c, if_pos (Int32.not_lt.mp d), if_pos (hcmp.mpr e)]
    have hl : f_L_runScript od nw rc (nI k) q1 = (1, rc, od) := by unfold f_L_runScript; rw [hx]; rfl
    have hr : f_X6_runScript rf sz ac sp ou tx nw tr dy kp ik (nI k) q1 = (0, 1, sz, ac, sp, ou, tx, nw, tr, dy, kp, ik) := by
      rw [hL6, gLet_e hz, if_pos rfl]
    have ha := hl.symm.trans ha
    have hb := hr.symm.trans hb
    cases ha; cases hb
    exact ⟨same_no (by decide), hR _ _ _⟩
  have hc0 : ¬ lg_cmp q1 0 < 0 := fun q => e (hcmp.mp q)
  obtain ⟨S, hS63, rfl⟩ := pk_lOf (x := q1) (fun q => e (by have := Int64.lt_iff_toInt_lt.mp q; rw [z64] at this; exact this))
  have hwo := m_wo (k := k) hS63 (by omega)
  have hlt : S / 1000000 ^ k < 2 ^ 63 := Nat.lt_of_le_of_lt (Nat.div_le_self _ _) hS63
  have hcmp2 : lg_cmp (lN (S / 1000000 ^ k)) 0 = 0 ↔ S < 1000000 ^ k := by
    have a1 := (lg_sound (x := lN (S / 1000000 ^ k)) (y := 0)).1
    have a2 := (lg_sound (x := lN (S / 1000000 ^ k)) (y := 0)).2
    rw [Int64.le_iff_toInt_le, z64, pk_lT hlt] at a1 a2
    have hdv : S / 1000000 ^ k = 0 ↔ S < 1000000 ^ k := by
      rw [Nat.div_eq_zero_iff]
      omega
    generalize S / 1000000 ^ k = D at a1 a2 hdv ⊢
    constructor
    · intro q
      have n2 : ¬ (0 : Int32) < lg_cmp (lN D) 0 := by rw [q]; decide
      have := a2.mp n2
      exact hdv.mp (by omega)
    · intro q
      have q0 := hdv.mpr q
      have n1 := a1.mpr (by omega)
      have n2 := a2.mpr (by omega)
      have m1 := i_le.mp (Int32.not_lt.mp n1)
      have m2 := i_le.mp (Int32.not_lt.mp n2)
      exact i_eq.mpr (by omega)
  have hS0 : (lN S).toInt = S := pk_lT hS63
  rw [hS0] at hin2
  by_cases g : S < 1000000 ^ k
  · have hz : ¬ f_X6_in (lN S) 0 (lN (1000000 ^ k) - 1) = 0 := hin2.mpr (by omega)
    obtain ⟨k1, k2, k3⟩ := m_run_L (sz := sz) (ac := ac) (sp := sp) (ou := ou) (tx := tx) (nw := nw) (dy := dy) (kp := kp) (ik := ik) (rf := 0) (s := S) (m := k) hS63 (by omega) k 0 nw (by omega) hA
    have y0 : nI 0 = 0 := rfl
    rw [y0] at k1 k2 k3
    have hrun : f_X5_runScript nw rc (nI k) (lN S) = f_X5_runScript_L60 (nI k) (lN S) (k + 1) 0 nw := by
      unfold f_X5_runScript
      rw [if_neg c, if_pos (Int32.not_lt.mp d), if_neg hc0]
      rw [gLet_e hwo, if_pos (hcmp2.mpr g), efk]
    generalize f_X5_runScript_L60 (nI k) (lN S) (k + 1) 0 nw = G at k1 k2 k3 hrun
    obtain ⟨G1, G2, G3⟩ := G
    have k2 : G1 = 0 := k2
    subst k2
    have hx : f_X5_runScript nw rc (nI k) (lN S) = (0, G2, G3) := by
      exact hrun
    have hl : f_L_runScript od nw rc (nI k) (lN S) = (0, G3, vp_updL od ((0 : Int32).toNatClampNeg) (G2 : Int32).toInt64) := by unfold f_L_runScript; rw [hx]; rfl
    have hr : f_X6_runScript rf sz ac sp ou tx nw tr dy kp ik (nI k) (lN S) = (G2, 0, sz, ac, sp, ou, tx, nw, G3, dy, kp, ik) := by
      rw [hL6, gLet_e (b := f_X6_in (lN S) 0 (lN (1000000 ^ k) - 1)) rfl, if_neg hz, gLet_e (m_copy0 hA.tl hT)]
      exact k1
    have ha := hl.symm.trans ha
    have hb := hr.symm.trans hb
    cases ha; cases hb
    exact ⟨same_ok, ⟨rfl, rfl, ⟨N, hN, eN⟩, ht⟩, ⟨rfl, hA, k3.tl⟩, hH, hS⟩
  · have hz : f_X6_in (lN S) 0 (lN (1000000 ^ k) - 1) = 0 := Classical.byContradiction fun q => by have := hin2.mp q; omega
    have hx : f_X5_runScript nw rc (nI k) (lN S) = (1, 0, rc) := by
      unfold f_X5_runScript; rw [if_neg c, if_pos (Int32.not_lt.mp d), if_neg hc0]
      simp only [gLet]; rw [hwo, if_neg (fun q => g (hcmp2.mp q))]
    have hl : f_L_runScript od nw rc (nI k) (lN S) = (1, rc, od) := by unfold f_L_runScript; rw [hx]; rfl
    have hr : f_X6_runScript rf sz ac sp ou tx nw tr dy kp ik (nI k) (lN S) = (0, 1, sz, ac, sp, ou, tx, nw, tr, dy, kp, ik) := by
      rw [hL6, gLet_e hz, if_pos rfl]
    have ha := hl.symm.trans ha
    have hb := hr.symm.trans hb
    cases ha; cases hb
    exact ⟨same_no (by decide), hR _ _ _⟩
theorem o_clearText {u : Int32} (h : Rel tn tf r qz qn hq lq lfl w) (ha : f_X5_clearText tn tf = (v, u)) (hb : f_X6_clearText w.1 w.2.1 w.2.2.1 w.2.2.2.1 w.2.2.2.2.1 w.2.2.2.2.2.1 w.2.2.2.2.2.2.1 w.2.2.2.2.2.2.2.1 w.2.2.2.2.2.2.2.2.1 w.2.2.2.2.2.2.2.2.2.1 w.2.2.2.2.2.2.2.2.2.2 = (b, w')) : v = b ∧ Rel u tf r qz qn hq lq lfl w' := by
  obtain ⟨rf, sz, ac, sp, ou, tx, nw, tr, dy, kp, ik⟩ := w
  obtain ⟨⟨e1, e2, ⟨N, hN, eN⟩, ht⟩, ⟨e3, hA, hT⟩, hH, hS⟩ := h
  have e1 : tx = tf := e1
  have e2 : sz = tn := e2
  have e3 : nw = r := e3
  have hT : Tl tr := hT
  have hH : RelH qz qn hq ac dy := hH
  have hS : RelS lq lfl ik kp := hS
  subst e1; subst e2; subst e3
  have hR : ∀ x y z : Int32, Rel sz tx nw qz qn hq lq lfl (x, sz, ac, y, z, tx, nw, tr, dy, kp, ik) := fun _ _ _ => ⟨⟨rfl, rfl, ⟨N, hN, eN⟩, ht⟩, ⟨rfl, hA, hT⟩, hH, hS⟩
  have ha : (sz, (0 : Int32)) = (v, u) := ha
  have hb : (sz, (0 : Int32), (0 : Int32), ac, sp, ou, tx, nw, tr, dy, kp, ik) = (b, w') := hb
  cases ha; cases hb
  exact ⟨rfl, ⟨rfl, rfl, ⟨0, by omega, rfl⟩, ht⟩, ⟨rfl, hA, hT⟩, hH, hS⟩
theorem o_errorPosition (h : Rel tn tf r qz qn hq lq lfl w) (ha : f_X5_errorPosition tn tf = v) (hb : f_X6_errorPosition w.1 w.2.1 w.2.2.1 w.2.2.2.1 w.2.2.2.2.1 w.2.2.2.2.2.1 w.2.2.2.2.2.2.1 w.2.2.2.2.2.2.2.1 w.2.2.2.2.2.2.2.2.1 w.2.2.2.2.2.2.2.2.2.1 w.2.2.2.2.2.2.2.2.2.2 = (b, w')) : v = b ∧ Rel tn tf r qz qn hq lq lfl w' := by
  obtain ⟨rf, sz, ac, sp, ou, tx, nw, tr, dy, kp, ik⟩ := w
  obtain ⟨⟨e1, e2, ⟨N, hN, eN⟩, ht⟩, ⟨e3, hA, hT⟩, hH, hS⟩ := h
  have e1 : tx = tf := e1
  have e2 : sz = tn := e2
  have e3 : nw = r := e3
  have hT : Tl tr := hT
  have hH : RelH qz qn hq ac dy := hH
  have hS : RelS lq lfl ik kp := hS
  subst e1; subst e2; subst e3
  have hR : ∀ x y z : Int32, Rel sz tx nw qz qn hq lq lfl (x, sz, ac, y, z, tx, nw, tr, dy, kp, ik) := fun _ _ _ => ⟨⟨rfl, rfl, ⟨N, hN, eN⟩, ht⟩, ⟨rfl, hA, hT⟩, hH, hS⟩
  obtain ⟨g1, g2, -⟩ := m_text (rf := 0) (ac := ac) (sp := sp) (ou := ou) hN ht hT
  rw [← eN] at g1 g2
  have ha : f_X4_firstError sz tx = v := ha
  have hb : ((f_X6_readText 0 sz ac sp ou tx tr).1, (0 : Int32), sz, ac, (f_X6_readText 0 sz ac sp ou tx tr).2.2.1, (f_X6_readText 0 sz ac sp ou tx tr).2.2.2, tx, nw, (f_X6_readText 0 sz ac sp ou tx tr).2.1, dy, kp, ik) = (b, w') := hb
  rw [← ha, ← g1]
  cases hb
  exact ⟨rfl, ⟨rfl, rfl, ⟨N, hN, eN⟩, ht⟩, ⟨rfl, hA, g2.tl⟩, hH, hS⟩
end OPS
