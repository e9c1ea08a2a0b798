/-! THE TWO SIDES, side by side: what changes the state -/
section OPS
variable {tn : Int32} {tf : Nat → Int32} {r rc : gR} {qz qn : Int32} {hq lq : Nat → Option gR} {lfl : Nat → Int32} {w w' : gM} {od od' : Nat → Int64} {v b p1 p2 p3 : Int32} {q1 : Int64}
theorem o_make {u : gR × (Nat → Option gR) × Int32 × Int32 × (Nat → Int64)} (h : Rel tn tf r qz qn hq lq lfl w) (ha : f_L_make od tn tf r rc qz qn hq lq lfl p1 p2 p3 = (v, u)) (hb : f_X6_make w.1 w.2.1 w.2.2.1 w.2.2.2.1 w.2.2.2.2.1 w.2.2.2.2.2.1 w.2.2.2.2.2.2.1 w.2.2.2.2.2.2.2.1 w.2.2.2.2.2.2.2.2.1 w.2.2.2.2.2.2.2.2.2.1 w.2.2.2.2.2.2.2.2.2.2 p1 p2 p3 = (b, w')) : Same v u.2.2.2.2 b w'.1 ∧ Rel tn tf u.1 u.2.2.1 u.2.2.2.1 u.2.1 lq lfl w' := by
  obtain ⟨rf, sz, ac, sp, ou, tx, nw, tr, dy, kp, ik⟩ := w
  obtain ⟨⟨e1, e2, ⟨N, hN, eN⟩, ht⟩, ⟨e3, hA, hT⟩, hH, hS⟩ := h
  have e1 : tx = tf := e1
  have e2 : sz = tn := e2
  have e3 : nw = r := e3
  have hT : Tl tr := hT
  have hH : RelH qz qn hq ac dy := hH
  have hS : RelS lq lfl ik kp := hS
  subst e1; subst e2; subst e3
  have hR : ∀ x y z : Int32, Rel sz tx nw qz qn hq lq lfl (x, sz, ac, y, z, tx, nw, tr, dy, kp, ik) := fun _ _ _ => ⟨⟨rfl, rfl, ⟨N, hN, eN⟩, ht⟩, ⟨rfl, hA, hT⟩, hH, hS⟩
  have hb : f_X6_make rf sz ac sp ou tx nw tr dy kp ik p1 p2 p3 = (b, w') := hb
  have hcan := m_can p1 p2 p3
  by_cases c : f_X5_isShape p1 p2 = 0
  · rw [if_pos c] at hcan
    have hx : f_X5_make sz tx nw rc qz qn hq lq lfl p1 p2 p3 = (1, 0, nw, hq, qz, qn) := by
      unfold f_X5_make; simp only [gLet]; rw [if_pos c]
    have hl : f_L_make od sz tx nw rc qz qn hq lq lfl p1 p2 p3 = (1, nw, hq, qz, qn, od) := by unfold f_L_make; rw [hx]; rfl
    have hr : f_X6_make rf sz ac sp ou tx nw tr dy kp ik p1 p2 p3 = (0, 1, sz, ac, sp, ou, tx, nw, tr, dy, kp, ik) := by
      unfold f_X6_make; simp only [gLet]; rw [hcan, if_pos rfl]
    have ha := hl.symm.trans ha
    have hb := hr.symm.trans hb
    cases ha; cases hb
    exact ⟨same_no (by decide), hR _ _ _⟩
  rw [if_neg c] at hcan
  by_cases d : p3 < 0
  · rw [if_pos d] at hcan
    have hx : f_X5_make sz tx nw rc qz qn hq lq lfl p1 p2 p3 = (1, 0, nw, hq, qz, qn) := by
      unfold f_X5_make; simp only [gLet]; rw [if_neg c, if_pos d]
    have hl : f_L_make od sz tx nw rc qz qn hq lq lfl p1 p2 p3 = (1, nw, hq, qz, qn, od) := by unfold f_L_make; rw [hx]; rfl
    have hr : f_X6_make rf sz ac sp ou tx nw tr dy kp ik p1 p2 p3 = (0, 1, sz, ac, sp, ou, tx, nw, tr, dy, kp, ik) := by
      unfold f_X6_make; simp only [gLet]; rw [hcan, if_pos rfl]
    have ha := hl.symm.trans ha
    have hb := hr.symm.trans hb
    cases ha; cases hb
    exact ⟨same_no (by decide), hR _ _ _⟩
  rw [if_neg d] at hcan
  by_cases e : 4 < p3
  · rw [if_pos e] at hcan
    have hx : f_X5_make sz tx nw rc qz qn hq lq lfl p1 p2 p3 = (1, 0, nw, hq, qz, qn) := by
      unfold f_X5_make; simp only [gLet]; rw [if_neg c, if_neg d, if_neg (Int32.not_le.mpr e)]
    have hl : f_L_make od sz tx nw rc qz qn hq lq lfl p1 p2 p3 = (1, nw, hq, qz, qn, od) := by unfold f_L_make; rw [hx]; rfl
    have hr : f_X6_make rf sz ac sp ou tx nw tr dy kp ik p1 p2 p3 = (0, 1, sz, ac, sp, ou, tx, nw, tr, dy, kp, ik) := by
      unfold f_X6_make; simp only [gLet]; rw [hcan, if_pos rfl]
    have ha := hl.symm.trans ha
    have hb := hr.symm.trans hb
    cases ha; cases hb
    exact ⟨same_no (by decide), hR _ _ _⟩
  rw [if_neg e] at hcan
  obtain ⟨y, z, ey, ez, y1, y2, z1, z2⟩ := m_shapeN c
  obtain ⟨k, hk, ek⟩ := nI_of2 (M := 4) (n := 4) (by decide) d (Int32.not_lt.mp e)
  have hnew : InvA (bgF nw p1 p2 p3) := by rw [ey, ez, ek]; exact m_bg_A hA y1 y2 z1 z2 hk
  have hok1 : okL (bgF nw p1 p2 p3) 1 := by
    have q1 : (1 : Int32).toInt = 1 := by decide
    have q0 : bgF nw p1 p2 p3 0 = nI y := ey
    refine ⟨by rw [q1]; omega, ?_⟩
    rw [q0, q1, nI_toInt (by omega)]; omega
  have hx : f_X5_make sz tx nw rc qz qn hq lq lfl p1 p2 p3 = (0, f_X6_placeOf (bgF nw p1 p2 p3) 1, bgF nw p1 p2 p3, (f_X0_remember nw qz qn hq).1, (f_X0_remember nw qz qn hq).2.1, (f_X0_remember nw qz qn hq).2.2) := by
    unfold f_X5_make; simp only [gLet]; rw [if_neg c, if_neg d, if_pos (Int32.not_lt.mp e), m_begin hA.tl, m_place hok1]
  have hl : f_L_make od sz tx nw rc qz qn hq lq lfl p1 p2 p3 = (0, bgF nw p1 p2 p3, (f_X0_remember nw qz qn hq).1, (f_X0_remember nw qz qn hq).2.1, (f_X0_remember nw qz qn hq).2.2, vp_updL od ((0 : Int32).toNatClampNeg) (f_X6_placeOf (bgF nw p1 p2 p3) 1 : Int32).toInt64) := by unfold f_L_make; rw [hx]; rfl
  have hr : f_X6_make rf sz ac sp ou tx nw tr dy kp ik p1 p2 p3 = (f_X6_placeOf (bgF nw p1 p2 p3) 1, 0, sz, (f_X6_remember 0 sz ac sp ou nw dy).1, sp, ou, tx, bgF nw p1 p2 p3, tr, (f_X6_remember 0 sz ac sp ou nw dy).2, kp, ik) := by
    unfold f_X6_make; simp only [gLet]; rw [hcan, if_neg (by decide), m_makeOn hA.tl]
  have ha := hl.symm.trans ha
  have hb := hr.symm.trans hb
  cases ha; cases hb
  exact ⟨same_ok, ⟨rfl, rfl, ⟨N, hN, eN⟩, ht⟩, ⟨rfl, hnew, hT⟩, relH_rem hH hA, hS⟩
theorem o_write {u : gR × (Nat → Option gR) × Int32 × Int32 × (Nat → Int64)} (h : Rel tn tf r qz qn hq lq lfl w) (ha : f_L_write od tn tf r rc qz qn hq lq lfl p1 p2 = (v, u)) (hb : f_X6_write w.1 w.2.1 w.2.2.1 w.2.2.2.1 w.2.2.2.2.1 w.2.2.2.2.2.1 w.2.2.2.2.2.2.1 w.2.2.2.2.2.2.2.1 w.2.2.2.2.2.2.2.2.1 w.2.2.2.2.2.2.2.2.2.1 w.2.2.2.2.2.2.2.2.2.2 p1 p2 = (b, w')) : Same v u.2.2.2.2 b w'.1 ∧ Rel tn tf u.1 u.2.2.1 u.2.2.2.1 u.2.1 lq lfl w' := by
  obtain ⟨rf, sz, ac, sp, ou, tx, nw, tr, dy, kp, ik⟩ := w
  obtain ⟨⟨e1, e2, ⟨N, hN, eN⟩, ht⟩, ⟨e3, hA, hT⟩, hH, hS⟩ := h
  have e1 : tx = tf := e1
  have e2 : sz = tn := e2
  have e3 : nw = r := e3
  have hT : Tl tr := hT
  have hH : RelH qz qn hq ac dy := hH
  have hS : RelS lq lfl ik kp := hS
  subst e1; subst e2; subst e3
  have hR : ∀ x y z : Int32, Rel sz tx nw qz qn hq lq lfl (x, sz, ac, y, z, tx, nw, tr, dy, kp, ik) := fun _ _ _ => ⟨⟨rfl, rfl, ⟨N, hN, eN⟩, ht⟩, ⟨rfl, hA, hT⟩, hH, hS⟩
  have hb : f_X6_write rf sz ac sp ou tx nw tr dy kp ik p1 p2 = (b, w') := hb
  have hline := m_line (r := nw) (l := p1) hA.1.1.1
  have hval := m_isValue p2
  have hcw := m_canW (l := p1) hA
  by_cases c : f_X3_hasLine nw p1 = 0
  · have hx : f_X5_write sz tx nw rc qz qn hq lq lfl p1 p2 = (3, 0, nw, hq, qz, qn) := by
      unfold f_X5_write; simp only [gLet]; rw [q_line0 c, if_neg (by decide)]
    have hl : f_L_write od sz tx nw rc qz qn hq lq lfl p1 p2 = (1, nw, hq, qz, qn, od) := by unfold f_L_write; rw [hx]; rfl
    have hr : f_X6_write rf sz ac sp ou tx nw tr dy kp ik p1 p2 = (0, 1, sz, ac, sp, ou, tx, nw, tr, dy, kp, ik) := by
      unfold f_X6_write; simp only [gLet]; rw [hline, if_pos c]
    have ha := hl.symm.trans ha
    have hb := hr.symm.trans hb
    cases ha; cases hb
    exact ⟨same_no (by decide), hR _ _ _⟩
  have hl0 := m_has.mp c
  rw [if_neg c] at hcw
  by_cases d : f_X5_isValue p2 = 0
  · have hx : f_X5_write sz tx nw rc qz qn hq lq lfl p1 p2 = (1, 0, nw, hq, qz, qn) := by
      unfold f_X5_write; simp only [gLet]; rw [q_line1 c, if_pos rfl, if_pos d]
    have hl : f_L_write od sz tx nw rc qz qn hq lq lfl p1 p2 = (2, nw, hq, qz, qn, od) := by unfold f_L_write; rw [hx]; rfl
    have hr : f_X6_write rf sz ac sp ou tx nw tr dy kp ik p1 p2 = (0, 2, sz, ac, sp, ou, tx, nw, tr, dy, kp, ik) := by
      unfold f_X6_write; simp only [gLet]; rw [hline, if_neg c, hval, if_pos d]
    have ha := hl.symm.trans ha
    have hb := hr.symm.trans hb
    cases ha; cases hb
    exact ⟨same_no (by decide), hR _ _ _⟩
  by_cases e : nw 8 = 0
  · rw [if_pos e] at hcw
    have hv : 0 ≤ p2.toInt ∧ p2.toInt ≤ 999 := by
      have d' := d
      have e999 : (999 : Int32).toInt = 999 := by decide
      unfold f_X5_isValue at d'
      by_cases x : p2 < 0
      · rw [if_pos x] at d'; exact absurd rfl d'
      rw [if_neg x] at d'
      by_cases y : 999 < p2
      · rw [if_pos y] at d'; exact absurd rfl d'
      have x1 := i_le.mp (Int32.not_lt.mp x)
      have y1 := i_le.mp (Int32.not_lt.mp y)
      rw [i_z] at x1
      omega
    have hx : f_X5_write sz tx nw rc qz qn hq lq lfl p1 p2 = (0, (f_X3_writeLine nw p1 p2).1, (f_X3_writeLine nw p1 p2).2, (f_X0_remember nw qz qn hq).1, (f_X0_remember nw qz qn hq).2.1, (f_X0_remember nw qz qn hq).2.2) := by
      unfold f_X5_write; simp only [gLet]; rw [q_line1 c, if_pos rfl, if_neg d, if_pos e]
    have hl : f_L_write od sz tx nw rc qz qn hq lq lfl p1 p2 = (0, (f_X3_writeLine nw p1 p2).2, (f_X0_remember nw qz qn hq).1, (f_X0_remember nw qz qn hq).2.1, (f_X0_remember nw qz qn hq).2.2, vp_updL od ((0 : Int32).toNatClampNeg) ((f_X3_writeLine nw p1 p2).1 : Int32).toInt64) := by unfold f_L_write; rw [hx]; rfl
    have hr : f_X6_write rf sz ac sp ou tx nw tr dy kp ik p1 p2 = ((f_X3_writeLine nw p1 p2).1, 0, sz, (f_X6_remember 0 sz ac sp ou nw dy).1, sp, ou, tx, (f_X3_writeLine nw p1 p2).2, tr, (f_X6_remember 0 sz ac sp ou nw dy).2, kp, ik) := by
      unfold f_X6_write; simp only [gLet]; rw [hline, if_neg c, hval, if_neg d, hcw, if_neg (by decide), ← m_write hA.1 hl0]
    have ha := hl.symm.trans ha
    have hb := hr.symm.trans hb
    cases ha; cases hb
    exact ⟨same_ok, ⟨rfl, rfl, ⟨N, hN, eN⟩, ht⟩, ⟨rfl, m_write_A hA e (fun _ => hv), hT⟩, relH_rem hH hA, hS⟩
  · rw [if_neg e] at hcw
    have hx : f_X5_write sz tx nw rc qz qn hq lq lfl p1 p2 = (2, 0, nw, hq, qz, qn) := by
      unfold f_X5_write; simp only [gLet]; rw [q_line1 c, if_pos rfl, if_neg d, if_neg e]
    have hl : f_L_write od sz tx nw rc qz qn hq lq lfl p1 p2 = (3, nw, hq, qz, qn, od) := by unfold f_L_write; rw [hx]; rfl
    have hr : f_X6_write rf sz ac sp ou tx nw tr dy kp ik p1 p2 = (0, 3, sz, ac, sp, ou, tx, nw, tr, dy, kp, ik) := by
      unfold f_X6_write; simp only [gLet]; rw [hline, if_neg c, hval, if_neg d, hcw, if_pos rfl]
    have ha := hl.symm.trans ha
    have hb := hr.symm.trans hb
    cases ha; cases hb
    exact ⟨same_no (by decide), hR _ _ _⟩
theorem o_hammer {u : gR × (Nat → Option gR) × Int32 × Int32 × (Nat → Int64)} (h : Rel tn tf r qz qn hq lq lfl w) (ha : f_L_hammer od tn tf r rc qz qn hq lq lfl p1 p2 = (v, u)) (hb : f_X6_hammer w.1 w.2.1 w.2.2.1 w.2.2.2.1 w.2.2.2.2.1 w.2.2.2.2.2.1 w.2.2.2.2.2.2.1 w.2.2.2.2.2.2.2.1 w.2.2.2.2.2.2.2.2.1 w.2.2.2.2.2.2.2.2.2.1 w.2.2.2.2.2.2.2.2.2.2 p1 p2 = (b, w')) : Same v u.2.2.2.2 b w'.1 ∧ Rel tn tf u.1 u.2.2.1 u.2.2.2.1 u.2.1 lq lfl w' := by
  obtain ⟨rf, sz, ac, sp, ou, tx, nw, tr, dy, kp, ik⟩ := w
  obtain ⟨⟨e1, e2, ⟨N, hN, eN⟩, ht⟩, ⟨e3, hA, hT⟩, hH, hS⟩ := h
  have e1 : tx = tf := e1
  have e2 : sz = tn := e2
  have e3 : nw = r := e3
  have hT : Tl tr := hT
  have hH : RelH qz qn hq ac dy := hH
  have hS : RelS lq lfl ik kp := hS
  subst e1; subst e2; subst e3
  have hR : ∀ x y z : Int32, Rel sz tx nw qz qn hq lq lfl (x, sz, ac, y, z, tx, nw, tr, dy, kp, ik) := fun _ _ _ => ⟨⟨rfl, rfl, ⟨N, hN, eN⟩, ht⟩, ⟨rfl, hA, hT⟩, hH, hS⟩
  have hb : f_X6_hammer rf sz ac sp ou tx nw tr dy kp ik p1 p2 = (b, w') := hb
  have hline := m_line (r := nw) (l := p1) hA.1.1.1
  have hham := m_hammered p2
  by_cases c : f_X3_hasLine nw p1 = 0
  · have hx : f_X5_hammer sz tx nw rc qz qn hq lq lfl p1 p2 = (3, 0, nw, hq, qz, qn) := by
      unfold f_X5_hammer; simp only [gLet]; rw [q_line0 c, if_neg (by decide)]
    have hl : f_L_hammer od sz tx nw rc qz qn hq lq lfl p1 p2 = (1, nw, hq, qz, qn, od) := by unfold f_L_hammer; rw [hx]; rfl
    have hr : f_X6_hammer rf sz ac sp ou tx nw tr dy kp ik p1 p2 = (0, 1, sz, ac, sp, ou, tx, nw, tr, dy, kp, ik) := by
      unfold f_X6_hammer; simp only [gLet]; rw [hline, if_pos c]
    have ha := hl.symm.trans ha
    have hb := hr.symm.trans hb
    cases ha; cases hb
    exact ⟨same_no (by decide), hR _ _ _⟩
  have hl0 := m_has.mp c
  by_cases d : f_X5_isHammered p2 = 0
  · have hx : f_X5_hammer sz tx nw rc qz qn hq lq lfl p1 p2 = (1, 0, nw, hq, qz, qn) := by
      unfold f_X5_hammer; simp only [gLet]; rw [q_line1 c, if_pos rfl, q_ham0 d, if_neg (by decide)]
    have hl : f_L_hammer od sz tx nw rc qz qn hq lq lfl p1 p2 = (2, nw, hq, qz, qn, od) := by unfold f_L_hammer; rw [hx]; rfl
    have hr : f_X6_hammer rf sz ac sp ou tx nw tr dy kp ik p1 p2 = (0, 2, sz, ac, sp, ou, tx, nw, tr, dy, kp, ik) := by
      unfold f_X6_hammer; simp only [gLet]; rw [hline, if_neg c, hham, if_pos d]
    have ha := hl.symm.trans ha
    have hb := hr.symm.trans hb
    cases ha; cases hb
    exact ⟨same_no (by decide), hR _ _ _⟩
  have hx : f_X5_hammer sz tx nw rc qz qn hq lq lfl p1 p2 = (0, (f_X3_hammerLine nw p1 p2).1, (f_X3_hammerLine nw p1 p2).2, (f_X0_remember nw qz qn hq).1, (f_X0_remember nw qz qn hq).2.1, (f_X0_remember nw qz qn hq).2.2) := by
    unfold f_X5_hammer; simp only [gLet]; rw [q_line1 c, if_pos rfl, q_ham1 d, if_pos rfl]
  have hl : f_L_hammer od sz tx nw rc qz qn hq lq lfl p1 p2 = (0, (f_X3_hammerLine nw p1 p2).2, (f_X0_remember nw qz qn hq).1, (f_X0_remember nw qz qn hq).2.1, (f_X0_remember nw qz qn hq).2.2, vp_updL od ((0 : Int32).toNatClampNeg) ((f_X3_hammerLine nw p1 p2).1 : Int32).toInt64) := by unfold f_L_hammer; rw [hx]; rfl
  have hr : f_X6_hammer rf sz ac sp ou tx nw tr dy kp ik p1 p2 = ((f_X3_hammerLine nw p1 p2).1, 0, sz, (f_X6_remember 0 sz ac sp ou nw dy).1, sp, ou, tx, (f_X3_hammerLine nw p1 p2).2, tr, (f_X6_remember 0 sz ac sp ou nw dy).2, kp, ik) := by
    unfold f_X6_hammer; simp only [gLet]; rw [hline, if_neg c, hham, if_neg d, ← m_hammer hA hl0]
  have ha := hl.symm.trans ha
  have hb := hr.symm.trans hb
  cases ha; cases hb
  exact ⟨same_ok, ⟨rfl, rfl, ⟨N, hN, eN⟩, ht⟩, ⟨rfl, m_hammerA hA, hT⟩, relH_rem hH hA, hS⟩
theorem o_all {u : gR × (Nat → Option gR) × Int32 × Int32 × (Nat → Int64)} (h : Rel tn tf r qz qn hq lq lfl w) (ha : f_L_all od tn tf r rc qz qn hq lq lfl p1 = (v, u)) (hb : f_X6_all w.1 w.2.1 w.2.2.1 w.2.2.2.1 w.2.2.2.2.1 w.2.2.2.2.2.1 w.2.2.2.2.2.2.1 w.2.2.2.2.2.2.2.1 w.2.2.2.2.2.2.2.2.1 w.2.2.2.2.2.2.2.2.2.1 w.2.2.2.2.2.2.2.2.2.2 p1 = (b, w')) : Same v u.2.2.2.2 b w'.1 ∧ Rel tn tf u.1 u.2.2.1 u.2.2.2.1 u.2.1 lq lfl w' := by
  obtain ⟨rf, sz, ac, sp, ou, tx, nw, tr, dy, kp, ik⟩ := w
  obtain ⟨⟨e1, e2, ⟨N, hN, eN⟩, ht⟩, ⟨e3, hA, hT⟩, hH, hS⟩ := h
  have e1 : tx = tf := e1
  have e2 : sz = tn := e2
  have e3 : nw = r := e3
  have hT : Tl tr := hT
  have hH : RelH qz qn hq ac dy := hH
  have hS : RelS lq lfl ik kp := hS
  subst e1; subst e2; subst e3
  have hR : ∀ x y z : Int32, Rel sz tx nw qz qn hq lq lfl (x, sz, ac, y, z, tx, nw, tr, dy, kp, ik) := fun _ _ _ => ⟨⟨rfl, rfl, ⟨N, hN, eN⟩, ht⟩, ⟨rfl, hA, hT⟩, hH, hS⟩
  have hb : f_X6_all rf sz ac sp ou tx nw tr dy kp ik p1 = (b, w') := hb
  have hrd := m_rounds p1
  have hex := m_exists hA.1.1.1
  by_cases c : f_X5_isRounds p1 = 0
  · have hx : f_X5_all sz tx nw rc qz qn hq lq lfl p1 = (1, 0, nw, hq, qz, qn) := by
      unfold f_X5_all; simp only [gLet]; rw [if_pos c]
    have hl : f_L_all od sz tx nw rc qz qn hq lq lfl p1 = (1, nw, hq, qz, qn, od) := by unfold f_L_all; rw [hx]; rfl
    have hr : f_X6_all rf sz ac sp ou tx nw tr dy kp ik p1 = (0, 1, sz, ac, sp, ou, tx, nw, tr, dy, kp, ik) := by
      unfold f_X6_all; simp only [gLet]; rw [hrd, if_pos c]
    have ha := hl.symm.trans ha
    have hb := hr.symm.trans hb
    cases ha; cases hb
    exact ⟨same_no (by decide), hR _ _ _⟩
  by_cases d : nw 0 = 0
  · rw [if_pos d] at hex
    have hx : f_X5_all sz tx nw rc qz qn hq lq lfl p1 = (2, 0, nw, hq, qz, qn) := by
      unfold f_X5_all; simp only [gLet]; rw [if_neg c, q_st0 hex, if_neg (by decide)]
    have hl : f_L_all od sz tx nw rc qz qn hq lq lfl p1 = (2, nw, hq, qz, qn, od) := by unfold f_L_all; rw [hx]; rfl
    have hr : f_X6_all rf sz ac sp ou tx nw tr dy kp ik p1 = (0, 2, sz, ac, sp, ou, tx, nw, tr, dy, kp, ik) := by
      unfold f_X6_all; simp only [gLet]; rw [hrd, if_neg c, if_pos ((m_le0 hA.1.1.1).mpr d)]
    have ha := hl.symm.trans ha
    have hb := hr.symm.trans hb
    cases ha; cases hb
    exact ⟨same_no (by decide), hR _ _ _⟩
  rw [if_neg d] at hex
  have hb0 := m_all_b hA c
  have hx : f_X5_all sz tx nw rc qz qn hq lq lfl p1 = (0, (f_X3_writeInTurn nw (p1 * nw 0)).1, (f_X3_writeInTurn nw (p1 * nw 0)).2, (f_X0_remember nw qz qn hq).1, (f_X0_remember nw qz qn hq).2.1, (f_X0_remember nw qz qn hq).2.2) := by
    unfold f_X5_all; simp only [gLet]; rw [if_neg c, q_st1 hex, if_pos rfl]
  have hl : f_L_all od sz tx nw rc qz qn hq lq lfl p1 = (0, (f_X3_writeInTurn nw (p1 * nw 0)).2, (f_X0_remember nw qz qn hq).1, (f_X0_remember nw qz qn hq).2.1, (f_X0_remember nw qz qn hq).2.2, vp_updL od ((0 : Int32).toNatClampNeg) ((f_X3_writeInTurn nw (p1 * nw 0)).1 : Int32).toInt64) := by unfold f_L_all; rw [hx]; rfl
  have hr : f_X6_all rf sz ac sp ou tx nw tr dy kp ik p1 = ((f_X3_writeInTurn nw (p1 * nw 0)).1, 0, sz, (f_X6_remember 0 sz ac sp ou nw dy).1, sp, ou, tx, (f_X3_writeInTurn nw (p1 * nw 0)).2, tr, (f_X6_remember 0 sz ac sp ou nw dy).2, kp, ik) := by
    unfold f_X6_all; simp only [gLet]; rw [hrd, if_neg c, if_neg (fun q => d ((m_le0 hA.1.1.1).mp q)), ← m_all hA d (by omega)]
  have ha := hl.symm.trans ha
  have hb := hr.symm.trans hb
  cases ha; cases hb
  exact ⟨same_ok, ⟨rfl, rfl, ⟨N, hN, eN⟩, ht⟩, ⟨rfl, m_allA hA, hT⟩, relH_rem hH hA, hS⟩
theorem o_set {u : gR × (Nat → Option gR) × Int32 × Int32 × (Nat → Int64)} (h : Rel tn tf r qz qn hq lq lfl w) (ha : f_L_set od tn tf r rc qz qn hq lq lfl p1 p2 = (v, u)) (hb : f_X6_set w.1 w.2.1 w.2.2.1 w.2.2.2.1 w.2.2.2.2.1 w.2.2.2.2.2.1 w.2.2.2.2.2.2.1 w.2.2.2.2.2.2.2.1 w.2.2.2.2.2.2.2.2.1 w.2.2.2.2.2.2.2.2.2.1 w.2.2.2.2.2.2.2.2.2.2 p1 p2 = (b, w')) : Same v u.2.2.2.2 b w'.1 ∧ Rel tn tf u.1 u.2.2.1 u.2.2.2.1 u.2.1 lq lfl w' := by
  obtain ⟨rf, sz, ac, sp, ou, tx, nw, tr, dy, kp, ik⟩ := w
  obtain ⟨⟨e1, e2, ⟨N, hN, eN⟩, ht⟩, ⟨e3, hA, hT⟩, hH, hS⟩ := h
  have e1 : tx = tf := e1
  have e2 : sz = tn := e2
  have e3 : nw = r := e3
  have hT : Tl tr := hT
  have hH : RelH qz qn hq ac dy := hH
  have hS : RelS lq lfl ik kp := hS
  subst e1; subst e2; subst e3
  have hR : ∀ x y z : Int32, Rel sz tx nw qz qn hq lq lfl (x, sz, ac, y, z, tx, nw, tr, dy, kp, ik) := fun _ _ _ => ⟨⟨rfl, rfl, ⟨N, hN, eN⟩, ht⟩, ⟨rfl, hA, hT⟩, hH, hS⟩
  have hb : f_X6_set rf sz ac sp ou tx nw tr dy kp ik p1 p2 = (b, w') := hb
  have hset := m_isSet p1 p2
  by_cases c : f_X5_isSettingValue p1 p2 = 0
  · have hx : f_X5_set sz tx nw rc qz qn hq lq lfl p1 p2 = (1, 0, nw, hq, qz, qn) := by
      unfold f_X5_set; simp only [gLet]; rw [if_pos c]
    have hl : f_L_set od sz tx nw rc qz qn hq lq lfl p1 p2 = (1, nw, hq, qz, qn, od) := by unfold f_L_set; rw [hx]; rfl
    have hr : f_X6_set rf sz ac sp ou tx nw tr dy kp ik p1 p2 = (0, 1, sz, ac, sp, ou, tx, nw, tr, dy, kp, ik) := by
      unfold f_X6_set; simp only [gLet]; rw [hset, if_pos c]
    have ha := hl.symm.trans ha
    have hb := hr.symm.trans hb
    cases ha; cases hb
    exact ⟨same_no (by decide), hR _ _ _⟩
  have hold : f_X3_settingOf nw p1 = nw ((11 + p1).toNatClampNeg) := by
    unfold f_X3_settingOf
    rcases m_set01 c with ⟨a, -⟩ | ⟨a, -⟩
    · rw [if_pos a, a]; rfl
    · rw [if_neg (by rw [a]; decide), a]; rfl
  have hx : f_X5_set sz tx nw rc qz qn hq lq lfl p1 p2 = (0, f_X3_settingOf nw p1, f_X3_changeSetting nw p1 p2, (f_X0_remember nw qz qn hq).1, (f_X0_remember nw qz qn hq).2.1, (f_X0_remember nw qz qn hq).2.2) := by
    unfold f_X5_set; simp only [gLet]; rw [if_neg c]
  have hl : f_L_set od sz tx nw rc qz qn hq lq lfl p1 p2 = (0, f_X3_changeSetting nw p1 p2, (f_X0_remember nw qz qn hq).1, (f_X0_remember nw qz qn hq).2.1, (f_X0_remember nw qz qn hq).2.2, vp_updL od ((0 : Int32).toNatClampNeg) (f_X3_settingOf nw p1 : Int32).toInt64) := by unfold f_L_set; rw [hx]; rfl
  have hr : f_X6_set rf sz ac sp ou tx nw tr dy kp ik p1 p2 = (f_X3_settingOf nw p1, 0, sz, (f_X6_remember 0 sz ac sp ou nw dy).1, sp, ou, tx, f_X3_changeSetting nw p1 p2, tr, (f_X6_remember 0 sz ac sp ou nw dy).2, kp, ik) := by
    unfold f_X6_set; simp only [gLet]; rw [hset, if_neg c, hold, m_change c]
  have ha := hl.symm.trans ha
  have hb := hr.symm.trans hb
  cases ha; cases hb
  exact ⟨same_ok, ⟨rfl, rfl, ⟨N, hN, eN⟩, ht⟩, ⟨rfl, m_change_A hA c, hT⟩, relH_rem hH hA, hS⟩
theorem o_undo {u : gR × Int32 × Int32 × (Nat → Int64)} (h : Rel tn tf r qz qn hq lq lfl w) (ha : f_L_undo od tn tf r rc qz qn hq lq lfl = (v, u)) (hb : f_X6_undo w.1 w.2.1 w.2.2.1 w.2.2.2.1 w.2.2.2.2.1 w.2.2.2.2.2.1 w.2.2.2.2.2.2.1 w.2.2.2.2.2.2.2.1 w.2.2.2.2.2.2.2.2.1 w.2.2.2.2.2.2.2.2.2.1 w.2.2.2.2.2.2.2.2.2.2  = (b, w')) : Same v u.2.2.2 b w'.1 ∧ Rel tn tf u.1 u.2.1 u.2.2.1 hq lq lfl w' := by
  obtain ⟨rf, sz, ac, sp, ou, tx, nw, tr, dy, kp, ik⟩ := w
  obtain ⟨⟨e1, e2, ⟨N, hN, eN⟩, ht⟩, ⟨e3, hA, hT⟩, hH, hS⟩ := h
  have e1 : tx = tf := e1
  have e2 : sz = tn := e2
  have e3 : nw = r := e3
  have hT : Tl tr := hT
  have hH : RelH qz qn hq ac dy := hH
  have hS : RelS lq lfl ik kp := hS
  subst e1; subst e2; subst e3
  have hR : ∀ x y z : Int32, Rel sz tx nw qz qn hq lq lfl (x, sz, ac, y, z, tx, nw, tr, dy, kp, ik) := fun _ _ _ => ⟨⟨rfl, rfl, ⟨N, hN, eN⟩, ht⟩, ⟨rfl, hA, hT⟩, hH, hS⟩
  have hb : f_X6_undo rf sz ac sp ou tx nw tr dy kp ik  = (b, w') := hb
  obtain ⟨e, hO, z, n, ez, en, hz, hn, hall⟩ := hH
  subst e
  by_cases c : z = 0
  · have c0 : ac = 0 := by rw [ez, c]; rfl
    have hH : RelH ac qn hq ac dy := ⟨rfl, hO, z, n, ez, en, hz, hn, hall⟩
    have hR : ∀ x y z : Int32, Rel sz tx nw ac qn hq lq lfl (x, sz, ac, y, z, tx, nw, tr, dy, kp, ik) := fun _ _ _ => ⟨⟨rfl, rfl, ⟨N, hN, eN⟩, ht⟩, ⟨rfl, hA, hT⟩, hH, hS⟩
    have hx : f_X5_undo sz tx nw rc ac qn hq lq lfl = (2, 0, nw, ac, qn) := by
      unfold f_X5_undo f_X0_takeBack; simp only [gLet]; rw [if_pos c0, if_pos rfl]
    have hl : f_L_undo od sz tx nw rc ac qn hq lq lfl = (1, nw, ac, qn, od) := by unfold f_L_undo; rw [hx]; rfl
    have hr : f_X6_undo rf sz ac sp ou tx nw tr dy kp ik  = (0, 1, sz, ac, sp, ou, tx, nw, tr, dy, kp, ik) := by
      unfold f_X6_undo; rw [if_pos c0]
    have ha := hl.symm.trans ha
    have hb := hr.symm.trans hb
    cases ha; cases hb
    exact ⟨same_no (by decide), hR _ _ _⟩
  · have c0 : ¬ ac = 0 := by rw [ez]; exact nI_ne0 (by omega) (by omega)
    obtain ⟨a1, a2⟩ := hall 0 (by omega)
    have eac : ac - 1 = nI (z - 1) := by rw [ez]; exact pk_sub (b := 1) (by omega)
    have eqn : (if qn ≤ 0 then (13 : Int32) else qn - 1) = nI ((n + 13) % 14) := by
      rw [en]
      by_cases d : n = 0
      · rw [d, if_pos (show nI 0 ≤ 0 by decide)]; rfl
      · rw [if_neg (show ¬ nI n ≤ 0 from nI_nle (by omega) (by omega)), show (n + 13) % 14 = n - 1 by omega]
        exact pk_sub (b := 1) (by omega)
    have ecl : (nI ((n + 13) % 14)).toNatClampNeg = (n + 13) % 14 := nI_clamp (by omega)
    rw [Nat.sub_zero, Nat.sub_zero] at a1
    rw [Nat.sub_zero] at a2
    have e78 : (78 : Int32) * nI (z - 1) = nI (78 * (z - 1)) := pk_mul 78 (z - 1)
    have hx : f_X5_undo sz tx nw rc ac qn hq lq lfl = (0, nI (z - 1), blk dy (z - 1), nI (z - 1), nI ((n + 13) % 14)) := by
      unfold f_X5_undo f_X0_takeBack f_X0_size; simp only [gLet]; rw [if_neg c0, eqn, ecl, a1, eac]; exact if_neg (show ¬ (1 : Int32) = 0 by decide)
    have hl : f_L_undo od sz tx nw rc ac qn hq lq lfl = (0, blk dy (z - 1), nI (z - 1), nI ((n + 13) % 14), vp_updL od ((0 : Int32).toNatClampNeg) (nI (z - 1) : Int32).toInt64) := by unfold f_L_undo; rw [hx]; rfl
    have hr : f_X6_undo rf sz ac sp ou tx nw tr dy kp ik  = (nI (z - 1), 0, sz, nI (z - 1), sp, ou, tx, blk dy (z - 1), tr, dy, kp, ik) := by
      unfold f_X6_undo; simp only [gLet]; rw [if_neg c0, eac, e78, m_copyOut hA.tl (by omega)]
    have ha := hl.symm.trans ha
    have hb := hr.symm.trans hb
    cases ha; cases hb
    refine ⟨same_ok, ⟨rfl, rfl, ⟨N, hN, eN⟩, ht⟩, ⟨rfl, a2, hT⟩, ⟨rfl, hO, z - 1, (n + 13) % 14, rfl, rfl, by omega, by omega, fun i hi => ?_⟩, hS⟩
    obtain ⟨x1, x2⟩ := hall (i + 1) (by omega)
    rw [show ((n + 13) % 14 + 13 - i) % 14 = (n + 13 - (i + 1)) % 14 by omega, show z - 1 - 1 - i = z - 1 - (i + 1) by omega]
    exact ⟨x1, x2⟩
theorem o_save {u : (Nat → Option gR) × (Nat → Int32) × (Nat → Int64)} (h : Rel tn tf r qz qn hq lq lfl w) (ha : f_L_save od tn tf r rc qz qn hq lq lfl p1 = (v, u)) (hb : f_X6_save w.1 w.2.1 w.2.2.1 w.2.2.2.1 w.2.2.2.2.1 w.2.2.2.2.2.1 w.2.2.2.2.2.2.1 w.2.2.2.2.2.2.2.1 w.2.2.2.2.2.2.2.2.1 w.2.2.2.2.2.2.2.2.2.1 w.2.2.2.2.2.2.2.2.2.2 p1 = (b, w')) : Same v u.2.2 b w'.1 ∧ Rel tn tf r qz qn hq u.1 u.2.1 w' := by
  obtain ⟨rf, sz, ac, sp, ou, tx, nw, tr, dy, kp, ik⟩ := w
  obtain ⟨⟨e1, e2, ⟨N, hN, eN⟩, ht⟩, ⟨e3, hA, hT⟩, hH, hS⟩ := h
  have e1 : tx = tf := e1
  have e2 : sz = tn := e2
  have e3 : nw = r := e3
  have hT : Tl tr := hT
  have hH : RelH qz qn hq ac dy := hH
  have hS : RelS lq lfl ik kp := hS
  subst e1; subst e2; subst e3
  have hR : ∀ x y z : Int32, Rel sz tx nw qz qn hq lq lfl (x, sz, ac, y, z, tx, nw, tr, dy, kp, ik) := fun _ _ _ => ⟨⟨rfl, rfl, ⟨N, hN, eN⟩, ht⟩, ⟨rfl, hA, hT⟩, hH, hS⟩
  have hb : f_X6_save rf sz ac sp ou tx nw tr dy kp ik p1 = (b, w') := hb
  have hin : f_X6_in p1.toInt64 0 1 = if p1 < 0 then 0 else if 1 < p1 then 0 else 1 := m_in p1 0 1
  have e0 : (f_X2_has p1 = 0 ∧ f_X6_in p1.toInt64 0 1 = 0) ∨ (f_X2_has p1 = 1 ∧ f_X6_in p1.toInt64 0 1 = 1 ∧ ∃ k : Nat, k < 2 ∧ p1 = nI k) := by
    rw [hin]
    unfold f_X2_has
    by_cases c : p1 < 0
    · rw [if_pos c, if_pos c]; exact Or.inl ⟨rfl, rfl⟩
    · rw [if_neg c, if_neg c]
      have q1 : (1 : Int32).toInt = 1 := by decide
      have q2 : (2 : Int32).toInt = 2 := by decide
      by_cases d : 1 < p1
      · have d1 := i_lt.mp d
        rw [if_pos d, if_pos (i_le.mpr (by omega))]; exact Or.inl ⟨rfl, rfl⟩
      · have d1 := i_le.mp (Int32.not_lt.mp d)
        rw [if_neg d, if_neg (fun q => by have := i_le.mp q; omega)]
        obtain ⟨k, hk, ek⟩ := nI_of2 (M := 1) (n := 1) (by decide) c (Int32.not_lt.mp d)
        exact Or.inr ⟨rfl, rfl, k, by omega, ek⟩
  rcases e0 with ⟨x1, x2⟩ | ⟨x1, x2, k, hk, rfl⟩
  · have hx : f_X5_save sz tx nw rc qz qn hq lq lfl p1 = (3, 0, lq, lfl) := by
      unfold f_X5_save; simp only [gLet]; rw [q_sl0 x1, if_neg (by decide)]
    have hl : f_L_save od sz tx nw rc qz qn hq lq lfl p1 = (1, lq, lfl, od) := by unfold f_L_save; rw [hx]; rfl
    have hr : f_X6_save rf sz ac sp ou tx nw tr dy kp ik p1 = (0, 1, sz, ac, sp, ou, tx, nw, tr, dy, kp, ik) := by
      unfold f_X6_save; simp only [gLet]; rw [x2, if_pos rfl]
    have ha := hl.symm.trans ha
    have hb := hr.symm.trans hb
    cases ha; cases hb
    exact ⟨same_no (by decide), hR _ _ _⟩
  · have e78 : (78 : Int32) * nI k = nI (78 * k) := pk_mul 78 k
    have ecl : (nI k).toNatClampNeg = k := nI_clamp (by omega)
    obtain ⟨K, hK⟩ : ∃ K : Nat → Int32, f_X6_copyState 78 nw 156 kp 0 (nI (78 * k)) = K := ⟨_, rfl⟩
    have hS2 : RelS (gPut lq k nw) (upd lfl k 1) (upd ik k 1) K := by
      have hput : ∀ i, gPut lq k nw i = if i = k then some nw else lq i := fun _ => rfl
      have hcp := m_copyIn (N0 := 78) (N1 := 156) (d := kp) hA.tl (i := k) (by omega)
      rw [hK] at hcp
      refine ⟨fun i s hs => ?_, fun s hs => ?_⟩
      · rw [hput] at hs
        by_cases q : i = k
        · rw [if_pos q] at hs; cases hs; exact hA.1.1
        · rw [if_neg q] at hs; exact hS.1 i s hs
      · rw [hput, hcp]
        by_cases q : s = k
        · rw [q, upd_eq, upd_eq, if_pos rfl, if_pos rfl]
          exact Or.inr ⟨by decide, by decide, rfl, hA⟩
        · rw [upd_ne q, upd_ne q, if_neg q, if_neg q]
          exact hS.2 s hs
    have hx : f_X5_save sz tx nw rc qz qn hq lq lfl (nI k) = (0, nw 5, gPut lq k nw, upd lfl k 1) := by
      unfold f_X5_save f_X2_keep; simp only [gLet]; rw [q_sl1 x1, if_pos rfl, x1, if_neg (by decide), ecl]
    have hl : f_L_save od sz tx nw rc qz qn hq lq lfl (nI k) = (0, gPut lq k nw, upd lfl k 1, vp_updL od ((0 : Int32).toNatClampNeg) (nw 5 : Int32).toInt64) := by unfold f_L_save; rw [hx]; rfl
    have hr : f_X6_save rf sz ac sp ou tx nw tr dy kp ik (nI k) = (nw 5, 0, sz, ac, sp, ou, tx, nw, tr, dy, K, upd ik k 1) := by
      unfold f_X6_save; simp only [gLet]; rw [x2, if_neg (by decide), e78, ecl, hK]
    have ha := hl.symm.trans ha
    have hb := hr.symm.trans hb
    cases ha; cases hb
    exact ⟨same_ok, ⟨rfl, rfl, ⟨N, hN, eN⟩, ht⟩, ⟨rfl, hA, hT⟩, hH, hS2⟩
theorem o_restore {u : gR × Int32 × (Nat → Int64)} (h : Rel tn tf r qz qn hq lq lfl w) (ha : f_L_restore od tn tf r rc qz qn hq lq lfl p1 = (v, u)) (hb : f_X6_restore w.1 w.2.1 w.2.2.1 w.2.2.2.1 w.2.2.2.2.1 w.2.2.2.2.2.1 w.2.2.2.2.2.2.1 w.2.2.2.2.2.2.2.1 w.2.2.2.2.2.2.2.2.1 w.2.2.2.2.2.2.2.2.2.1 w.2.2.2.2.2.2.2.2.2.2 p1 = (b, w')) : Same v u.2.2 b w'.1 ∧ Rel tn tf u.1 u.2.1 qn hq lq lfl w' := by
  obtain ⟨rf, sz, ac, sp, ou, tx, nw, tr, dy, kp, ik⟩ := w
  obtain ⟨⟨e1, e2, ⟨N, hN, eN⟩, ht⟩, ⟨e3, hA, hT⟩, hH, hS⟩ := h
  have e1 : tx = tf := e1
  have e2 : sz = tn := e2
  have e3 : nw = r := e3
  have hT : Tl tr := hT
  have hH : RelH qz qn hq ac dy := hH
  have hS : RelS lq lfl ik kp := hS
  subst e1; subst e2; subst e3
  have hR : ∀ x y z : Int32, Rel sz tx nw qz qn hq lq lfl (x, sz, ac, y, z, tx, nw, tr, dy, kp, ik) := fun _ _ _ => ⟨⟨rfl, rfl, ⟨N, hN, eN⟩, ht⟩, ⟨rfl, hA, hT⟩, hH, hS⟩
  have hb : f_X6_restore rf sz ac sp ou tx nw tr dy kp ik p1 = (b, w') := hb
  have hin : f_X6_in p1.toInt64 0 1 = if p1 < 0 then 0 else if 1 < p1 then 0 else 1 := m_in p1 0 1
  have e0 : (f_X2_has p1 = 0 ∧ f_X6_in p1.toInt64 0 1 = 0) ∨ (f_X2_has p1 = 1 ∧ f_X6_in p1.toInt64 0 1 = 1 ∧ ∃ k : Nat, k < 2 ∧ p1 = nI k) := by
    rw [hin]
    unfold f_X2_has
    by_cases c : p1 < 0
    · rw [if_pos c, if_pos c]; exact Or.inl ⟨rfl, rfl⟩
    · rw [if_neg c, if_neg c]
      have q1 : (1 : Int32).toInt = 1 := by decide
      have q2 : (2 : Int32).toInt = 2 := by decide
      by_cases d : 1 < p1
      · have d1 := i_lt.mp d
        rw [if_pos d, if_pos (i_le.mpr (by omega))]; exact Or.inl ⟨rfl, rfl⟩
      · have d1 := i_le.mp (Int32.not_lt.mp d)
        rw [if_neg d, if_neg (fun q => by have := i_le.mp q; omega)]
        obtain ⟨k, hk, ek⟩ := nI_of2 (M := 1) (n := 1) (by decide) c (Int32.not_lt.mp d)
        exact Or.inr ⟨rfl, rfl, k, by omega, ek⟩
  rcases e0 with ⟨x1, x2⟩ | ⟨x1, x2, k, hk, rfl⟩
  · have hx : f_X5_restore sz tx nw rc qz qn hq lq lfl p1 = (3, 0, nw, qz) := by
      unfold f_X5_restore; simp only [gLet]; rw [q_sl0 x1, if_neg (by decide)]
    have hl : f_L_restore od sz tx nw rc qz qn hq lq lfl p1 = (1, nw, qz, od) := by unfold f_L_restore; rw [hx]; rfl
    have hr : f_X6_restore rf sz ac sp ou tx nw tr dy kp ik p1 = (0, 1, sz, ac, sp, ou, tx, nw, tr, dy, kp, ik) := by
      unfold f_X6_restore; simp only [gLet]; rw [x2, if_pos rfl]
    have ha := hl.symm.trans ha
    have hb := hr.symm.trans hb
    cases ha; cases hb
    exact ⟨same_no (by decide), hR _ _ _⟩
  · have e78 : (78 : Int32) * nI k = nI (78 * k) := pk_mul 78 k
    have ecl : (nI k).toNatClampNeg = k := nI_clamp (by omega)
    rcases hS.2 k hk with ⟨s1, s2⟩ | ⟨s1, s2, s3, s4⟩
    · have hx : f_X5_restore sz tx nw rc qz qn hq lq lfl (nI k) = (2, 0, nw, qz) := by
        unfold f_X5_restore f_X2_bringBack; simp only [gLet]; rw [q_sl1 x1, if_pos rfl, x1, if_neg (show ¬ (1 : Int32) = 0 by decide), ecl, if_pos s1, if_pos rfl]
      have hl : f_L_restore od sz tx nw rc qz qn hq lq lfl (nI k) = (2, nw, qz, od) := by unfold f_L_restore; rw [hx]; rfl
      have hr : f_X6_restore rf sz ac sp ou tx nw tr dy kp ik (nI k) = (0, 2, sz, ac, sp, ou, tx, nw, tr, dy, kp, ik) := by
        unfold f_X6_restore; simp only [gLet]; rw [x2, if_neg (by decide), ecl, if_pos s2]
      have ha := hl.symm.trans ha
      have hb := hr.symm.trans hb
      cases ha; cases hb
      exact ⟨same_no (by decide), hR _ _ _⟩
    · have hx : f_X5_restore sz tx nw rc qz qn hq lq lfl (nI k) = (0, blk kp k 5, blk kp k, 0) := by
        unfold f_X5_restore f_X2_bringBack f_X0_forgetAll; simp only [gLet]; rw [q_sl1 x1, if_pos rfl, x1, if_neg (show ¬ (1 : Int32) = 0 by decide), ecl, if_neg s1, s3]; exact if_neg (show ¬ (1 : Int32) = 0 by decide)
      have hl : f_L_restore od sz tx nw rc qz qn hq lq lfl (nI k) = (0, blk kp k, 0, vp_updL od ((0 : Int32).toNatClampNeg) (blk kp k 5 : Int32).toInt64) := by unfold f_L_restore; rw [hx]; rfl
      have hr : f_X6_restore rf sz ac sp ou tx nw tr dy kp ik (nI k) = (blk kp k 5, 0, sz, 0, sp, ou, tx, blk kp k, tr, dy, kp, ik) := by
        unfold f_X6_restore; simp only [gLet]; rw [x2, if_neg (by decide), ecl, if_neg s2, e78, m_copyOut hA.tl (by omega)]
      have ha := hl.symm.trans ha
      have hb := hr.symm.trans hb
      cases ha; cases hb
      exact ⟨same_ok, ⟨rfl, rfl, ⟨N, hN, eN⟩, ht⟩, ⟨rfl, s4, hT⟩, relH_no hH, hS⟩
theorem o_load {u : gR × Int32 × (Nat → Int32) × (Nat → Int64)} (h : Rel tn tf r qz qn hq lq lfl w) (ha : f_L_load od tn tf r qz qn lfl = (v, u)) (hb : f_X6_load w.1 w.2.1 w.2.2.1 w.2.2.2.1 w.2.2.2.2.1 w.2.2.2.2.2.1 w.2.2.2.2.2.2.1 w.2.2.2.2.2.2.2.1 w.2.2.2.2.2.2.2.2.1 w.2.2.2.2.2.2.2.2.2.1 w.2.2.2.2.2.2.2.2.2.2  = (b, w')) : Same v u.2.2.2 b w'.1 ∧ Rel tn tf u.1 u.2.1 qn hq lq u.2.2.1 w' := by
  obtain ⟨rf, sz, ac, sp, ou, tx, nw, tr, dy, kp, ik⟩ := w
  obtain ⟨⟨e1, e2, ⟨N, hN, eN⟩, ht⟩, ⟨e3, hA, hT⟩, hH, hS⟩ := h
  have e1 : tx = tf := e1
  have e2 : sz = tn := e2
  have e3 : nw = r := e3
  have hT : Tl tr := hT
  have hH : RelH qz qn hq ac dy := hH
  have hS : RelS lq lfl ik kp := hS
  subst e1; subst e2; subst e3
  have hR : ∀ x y z : Int32, Rel sz tx nw qz qn hq lq lfl (x, sz, ac, y, z, tx, nw, tr, dy, kp, ik) := fun _ _ _ => ⟨⟨rfl, rfl, ⟨N, hN, eN⟩, ht⟩, ⟨rfl, hA, hT⟩, hH, hS⟩
  have hb : f_X6_load rf sz ac sp ou tx nw tr dy kp ik  = (b, w') := hb
  obtain ⟨g1, g2, g3⟩ := m_text (rf := rf) (ac := ac) (sp := sp) (ou := ou) hN ht hT
  rw [← eN] at g1 g2 g3
  have hfl : ∀ j, j < 2 → f_X2_forgetAll lfl j = 0 := by
    intro j hj
    have e : f_X2_forgetAll lfl = upd (upd lfl 0 0) 1 0 := rfl
    rw [e]
    rcases (show j = 0 ∨ j = 1 by omega) with rfl | rfl
    · rw [upd_ne (by omega), upd_eq]
    · rw [upd_eq]
  by_cases c : f_X4_firstError sz tx = -1
  · have g3 := g3 c
    rw [c] at g1
    have hx : f_X5_load sz tx nw qz qn lfl = (0, (f_X6_readText rf sz ac sp ou tx tr).2.2.2, (f_X6_readText rf sz ac sp ou tx tr).2.1, 0, f_X2_forgetAll lfl) := by
      unfold f_X5_load f_X0_forgetAll; simp only [gLet]; rw [if_pos c, m_anew hA.tl, g3]
    have hl : f_L_load od sz tx nw qz qn lfl = (0, (f_X6_readText rf sz ac sp ou tx tr).2.1, 0, f_X2_forgetAll lfl, vp_updL od ((0 : Int32).toNatClampNeg) ((f_X6_readText rf sz ac sp ou tx tr).2.2.2 : Int32).toInt64) := by unfold f_L_load; rw [hx]; rfl
    have hr : f_X6_load rf sz ac sp ou tx nw tr dy kp ik  = ((f_X6_readText rf sz ac sp ou tx tr).2.2.2, 0, sz, 0, (f_X6_readText rf sz ac sp ou tx tr).2.2.1, (f_X6_readText rf sz ac sp ou tx tr).2.2.2, tx, (f_X6_readText rf sz ac sp ou tx tr).2.1, (f_X6_readText rf sz ac sp ou tx tr).2.1, dy, kp, upd (upd ik 0 0) 1 0) := by
      unfold f_X6_load; simp only [gLet]; rw [if_pos g1, m_copy0 g2.tl hA.tl]
    have ha := hl.symm.trans ha
    have hb := hr.symm.trans hb
    cases ha; cases hb
    refine ⟨same_ok, ⟨rfl, rfl, ⟨N, hN, eN⟩, ht⟩, ⟨rfl, g2, g2.tl⟩, relH_no hH, hS.1, fun s hs => Or.inl ⟨hfl s hs, ?_⟩⟩
    show upd (upd ik 0 0) 1 0 s = 0
    rcases (show s = 0 ∨ s = 1 by omega) with rfl | rfl
    · rw [upd_ne (by omega), upd_eq]
    · rw [upd_eq]
  · rw [← g1] at c
    have c' : ¬ f_X4_firstError sz tx = -1 := by rw [← g1]; exact c
    have hx : f_X5_load sz tx nw qz qn lfl = (2, 0, nw, qz, lfl) := by
      unfold f_X5_load; simp only [gLet]; rw [if_neg c']
    have hl : f_L_load od sz tx nw qz qn lfl = (1, nw, qz, lfl, od) := by unfold f_L_load; rw [hx]; rfl
    have hr : f_X6_load rf sz ac sp ou tx nw tr dy kp ik  = (0, 1, sz, ac, (f_X6_readText rf sz ac sp ou tx tr).2.2.1, (f_X6_readText rf sz ac sp ou tx tr).2.2.2, tx, nw, (f_X6_readText rf sz ac sp ou tx tr).2.1, dy, kp, ik) := by
      unfold f_X6_load; simp only [gLet]; rw [if_neg c]
    have ha := hl.symm.trans ha
    have hb := hr.symm.trans hb
    cases ha; cases hb
    exact ⟨same_no (by decide), ⟨rfl, rfl, ⟨N, hN, eN⟩, ht⟩, ⟨rfl, hA, g2.tl⟩, hH, hS⟩
end OPS
