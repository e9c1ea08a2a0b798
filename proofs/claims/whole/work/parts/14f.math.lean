/-! THE TWO SIDES AGREE: commands of scripts, what would be -/
theorem m_had0 {r : gR} {l v : Int32} (h : InvA r) (hl : okL r l) : ¬ (f_X6_writeOn r l v).1 < 0 := by
  rw [← m_write h.1 hl, m_had hl, i_lt, i_z]
  have := (h.val hl).1
  omega
theorem m_canW {r : gR} {l : Int32} (h : InvA r) : f_X6_canWrite r l = if f_X3_hasLine r l = 0 then 0 else if r 8 = 0 then 1 else 0 := by
  unfold f_X6_canWrite
  rw [m_line h.1.1.1]
  rfl
theorem m_val01 {U : Nat} (h : U ≤ 999) : f_X5_isValue (nI U) = 1 := by
  unfold f_X5_isValue
  rw [if_neg (nI_pos (by omega)), if_neg (show ¬ (999 : Int32) < nI U from nI_nlt (a := 999) (by omega) (by omega))]
theorem m_cmd1 {r : gR} {l v : Int32} (h : InvA r) (hv : f_X5_isValue v = 1) : f_X3_doWrite r l v = gLet (f_X6_canWrite r l) (fun v6 => if v6 = 0 then (0, r) else gLet (f_X6_writeOn r l v) (fun q => if q.1 < 0 then (0, q.2) else (1, q.2))) := by
  unfold f_X3_doWrite
  simp only [gLet]
  rw [m_canW h, hv, if_neg (show ¬ (1 : Int32) = 0 by decide)]
  by_cases c : f_X3_hasLine r l = 0
  · rw [if_pos c, if_pos c, if_pos rfl]
  · rw [if_neg c, if_neg c]
    by_cases d : r 8 = 0
    · rw [if_pos d, if_pos d, if_neg (show ¬ (1 : Int32) = 0 by decide), m_write h.1 (m_has.mp c), if_neg (m_had0 h (m_has.mp c))]
    · rw [if_neg d, if_neg d, if_pos rfl]
theorem m_cmd2 {r : gR} {l v : Int32} (h : InvA r) (hv : v.toInt < 50000) : f_X3_doHammer r l v = if f_X3_hasLine r l = 0 then (0, r) else if f_X5_isHammered v = 0 then (0, r) else gLet (f_X6_hammerOn r l v) (fun q => if q.1 < 0 then (0, q.2) else (1, q.2)) := by
  unfold f_X3_doHammer
  simp only [gLet]
  by_cases c : f_X3_hasLine r l = 0
  · rw [if_pos c, if_pos c]
  · rw [if_neg c, if_neg c]
    by_cases d : f_X5_isHammered v = 0
    · rw [if_pos d, if_pos d]
    · rw [if_neg d, if_neg d, m_hammer h (m_has.mp c), if_neg (m_hammer_0 hv)]
theorem m_all_b {r : gR} {v : Int32} (h : InvA r) (c : ¬ f_X5_isRounds v = 0) : (v * r 0).toInt < 50000 := by
  have l7 := h.1.1.2.1
  have l8 := h.1.1.1
  have hb : ¬ v < 1 ∧ ¬ 50 < v := by
    unfold f_X5_isRounds at c
    by_cases a : v < 1
    · rw [if_pos a] at c; exact absurd rfl c
    rw [if_neg a] at c
    by_cases b : 50 < v
    · rw [if_pos b] at c; exact absurd rfl c
    exact ⟨a, b⟩
  have e1 : (1 : Int32).toInt = 1 := by decide
  have e50 : (50 : Int32).toInt = 50 := by decide
  have a1 := i_le.mp (Int32.not_lt.mp hb.1)
  have b1 := i_le.mp (Int32.not_lt.mp hb.2)
  have hv : v = nI (nN v) := nI_nN (by omega)
  have h0 : r 0 = nI (nN (r 0)) := nI_nN l8
  have d1 : nN v = v.toInt.toNat := rfl
  have d0 : nN (r 0) = (r 0).toInt.toNat := rfl
  have hm : nN v * nN (r 0) ≤ 50 * 32 := Nat.mul_le_mul (by omega) (by omega)
  rw [hv, h0, pk_mul, nI_toInt (by omega)]
  omega
theorem m_cmd3 {r : gR} {v : Int32} (h : InvA r) : f_X3_doAll r v = if f_X5_isRounds v = 0 then (0, r) else if r 0 = 0 then (0, r) else gLet (f_X6_allOn r (v * r 0)) (fun q => if q.1 < 0 then (0, q.2) else (1, q.2)) := by
  unfold f_X3_doAll
  simp only [gLet]
  rw [m_exists h.1.1.1]
  by_cases c : f_X5_isRounds v = 0
  · rw [if_pos c, if_pos c]
  · rw [if_neg c, if_neg c]
    have hb := m_all_b h c
    by_cases d : r 0 = 0
    · rw [if_pos d, if_pos d, if_pos rfl]
    · rw [if_neg d, if_neg d, if_neg (show ¬ (1 : Int32) = 0 by decide), m_all h d (by omega), if_neg (m_all_0 (by omega))]
theorem m_set01 {p v : Int32} (c : ¬ f_X5_isSettingValue p v = 0) : (p = 0 ∧ 5 ≤ v.toInt ∧ v.toInt ≤ 999) ∨ (p = 1 ∧ 1 ≤ v.toInt ∧ v.toInt ≤ 50) := by
  have e1 : (1 : Int32).toInt = 1 := by decide
  have e5 : (5 : Int32).toInt = 5 := by decide
  have e50 : (50 : Int32).toInt = 50 := by decide
  have e999 : (999 : Int32).toInt = 999 := by decide
  unfold f_X5_isSettingValue at c
  by_cases a : p = 0
  · rw [if_pos a] at c
    by_cases b : v < 5
    · rw [if_pos b] at c; exact absurd rfl c
    rw [if_neg b] at c
    by_cases d : 999 < v
    · rw [if_pos d] at c; exact absurd rfl c
    have b1 := i_le.mp (Int32.not_lt.mp b)
    have d1 := i_le.mp (Int32.not_lt.mp d)
    exact Or.inl ⟨a, by omega, by omega⟩
  · rw [if_neg a] at c
    by_cases a2 : p = 1
    · rw [if_pos a2] at c
      by_cases b : v < 1
      · rw [if_pos b] at c; exact absurd rfl c
      rw [if_neg b] at c
      by_cases d : 50 < v
      · rw [if_pos d] at c; exact absurd rfl c
      have b1 := i_le.mp (Int32.not_lt.mp b)
      have d1 := i_le.mp (Int32.not_lt.mp d)
      exact Or.inr ⟨a2, by omega, by omega⟩
    · rw [if_neg a2] at c; exact absurd rfl c
theorem m_change {r : gR} {p v : Int32} (c : ¬ f_X5_isSettingValue p v = 0) : f_X3_changeSetting r p v = upd r ((11 + p).toNatClampNeg) v := by
  unfold f_X3_changeSetting
  rcases m_set01 c with ⟨a, -⟩ | ⟨a, -⟩
  · rw [if_pos a, a]; rfl
  · rw [if_neg (by rw [a]; decide), a]; rfl
theorem m_change_A {r : gR} {p v : Int32} (h : InvA r) (c : ¬ f_X5_isSettingValue p v = 0) : InvA (f_X3_changeSetting r p v) := by
  unfold f_X3_changeSetting
  rcases m_set01 c with ⟨a, b1, b2⟩ | ⟨a, b1, b2⟩
  · rw [if_pos a]; exact ⟨h.1.upd (by omega), h.2.1.upd11 b2, h.2.2.upd (Or.inl rfl)⟩
  · rw [if_neg (by rw [a]; decide)]; exact ⟨h.1.upd (by omega), h.2.1.upd0 (by omega), h.2.2.upd (Or.inr rfl)⟩
theorem m_cmd4 {r : gR} {p v : Int32} : f_X3_doSet r p v = if f_X6_isSetting p v = 0 then (0, r) else (1, upd r ((11 + p).toNatClampNeg) v) := by
  unfold f_X3_doSet
  simp only [gLet]
  rw [m_isSet]
  by_cases c : f_X5_isSettingValue p v = 0
  · rw [if_pos c, if_pos c]
  · rw [if_neg c, if_neg c, m_change c]
theorem m_13n (i : Nat) (h : i < 1000) : (13 + nI i).toNatClampNeg = 13 + i := by rw [show (13 : Int32) = nI 13 from rfl, nI_add, nI_clamp (by omega)]
theorem m_45n (i : Nat) (h : i < 1000) : (45 + nI i).toNatClampNeg = 45 + i := by rw [show (45 : Int32) = nI 45 from rfl, nI_add, nI_clamp (by omega)]
theorem m_command {rf sz ac sp ou : Int32} {r : gR} (h : InvA r) {g : Nat} (hg : g < 1000000) : f_X1_succeeds r (nI g) = f_X6_command rf sz ac sp ou r (nI (g / 100000)) (nI (g % 100000)) := by
  have c10 : (10 : Int32) = nI 10 := rfl
  have c100 : (100 : Int32) = nI 100 := rfl
  have c1000 : (1000 : Int32) = nI 1000 := rfl
  have c10000 : (10000 : Int32) = nI 10000 := rfl
  have c100000 : (100000 : Int32) = nI 100000 := rfl
  have t1 : nI g / 1000 = nI (g / 1000) := pk_div (d := 1000) (by omega) (by omega) (by omega)
  have t2 : nI (g / 1000) - nI (g / 1000) / 100 * 100 = nI (g % 100000 / 1000) := by
    rw [c100, pk_rem (by omega) (by omega) (by omega)]
    congr 1
    omega
  have t3 : nI g - nI (g / 1000) * 1000 = nI (g % 100000 % 1000) := by
    rw [← t1, c1000, pk_rem (by omega) (by omega) (by omega)]
    congr 1
    omega
  have t4 : nI g / 100000 = nI (g / 100000) := pk_div (d := 100000) (by omega) (by omega) (by omega)
  have t5 : nI g - nI (g / 100000) * 100000 = nI (g % 100000) := by
    rw [← t4, c100000, pk_rem (by omega) (by omega) (by omega)]
  have t6 : nI (g % 100000) / 1000 = nI (g % 100000 / 1000) := pk_div (d := 1000) (by omega) (by omega) (by omega)
  have t7 : nI (g % 100000) - nI (g % 100000 / 1000) * 1000 = nI (g % 100000 % 1000) := by
    rw [← t6, c1000, pk_rem (by omega) (by omega) (by omega)]
  have t8 : nI (g % 100000) / 10 = nI (g % 100000 / 10) := pk_div (d := 10) (by omega) (by omega) (by omega)
  have t9 : nI (g % 100000) - nI (g % 100000 / 10) * 10 = nI (g % 100000 % 10) := by
    rw [← t8, c10, pk_rem (by omega) (by omega) (by omega)]
  have t10 : nI (g % 100000 / 10) - nI (g % 100000 / 10) / 1000 * 1000 = nI (g % 100000 / 10 % 1000) := by
    rw [c1000, pk_rem (by omega) (by omega) (by omega)]
  have t11 : nI (g % 100000) / 10000 = nI (g % 100000 / 10000) := pk_div (d := 10000) (by omega) (by omega) (by omega)
  have hT : g % 100000 / 1000 < 100 := by omega
  have hU : g % 100000 % 1000 < 1000 := by omega
  have hF : g % 100000 < 100000 := by omega
  unfold f_X1_succeeds f_X6_command
  simp only [gLet]
  rw [t1, t2, t3, t4, t5, t6, t7, t8, t9, t10, t11]
  generalize nI (g / 100000) = H
  generalize g % 100000 = F at *
  generalize eT : F / 1000 = T at *
  generalize eU : F % 1000 = U at *
  rw [m_line h.1.1.1]
  by_cases c1 : H = 1
  · rw [if_pos c1, if_pos c1, Prod.eta, m_cmd1 h (m_val01 (by omega))]
    simp only [gLet]
  rw [if_neg c1, if_neg c1]
  by_cases c2 : H = 2
  · rw [if_pos c2, if_pos c2, Prod.eta, m_cmd2 h (by rw [nI_toInt (by omega)]; omega), m_hammered]
    simp only [gLet]
  rw [if_neg c2, if_neg c2]
  by_cases c3 : H = 3
  · rw [if_pos c3, if_pos c3, Prod.eta, m_cmd3 h, m_rounds]
    by_cases a : f_X5_isRounds (nI F) = 0
    · rw [if_pos a, if_pos a]
      exact (ite_self _).symm
    · rw [if_neg a, if_neg a]
      by_cases b : r 0 = 0
      · rw [if_pos b, if_pos ((m_le0 h.1.1.1).mpr b)]
      · rw [if_neg b, if_neg (fun q => b ((m_le0 h.1.1.1).mp q))]
        simp only [gLet]
  rw [if_neg c3, if_neg c3]
  by_cases c4 : H = 4
  · rw [if_pos c4, if_pos c4]
    by_cases a : F % 10 = 0
    · rw [a, if_pos (show nI 0 = 0 from rfl), if_neg (show ¬ (0 : Int32) < nI 0 by decide), m_cmd4]
      by_cases b : f_X6_isSetting (nI (F / 10000)) (nI (F / 10 % 1000)) = 0
      · rw [if_pos b]; rfl
      · rw [if_neg b]; rfl
    · rw [if_neg (nI_ne0 (by omega) (by omega)), if_pos (show (0 : Int32) < nI (F % 10) from nI_lt (a := 0) (by omega) (by omega))]
  rw [if_neg c4, if_neg c4]
  by_cases c5 : H = 5
  · rw [if_pos c5, if_pos c5]
    by_cases a : f_X3_hasLine r (nI T) = 0
    · rw [if_pos a, if_pos a]
    · rw [if_neg a, if_neg a, m_valueV (m_has.mp a), nI_clamp (by omega), m_13n _ (by omega)]
  rw [if_neg c5, if_neg c5]
  by_cases c6 : H = 6
  · rw [if_pos c6, if_pos c6]
    by_cases a : f_X3_hasLine r (nI T) = 0
    · rw [if_pos a, if_pos a]
    · rw [if_neg a, if_neg a, m_place (m_has.mp a), m_isPlace]
      obtain ⟨p0, p1⟩ := m_pl_in h.1 (m_has.mp a)
      have l7 := h.1.1.2.1
      have hr0 : ¬ r 0 = 0 := fun e => by have := (m_has.mp a).1; have := (m_has.mp a).2; rw [e, i_z] at this; omega
      have l0 := (h.1.pos hr0).1
      by_cases b : f_X6_placeOf r (nI T) = nI U
      · rw [b, nI_toInt (by omega)] at p1
        have hpl : f_X3_hasPlace r (nI U) = 1 := by
          unfold f_X3_hasPlace
          rw [if_neg (by rw [i_le, i_z]; omega), if_neg (nI_pos (by omega)), if_neg (by rw [i_lt, nI_toInt (by omega)]; omega)]
        rw [if_pos b, if_neg (show ¬ (100 : Int32) ≤ nI U from nI_ge (b := 100) (by omega) (by omega)), hpl, if_neg (show ¬ (1 : Int32) = 0 by decide)]
      · rw [if_neg b]
        by_cases d : (100 : Int32) ≤ nI U
        · rw [if_pos d]
        · rw [if_neg d]
          by_cases e : f_X3_hasPlace r (nI U) = 0
          · rw [if_pos e]
          · rw [if_neg e]
  rw [if_neg c6, if_neg c6]
  by_cases c7 : H = 7
  · rw [if_pos c7, if_pos c7, m_isPlace]
    by_cases a : f_X3_hasPlace r (nI T) = 0
    · rw [if_pos a, if_pos a]
    · have e : f_X3_wearOf r (nI T) = r (45 + T) := by
        unfold f_X3_wearOf
        simp only [gLet]
        rw [if_neg a, nI_clamp (by omega)]
      rw [if_neg a, if_neg a, e, m_45n _ (by omega)]
  rw [if_neg c7, if_neg c7]
  by_cases c8 : H = 8
  · rw [if_pos c8, if_pos c8, m_exists h.1.1.1]
    by_cases a : r 0 = 0
    · rw [if_pos a, if_pos rfl, if_pos ((m_le0 h.1.1.1).mpr a)]
      exact (ite_self _).symm
    · rw [if_neg a, if_neg (show ¬ (1 : Int32) = 0 by decide), if_neg (fun q => a ((m_le0 h.1.1.1).mp q))]
      rcases h.1.1.2.2 with e | e
      · rw [e, if_pos rfl]
        by_cases d : F = 0
        · rw [d]; rfl
        · have d1 : ¬ nI F = 0 := nI_ne0 (by omega) (by omega)
          rw [if_neg d1, if_neg (fun q : (0 : Int32) = nI F => d1 q.symm)]
          exact (ite_self _).symm
      · rw [e, if_neg (show ¬ (1 : Int32) = 0 by decide)]
        by_cases d : F = 1
        · rw [d]; rfl
        · have d1 : ¬ nI F = 1 := fun q => d ((nI_eq (b := 1) (by omega) (by omega)).mp q)
          rw [if_neg d1, if_neg (fun q : (1 : Int32) = nI F => d1 q.symm)]
          exact (ite_self _).symm
  rw [if_neg c8, if_neg c8]
  by_cases c9 : H = 9
  · rw [if_pos c9, if_pos c9, m_exists h.1.1.1]
    by_cases a : r 0 = 0
    · rw [if_pos a, if_pos rfl, if_pos ((m_le0 h.1.1.1).mpr a)]
      exact (ite_self _).symm
    · rw [if_neg a, if_neg (show ¬ (1 : Int32) = 0 by decide), if_neg (fun q => a ((m_le0 h.1.1.1).mp q))]
      obtain ⟨l0, l1, l2, l3, l4, l5, l6⟩ := h.1.pos a
      have l7 := h.1.1.2.1
      by_cases d : nI F = r 3
      · rw [if_pos d, if_pos d.symm]
        rw [← d, nI_toInt (by omega)] at l6
        rw [if_neg (show ¬ (100 : Int32) ≤ nI F from nI_ge (b := 100) (by omega) (by omega))]
      · rw [if_neg d, if_neg (show ¬ r 3 = nI F from fun q => d q.symm)]
        exact (ite_self _).symm
  rw [if_neg c9, if_neg c9]
theorem m_doW_A {r : gR} {l v : Int32} (h : InvA r) : InvA (f_X3_doWrite r l v).2 := by
  unfold f_X3_doWrite
  refine gLet_i (P := fun z : Int32 × gR => InvA z.2) (fun a ea => ?_)
  refine gIf_i (P := fun z : Int32 × gR => InvA z.2) (fun _ => h) (fun _ => ?_)
  refine gLet_i (P := fun z : Int32 × gR => InvA z.2) (fun b eb => ?_)
  refine gIf_i (P := fun z : Int32 × gR => InvA z.2) (fun _ => h) (fun cb => ?_)
  refine gIf_i (P := fun z : Int32 × gR => InvA z.2) (fun c8 => ?_) (fun _ => h)
  refine gLet_i (P := fun z : Int32 × gR => InvA z.2) (fun q eq => ?_)
  show InvA q.2
  rw [← eq]
  refine m_write_A h c8 (fun _ => ?_)
  rw [← eb] at cb
  have e999 : (999 : Int32).toInt = 999 := by decide
  unfold f_X5_isValue at cb
  by_cases x : v < 0
  · rw [if_pos x] at cb; exact absurd rfl cb
  rw [if_neg x] at cb
  by_cases y : 999 < v
  · rw [if_pos y] at cb; exact absurd rfl cb
  have x1 := i_le.mp (Int32.not_lt.mp x)
  have y1 := i_le.mp (Int32.not_lt.mp y)
  rw [i_z] at x1
  omega
theorem m_doH_A {r : gR} {l v : Int32} (h : InvA r) : InvA (f_X3_doHammer r l v).2 := by
  unfold f_X3_doHammer
  refine gLet_i (P := fun z : Int32 × gR => InvA z.2) (fun a ea => ?_)
  refine gIf_i (P := fun z : Int32 × gR => InvA z.2) (fun _ => h) (fun _ => ?_)
  refine gLet_i (P := fun z : Int32 × gR => InvA z.2) (fun b eb => ?_)
  refine gIf_i (P := fun z : Int32 × gR => InvA z.2) (fun _ => h) (fun cb => ?_)
  refine gLet_i (P := fun z : Int32 × gR => InvA z.2) (fun q eq => ?_)
  show InvA q.2
  rw [← eq]
  exact m_hammerA h
theorem m_doA_A {r : gR} {v : Int32} (h : InvA r) : InvA (f_X3_doAll r v).2 := by
  unfold f_X3_doAll
  refine gLet_i (P := fun z : Int32 × gR => InvA z.2) (fun a ea => ?_)
  refine gIf_i (P := fun z : Int32 × gR => InvA z.2) (fun _ => h) (fun _ => ?_)
  refine gLet_i (P := fun z : Int32 × gR => InvA z.2) (fun b eb => ?_)
  refine gIf_i (P := fun z : Int32 × gR => InvA z.2) (fun _ => h) (fun cb => ?_)
  refine gLet_i (P := fun z : Int32 × gR => InvA z.2) (fun q eq => ?_)
  show InvA q.2
  rw [← eq]
  exact m_allA h
theorem m_doS_A {r : gR} {p v : Int32} (h : InvA r) : InvA (f_X3_doSet r p v).2 := by
  unfold f_X3_doSet
  refine gLet_i (P := fun z : Int32 × gR => InvA z.2) (fun a ea => ?_)
  refine gIf_i (P := fun z : Int32 × gR => InvA z.2) (fun _ => h) (fun c => ?_)
  refine gLet_i (P := fun z : Int32 × gR => InvA z.2) (fun q eq => ?_)
  show InvA q
  rw [← eq]
  exact m_change_A h (by rw [ea]; exact c)
theorem m_cmd_A {r : gR} {c : Int32} (h : InvA r) : InvA (f_X1_succeeds r c).2 := by
  unfold f_X1_succeeds
  refine gLet_i (P := fun z : Int32 × gR => InvA z.2) (fun v1 _ => ?_)
  refine gLet_i (P := fun z : Int32 × gR => InvA z.2) (fun v2 _ => ?_)
  refine gLet_i (P := fun z : Int32 × gR => InvA z.2) (fun v3 _ => ?_)
  refine gLet_i (P := fun z : Int32 × gR => InvA z.2) (fun v4 _ => ?_)
  refine gIf_i (P := fun z : Int32 × gR => InvA z.2) (fun _ => ?_) (fun _ => ?_)
  · exact m_doW_A h
  refine gIf_i (P := fun z : Int32 × gR => InvA z.2) (fun _ => ?_) (fun _ => ?_)
  · exact m_doH_A h
  refine gIf_i (P := fun z : Int32 × gR => InvA z.2) (fun _ => ?_) (fun _ => ?_)
  · exact m_doA_A h
  refine gIf_i (P := fun z : Int32 × gR => InvA z.2) (fun _ => ?_) (fun _ => ?_)
  · refine gLet_i (P := fun z : Int32 × gR => InvA z.2) (fun v21 _ => ?_)
    refine gIf_i (P := fun z : Int32 × gR => InvA z.2) (fun _ => ?_) (fun _ => h)
    refine gLet_i (P := fun z : Int32 × gR => InvA z.2) (fun v23 _ => ?_)
    refine gLet_i (P := fun z : Int32 × gR => InvA z.2) (fun q eq => ?_)
    have hq : InvA q.2 := by rw [← eq]; exact m_doS_A h
    exact gIf_i (P := fun z : Int32 × gR => InvA z.2) (fun _ => hq) (fun _ => hq)
  have h0 : InvA ((0 : Int32), r).2 := h
  have h1 : InvA ((1 : Int32), r).2 := h
  simp only [gLet]
  repeat' split
  all_goals first | exact h0 | exact h1
