/-! TWO STORES ALIKE -/
set_option maxHeartbeats 8000000 in
set_option maxRecDepth 100000 in
theorem c_alike (l : Launch) (hst : l.stackTraces = false) (D : va_G) (y : Nat → ClassId) (av bv : Nat → Nat) (ga gb gc gd : Nat → Nat × Nat × Nat) (S : oS) (c0 : gR) (X : Nat) (hG : GS S) (hX : X < 100000) (zh : Nat) : Met l yL_alike wsL_alike ({ frames := 10, cells := 1500, slots := 27000, locals := 202 }) (lP D y [.ref (av 0), .ref (bv 0), .int (nI X)] zh (oW y av ga gb S ++ oW y bv gc gd (sRc S c0))) (va_Qi (fun (v : Int32) (u : oS × oS) => v = 1 ∧ ∃ d1 d2, u = (sRc S d1, sRc S d2)) (fun (u : oS × oS) t => ∃ (g1 g2 : (Nat → Nat × Nat × Nat) × (Nat → Nat × Nat × Nat)), va_P D vwCl (oW y av g1.1 g1.2 u.1 ++ oW y bv g2.1 g2.2 u.2) t.heap ∧ va_D (va_A (oW y av ga gb S ++ oW y bv gc gd (sRc S c0)) zh) (oW y av g1.1 g1.2 u.1 ++ oW y bv g2.1 g2.2 u.2)) (va_A (oW y av ga gb S ++ oW y bv gc gd (sRc S c0)) zh)) 1500 27000 (va_A (oW y av ga gb S ++ oW y bv gc gd (sRc S c0)) zh) := by
  refine Met.ofW (cc := cL_alike) (maxL := 6) (ret := (some .boolean)) (by decide) rfl ?_
  intro p e s m args below meth c s₁ B hml hv
  obtain ⟨⟨⟨rfl, hsz, hP, hE, hD⟩, hXE, hXZ⟩, hLN⟩ := hv
  have hx := B.exec
  have hb := B.bytes
  have hr := B.returns
  have hts := atoms_spec (ws := wsL_alike) B.pre
  have hown : s.vm.findClass RL = some m.cls := findClass_of_methodNamed B.named

  subst hsz
  have hD := hD.self (sz := s.heap.size)
  generalize hAe : va_A (oW y av ga gb S ++ oW y bv gc gd (sRc S c0)) s.heap.size = A at hD hXZ ⊢
  have hA : ∀ q : Nat, s.heap.size ≤ q → A q := fun q h => by rw [← hAe]; exact Or.inr h
  have hS : va_S A s.heap s.heap [] := va_S.rf
  have hl := lv_entry ([.ref (av 0), .ref (bv 0), .int (nI X)]) (n := 6) (Nat.le_of_ble_eq_true rfl)
  rw [lg_entry_eq]
  generalize (lg_sl ([.ref (av 0), .ref (bv 0), .int (nI X)]) ++ List.replicate (6 - (lg_sl ([.ref (av 0), .ref (bv 0), .int (nI X)])).length) Slot.unset).toArray = ls at hl ⊢
  have hl : lv_has ls 6 [(0, .ref (av 0)), (1, .ref (bv 0)), (2, .int (nI X))] := hl
  obtain ⟨N, e0, b0, b1, hN⟩ : ∃ N, S.2.2.1 0 = nI N ∧ 4 ≤ N ∧ N ≤ 32 ∧ nN (S.2.2.1 0) = N := by
    obtain ⟨q0, -, -, -, q4, q5, -⟩ := m_num hG.gd
    exact ⟨_, q0, q4, q5, rfl⟩
  have loop2 : ∀ (d j : Nat), j + d = N + 1 → ∀ (c1 c2 : gR) (ga gb gc gd : Nat → Nat × Nat × Nat) (H : Heap) (locs : List Loc) (ls : Array Slot), va_P D vwCl (oW y av ga gb (sRc S c1) ++ oW y bv gc gd (sRc S c2)) H → va_D A (oW y av ga gb (sRc S c1) ++ oW y bv gc gd (sRc S c2)) → va_S A s.heap H locs → lv_has ls 6 [(0, .ref (av 0)), (1, .ref (bv 0)), (2, .int (nI X)), (3, .int (nI N)), (4, .int 1), (5, .int (nI j))] → W p l e (headSpec wsL_alike ({ frames := 10, cells := 1500, slots := 27000, locals := 202 })).room s m ([.ref (av 0), .ref (bv 0), .int (nI X)] : List Value).toArray below meth c H locs (300 + 30 * j) (5600 + 560 * j) (MQ below (va_Qi (fun (v : Int32) (u : oS × oS) => v = 1 ∧ ∃ d1 d2, u = (sRc S d1, sRc S d2)) (fun (u : oS × oS) t => ∃ (g1 g2 : (Nat → Nat × Nat × Nat) × (Nat → Nat × Nat × Nat)), va_P D vwCl (oW y av g1.1 g1.2 u.1 ++ oW y bv g2.1 g2.2 u.2) t.heap ∧ va_D A (oW y av g1.1 g1.2 u.1 ++ oW y bv g2.1 g2.2 u.2)) A) ([.ref (av 0), .ref (bv 0), .int (nI X)] : List Value).toArray s 1500 27000 A) (F0 m 118 ls []) := by
    intro d
    induction d with
    | zero =>
      intro j hj c1 c2 ga gb gc gd H locs ls hP hD hS hl
      obtain rfl : j = N + 1 := by omega
      refine lv_iload hx hb dL_alike_118 (lv_at hl 5 rfl) ?_
      refine lv_iload_n hx hb dL_alike_120 rfl (lv_at hl 3 rfl) ?_
      refine lv_icmp_gt (tgt := 207) hx hb dL_alike_121 (by decide) (fun cb1 => ?_) (fun cb1 => absurd (nI_lt (a := N) (b := N + 1) (by omega) (by omega)) cb1)
      refine lv_iload hx hb dL_alike_207 (lv_at hl 4 rfl) ?_
      refine W.widen (k := 1500) (n := 27000) (by omega) (by omega) ?_
      exact W.zret (v := 1) hx hb hr rfl (fun t ht hW => ⟨⟨1, (sRc S c1, sRc S c2), rfl, ⟨rfl, _, _, rfl⟩, (ga, gb), (gc, gd), by rw [ht]; exact hP, hD⟩, hS.F ht⟩) hS.2.2 dL_alike_209
    | succ d ih =>
      intro j hj c1 c2 ga gb gc gd H locs ls hP hD hS hl
      refine lv_iload hx hb dL_alike_118 (lv_at hl 5 rfl) ?_
      refine lv_iload_n hx hb dL_alike_120 rfl (lv_at hl 3 rfl) ?_
      refine lv_icmp_gt (tgt := 207) hx hb dL_alike_121 (by decide) (fun cb2 => absurd cb2 (nI_nlt (a := N) (b := j) (by omega) (by omega))) (fun cb2 => ?_)
      refine lv_iload hx hb dL_alike_124 (lv_at hl 4 rfl) ?_
      refine lv_if_eq (tgt := 207) hx hb dL_alike_126 (by decide) (fun cb3 => absurd cb3 (by decide)) (fun cb3 => ?_)
      refine lv_aload_n hx hb dL_alike_129 rfl (lv_at hl 0 rfl) ?_
      refine lv_bipush (v := 6) hx hb dL_alike_130 (by decide) ?_
      refine lv_iload hx hb dL_alike_132 (lv_at hl 5 rfl) ?_
      refine lv_iconst (v := 0) hx hb dL_alike_134 (by decide) ?_
      refine lv_iconst (v := 0) hx hb dL_alike_135 (by decide) ?_
      have k4 : fCall (sRc S c1) 6 (nI j) 0 0 = (f_L_tryWear S.2.2.1 (nI j), sRc S c1) := fc_tryWear (sRc S c1) (nI j) 0 0
      have hP := xa_permP List.perm_append_comm hP
      have hD := xa_permD List.perm_append_comm hD
      refine xl_callEi (ex := oW y bv gc gd (sRc S c2)) (va_runS (As := [.ref (av 0), .int 6, .int (nI j), .int 0, .int 0]) (rest := []) ⟨hx, hb, hml, hown, hts⟩ (c_call l hst D y av ga gb H.size (sRc S c1) 6 (nI j) 0 0 hG.ok) (va_cwS 5 hts gL_alike_L_call rfl rfl rfl hd_L_call ⟨Nat.le_of_ble_eq_true rfl, Nat.le_of_ble_eq_true rfl⟩) (lS hE hXE hLN hXZ hS hA (law_subE hP) (law_subD hD)) rfl rfl hl.1 rfl (lv_room (Nat.le_of_ble_eq_true rfl)) dL_alike_136 ⟨by show _ ≤ 1500; omega, by show _ ≤ 27000; omega⟩) hP hD hS hA (fun v5 u6 ga8 gb9 H locs h7 hP hD hS => ?_)
      have hP := xa_permP List.perm_append_comm hP
      have hD := xa_permD List.perm_append_comm hD
      obtain ⟨rfl, rfl⟩ := Prod.mk.inj (k4.symm.trans h7)
      refine lv_aload_n hx hb dL_alike_139 rfl (lv_at hl 1 rfl) ?_
      refine lv_bipush (v := 6) hx hb dL_alike_140 (by decide) ?_
      refine lv_iload hx hb dL_alike_142 (lv_at hl 5 rfl) ?_
      refine lv_iconst (v := 0) hx hb dL_alike_144 (by decide) ?_
      refine lv_iconst (v := 0) hx hb dL_alike_145 (by decide) ?_
      have k10 : fCall (sRc S c2) 6 (nI j) 0 0 = (f_L_tryWear S.2.2.1 (nI j), sRc S c2) := fc_tryWear (sRc S c2) (nI j) 0 0
      refine xl_callEi (ex := oW y av ga8 gb9 (sRc S c1)) (va_runS (As := [.ref (bv 0), .int 6, .int (nI j), .int 0, .int 0]) (rest := [.int (f_L_tryWear S.2.2.1 (nI j))]) ⟨hx, hb, hml, hown, hts⟩ (c_call l hst D y bv gc gd H.size (sRc S c2) 6 (nI j) 0 0 hG.ok) (va_cwS 5 hts gL_alike_L_call rfl rfl rfl hd_L_call ⟨Nat.le_of_ble_eq_true rfl, Nat.le_of_ble_eq_true rfl⟩) (lS hE hXE hLN hXZ hS hA (law_subE hP) (law_subD hD)) rfl rfl hl.1 rfl (lv_room (Nat.le_of_ble_eq_true rfl)) dL_alike_146 ⟨by show _ ≤ 1500; omega, by show _ ≤ 27000; omega⟩) hP hD hS hA (fun v11 u12 ga14 gb15 H locs h13 hP hD hS => ?_)
      obtain ⟨rfl, rfl⟩ := Prod.mk.inj (k10.symm.trans h13)
      refine lv_icmp_ne (tgt := 198) hx hb dL_alike_149 (by decide) (fun cb16 => absurd rfl cb16) (fun cb16 => ?_)
      refine lv_aload_n hx hb dL_alike_152 rfl (lv_at hl 0 rfl) ?_
      refine lv_iconst (v := 5) hx hb dL_alike_153 (by decide) ?_
      refine lv_iload hx hb dL_alike_154 (lv_at hl 5 rfl) ?_
      refine lv_iconst (v := 0) hx hb dL_alike_156 (by decide) ?_
      refine lv_iconst (v := 0) hx hb dL_alike_157 (by decide) ?_
      have k17 : fCall (sRc S c1) 5 (nI j) 0 0 = (f_L_tryLine S.2.2.1 (nI j), sRc S c1) := fc_tryLine (sRc S c1) (nI j) 0 0
      have hP := xa_permP List.perm_append_comm hP
      have hD := xa_permD List.perm_append_comm hD
      refine xl_callEi (ex := oW y bv ga14 gb15 (sRc S c2)) (va_runS (As := [.ref (av 0), .int 5, .int (nI j), .int 0, .int 0]) (rest := []) ⟨hx, hb, hml, hown, hts⟩ (c_call l hst D y av ga8 gb9 H.size (sRc S c1) 5 (nI j) 0 0 hG.ok) (va_cwS 5 hts gL_alike_L_call rfl rfl rfl hd_L_call ⟨Nat.le_of_ble_eq_true rfl, Nat.le_of_ble_eq_true rfl⟩) (lS hE hXE hLN hXZ hS hA (law_subE hP) (law_subD hD)) rfl rfl hl.1 rfl (lv_room (Nat.le_of_ble_eq_true rfl)) dL_alike_158 ⟨by show _ ≤ 1500; omega, by show _ ≤ 27000; omega⟩) hP hD hS hA (fun v18 u19 ga21 gb22 H locs h20 hP hD hS => ?_)
      have hP := xa_permP List.perm_append_comm hP
      have hD := xa_permD List.perm_append_comm hD
      obtain ⟨rfl, rfl⟩ := Prod.mk.inj (k17.symm.trans h20)
      refine lv_aload_n hx hb dL_alike_161 rfl (lv_at hl 1 rfl) ?_
      refine lv_iconst (v := 5) hx hb dL_alike_162 (by decide) ?_
      refine lv_iload hx hb dL_alike_163 (lv_at hl 5 rfl) ?_
      refine lv_iconst (v := 0) hx hb dL_alike_165 (by decide) ?_
      refine lv_iconst (v := 0) hx hb dL_alike_166 (by decide) ?_
      have k23 : fCall (sRc S c2) 5 (nI j) 0 0 = (f_L_tryLine S.2.2.1 (nI j), sRc S c2) := fc_tryLine (sRc S c2) (nI j) 0 0
      refine xl_callEi (ex := oW y av ga21 gb22 (sRc S c1)) (va_runS (As := [.ref (bv 0), .int 5, .int (nI j), .int 0, .int 0]) (rest := [.int (f_L_tryLine S.2.2.1 (nI j))]) ⟨hx, hb, hml, hown, hts⟩ (c_call l hst D y bv ga14 gb15 H.size (sRc S c2) 5 (nI j) 0 0 hG.ok) (va_cwS 5 hts gL_alike_L_call rfl rfl rfl hd_L_call ⟨Nat.le_of_ble_eq_true rfl, Nat.le_of_ble_eq_true rfl⟩) (lS hE hXE hLN hXZ hS hA (law_subE hP) (law_subD hD)) rfl rfl hl.1 rfl (lv_room (Nat.le_of_ble_eq_true rfl)) dL_alike_167 ⟨by show _ ≤ 1500; omega, by show _ ≤ 27000; omega⟩) hP hD hS hA (fun v24 u25 ga27 gb28 H locs h26 hP hD hS => ?_)
      obtain ⟨rfl, rfl⟩ := Prod.mk.inj (k23.symm.trans h26)
      refine lv_icmp_ne (tgt := 198) hx hb dL_alike_170 (by decide) (fun cb29 => absurd rfl cb29) (fun cb29 => ?_)
      refine lv_aload_n hx hb dL_alike_173 rfl (lv_at hl 0 rfl) ?_
      refine lv_iconst (v := 3) hx hb dL_alike_174 (by decide) ?_
      refine lv_iload hx hb dL_alike_175 (lv_at hl 5 rfl) ?_
      refine lv_iconst (v := 0) hx hb dL_alike_177 (by decide) ?_
      refine lv_iconst (v := 0) hx hb dL_alike_178 (by decide) ?_
      have k30 : fCall (sRc S c1) 3 (nI j) 0 0 = (f_L_tryRead S.2.2.1 (nI j), sRc S c1) := fc_tryRead (sRc S c1) (nI j) 0 0
      have hP := xa_permP List.perm_append_comm hP
      have hD := xa_permD List.perm_append_comm hD
      refine xl_callEi (ex := oW y bv ga27 gb28 (sRc S c2)) (va_runS (As := [.ref (av 0), .int 3, .int (nI j), .int 0, .int 0]) (rest := []) ⟨hx, hb, hml, hown, hts⟩ (c_call l hst D y av ga21 gb22 H.size (sRc S c1) 3 (nI j) 0 0 hG.ok) (va_cwS 5 hts gL_alike_L_call rfl rfl rfl hd_L_call ⟨Nat.le_of_ble_eq_true rfl, Nat.le_of_ble_eq_true rfl⟩) (lS hE hXE hLN hXZ hS hA (law_subE hP) (law_subD hD)) rfl rfl hl.1 rfl (lv_room (Nat.le_of_ble_eq_true rfl)) dL_alike_179 ⟨by show _ ≤ 1500; omega, by show _ ≤ 27000; omega⟩) hP hD hS hA (fun v31 u32 ga34 gb35 H locs h33 hP hD hS => ?_)
      have hP := xa_permP List.perm_append_comm hP
      have hD := xa_permD List.perm_append_comm hD
      obtain ⟨rfl, rfl⟩ := Prod.mk.inj (k30.symm.trans h33)
      refine lv_aload_n hx hb dL_alike_182 rfl (lv_at hl 1 rfl) ?_
      refine lv_iconst (v := 3) hx hb dL_alike_183 (by decide) ?_
      refine lv_iload hx hb dL_alike_184 (lv_at hl 5 rfl) ?_
      refine lv_iconst (v := 0) hx hb dL_alike_186 (by decide) ?_
      refine lv_iconst (v := 0) hx hb dL_alike_187 (by decide) ?_
      have k36 : fCall (sRc S c2) 3 (nI j) 0 0 = (f_L_tryRead S.2.2.1 (nI j), sRc S c2) := fc_tryRead (sRc S c2) (nI j) 0 0
      refine xl_callEi (ex := oW y av ga34 gb35 (sRc S c1)) (va_runS (As := [.ref (bv 0), .int 3, .int (nI j), .int 0, .int 0]) (rest := [.int (f_L_tryRead S.2.2.1 (nI j))]) ⟨hx, hb, hml, hown, hts⟩ (c_call l hst D y bv ga27 gb28 H.size (sRc S c2) 3 (nI j) 0 0 hG.ok) (va_cwS 5 hts gL_alike_L_call rfl rfl rfl hd_L_call ⟨Nat.le_of_ble_eq_true rfl, Nat.le_of_ble_eq_true rfl⟩) (lS hE hXE hLN hXZ hS hA (law_subE hP) (law_subD hD)) rfl rfl hl.1 rfl (lv_room (Nat.le_of_ble_eq_true rfl)) dL_alike_188 ⟨by show _ ≤ 1500; omega, by show _ ≤ 27000; omega⟩) hP hD hS hA (fun v37 u38 ga40 gb41 H locs h39 hP hD hS => ?_)
      obtain ⟨rfl, rfl⟩ := Prod.mk.inj (k36.symm.trans h39)
      refine lv_icmp_ne (tgt := 198) hx hb dL_alike_191 (by decide) (fun cb42 => absurd rfl cb42) (fun cb42 => ?_)
      refine lv_iconst (v := 1) hx hb dL_alike_194 (by decide) ?_
      refine lv_goto (tgt := 199) hx hb dL_alike_195 (by decide) ?_
      refine lv_istore (lv' := [(4, .int 1), (0, .ref (av 0)), (1, .ref (bv 0)), (2, .int (nI X)), (3, .int (nI N)), (5, .int (nI j))]) hx hb dL_alike_199 hl (by decide) rfl (fun ls hl => ?_)
      refine lv_iinc (v := nI (j + 1)) (lv' := [(5, .int (nI (j + 1))), (4, .int 1), (0, .ref (av 0)), (1, .ref (bv 0)), (2, .int (nI X)), (3, .int (nI N))]) hx hb dL_alike_201 hl (k := 5) rfl (nI_add j 1) (by decide) rfl (fun ls hl => ?_)
      refine lv_goto (tgt := 118) hx hb dL_alike_204 (by decide) ?_
      refine W.widen (k := 300 + 30 * (j + 1)) (n := 5600 + 560 * (j + 1)) (by omega) (by omega) ?_
      exact ih (j + 1) (by omega) c1 c2 ga34 gb35 ga40 gb41 H locs ls hP hD hS (lv_sub hl [2, 3, 4, 5, 1, 0] rfl)
  have loop1 : ∀ (d j : Nat), j + d = 12 → ∀ (c1 c2 : gR) (ga gb gc gd : Nat → Nat × Nat × Nat) (H : Heap) (locs : List Loc) (ls : Array Slot), va_P D vwCl (oW y av ga gb (sRc S c1) ++ oW y bv gc gd (sRc S c2)) H → va_D A (oW y av ga gb (sRc S c1) ++ oW y bv gc gd (sRc S c2)) → va_S A s.heap H locs → lv_has ls 6 [(0, .ref (av 0)), (1, .ref (bv 0)), (2, .int (nI X)), (3, .int (nI N)), (4, .int 1), (5, .int (nI j))] → W p l e (headSpec wsL_alike ({ frames := 10, cells := 1500, slots := 27000, locals := 202 })).room s m ([.ref (av 0), .ref (bv 0), .int (nI X)] : List Value).toArray below meth c H locs (20 + 20 * j) (400 + 380 * j) (MQ below (va_Qi (fun (v : Int32) (u : oS × oS) => v = 1 ∧ ∃ d1 d2, u = (sRc S d1, sRc S d2)) (fun (u : oS × oS) t => ∃ (g1 g2 : (Nat → Nat × Nat × Nat) × (Nat → Nat × Nat × Nat)), va_P D vwCl (oW y av g1.1 g1.2 u.1 ++ oW y bv g2.1 g2.2 u.2) t.heap ∧ va_D A (oW y av g1.1 g1.2 u.1 ++ oW y bv g2.1 g2.2 u.2)) A) ([.ref (av 0), .ref (bv 0), .int (nI X)] : List Value).toArray s 1500 27000 A) (F0 m 46 ls []) := by
    intro d
    induction d with
    | zero =>
      intro j hj c1 c2 ga gb gc gd H locs ls hP hD hS hl
      obtain rfl : j = 12 := by omega
      refine lv_iload hx hb dL_alike_46 (lv_at hl 5 rfl) ?_
      refine lv_bipush (v := 12) hx hb dL_alike_48 (by decide) ?_
      refine lv_icmp_ge (tgt := 115) hx hb dL_alike_50 (by decide) (fun cb43 => ?_) (fun cb43 => absurd (nI_le (a := 12) (b := 12) (by omega) (by omega)) cb43)
      refine lv_iconst (v := 0) hx hb dL_alike_115 (by decide) ?_
      refine lv_istore (lv' := [(5, .int 0), (0, .ref (av 0)), (1, .ref (bv 0)), (2, .int (nI X)), (3, .int (nI N)), (4, .int 1)]) hx hb dL_alike_116 hl (by decide) rfl (fun ls hl => ?_)
      refine W.widen (k := 300 + 30 * 0) (n := 5600 + 560 * 0) (by omega) (by omega) ?_
      exact loop2 (N + 1) 0 (by omega) c1 c2 ga gb gc gd H locs ls hP hD hS (lv_sub hl [1, 2, 3, 4, 5, 0] rfl)
    | succ d ih =>
      intro j hj c1 c2 ga gb gc gd H locs ls hP hD hS hl
      refine lv_iload hx hb dL_alike_46 (lv_at hl 5 rfl) ?_
      refine lv_bipush (v := 12) hx hb dL_alike_48 (by decide) ?_
      refine lv_icmp_ge (tgt := 115) hx hb dL_alike_50 (by decide) (fun cb44 => absurd cb44 (nI_ge (a := j) (b := 12) (by omega) (by omega))) (fun cb44 => ?_)
      refine lv_iload hx hb dL_alike_53 (lv_at hl 4 rfl) ?_
      refine lv_if_eq (tgt := 115) hx hb dL_alike_55 (by decide) (fun cb45 => absurd cb45 (by decide)) (fun cb45 => ?_)
      refine lv_aload_n hx hb dL_alike_58 rfl (lv_at hl 0 rfl) ?_
      refine lv_iconst (v := 2) hx hb dL_alike_59 (by decide) ?_
      refine lv_iload hx hb dL_alike_60 (lv_at hl 5 rfl) ?_
      refine lv_iconst (v := 0) hx hb dL_alike_62 (by decide) ?_
      refine lv_iconst (v := 0) hx hb dL_alike_63 (by decide) ?_
      have k46 : fCall (sRc S c1) 2 (nI j) 0 0 = (f_L_tryAbout S.2.2.1 (nI j), sRc S c1) := fc_tryAbout (sRc S c1) (nI j) 0 0
      have hP := xa_permP List.perm_append_comm hP
      have hD := xa_permD List.perm_append_comm hD
      refine xl_callEi (ex := oW y bv gc gd (sRc S c2)) (va_runS (As := [.ref (av 0), .int 2, .int (nI j), .int 0, .int 0]) (rest := []) ⟨hx, hb, hml, hown, hts⟩ (c_call l hst D y av ga gb H.size (sRc S c1) 2 (nI j) 0 0 hG.ok) (va_cwS 5 hts gL_alike_L_call rfl rfl rfl hd_L_call ⟨Nat.le_of_ble_eq_true rfl, Nat.le_of_ble_eq_true rfl⟩) (lS hE hXE hLN hXZ hS hA (law_subE hP) (law_subD hD)) rfl rfl hl.1 rfl (lv_room (Nat.le_of_ble_eq_true rfl)) dL_alike_64 ⟨by show _ ≤ 1500; omega, by show _ ≤ 27000; omega⟩) hP hD hS hA (fun v47 u48 ga50 gb51 H locs h49 hP hD hS => ?_)
      have hP := xa_permP List.perm_append_comm hP
      have hD := xa_permD List.perm_append_comm hD
      obtain ⟨rfl, rfl⟩ := Prod.mk.inj (k46.symm.trans h49)
      refine lv_aload_n hx hb dL_alike_67 rfl (lv_at hl 1 rfl) ?_
      refine lv_iconst (v := 2) hx hb dL_alike_68 (by decide) ?_
      refine lv_iload hx hb dL_alike_69 (lv_at hl 5 rfl) ?_
      refine lv_iconst (v := 0) hx hb dL_alike_71 (by decide) ?_
      refine lv_iconst (v := 0) hx hb dL_alike_72 (by decide) ?_
      have k52 : fCall (sRc S c2) 2 (nI j) 0 0 = (f_L_tryAbout S.2.2.1 (nI j), sRc S c2) := fc_tryAbout (sRc S c2) (nI j) 0 0
      refine xl_callEi (ex := oW y av ga50 gb51 (sRc S c1)) (va_runS (As := [.ref (bv 0), .int 2, .int (nI j), .int 0, .int 0]) (rest := [.int (f_L_tryAbout S.2.2.1 (nI j))]) ⟨hx, hb, hml, hown, hts⟩ (c_call l hst D y bv gc gd H.size (sRc S c2) 2 (nI j) 0 0 hG.ok) (va_cwS 5 hts gL_alike_L_call rfl rfl rfl hd_L_call ⟨Nat.le_of_ble_eq_true rfl, Nat.le_of_ble_eq_true rfl⟩) (lS hE hXE hLN hXZ hS hA (law_subE hP) (law_subD hD)) rfl rfl hl.1 rfl (lv_room (Nat.le_of_ble_eq_true rfl)) dL_alike_73 ⟨by show _ ≤ 1500; omega, by show _ ≤ 27000; omega⟩) hP hD hS hA (fun v53 u54 ga56 gb57 H locs h55 hP hD hS => ?_)
      obtain ⟨rfl, rfl⟩ := Prod.mk.inj (k52.symm.trans h55)
      refine lv_icmp_ne (tgt := 106) hx hb dL_alike_76 (by decide) (fun cb58 => absurd rfl cb58) (fun cb58 => ?_)
      refine lv_aload_n hx hb dL_alike_79 rfl (lv_at hl 0 rfl) ?_
      refine lv_bipush (v := 7) hx hb dL_alike_80 (by decide) ?_
      refine lv_iload hx hb dL_alike_82 (lv_at hl 5 rfl) ?_
      refine lv_iconst (v := 0) hx hb dL_alike_84 (by decide) ?_
      refine lv_iconst (v := 0) hx hb dL_alike_85 (by decide) ?_
      have k59 : fCall (sRc S c1) 7 (nI j) 0 0 = (f_L_trySetting S.2.2.1 (nI j), sRc S c1) := fc_trySetting (sRc S c1) (nI j) 0 0
      have hP := xa_permP List.perm_append_comm hP
      have hD := xa_permD List.perm_append_comm hD
      refine xl_callEi (ex := oW y bv ga56 gb57 (sRc S c2)) (va_runS (As := [.ref (av 0), .int 7, .int (nI j), .int 0, .int 0]) (rest := []) ⟨hx, hb, hml, hown, hts⟩ (c_call l hst D y av ga50 gb51 H.size (sRc S c1) 7 (nI j) 0 0 hG.ok) (va_cwS 5 hts gL_alike_L_call rfl rfl rfl hd_L_call ⟨Nat.le_of_ble_eq_true rfl, Nat.le_of_ble_eq_true rfl⟩) (lS hE hXE hLN hXZ hS hA (law_subE hP) (law_subD hD)) rfl rfl hl.1 rfl (lv_room (Nat.le_of_ble_eq_true rfl)) dL_alike_86 ⟨by show _ ≤ 1500; omega, by show _ ≤ 27000; omega⟩) hP hD hS hA (fun v60 u61 ga63 gb64 H locs h62 hP hD hS => ?_)
      have hP := xa_permP List.perm_append_comm hP
      have hD := xa_permD List.perm_append_comm hD
      obtain ⟨rfl, rfl⟩ := Prod.mk.inj (k59.symm.trans h62)
      refine lv_aload_n hx hb dL_alike_89 rfl (lv_at hl 1 rfl) ?_
      refine lv_bipush (v := 7) hx hb dL_alike_90 (by decide) ?_
      refine lv_iload hx hb dL_alike_92 (lv_at hl 5 rfl) ?_
      refine lv_iconst (v := 0) hx hb dL_alike_94 (by decide) ?_
      refine lv_iconst (v := 0) hx hb dL_alike_95 (by decide) ?_
      have k65 : fCall (sRc S c2) 7 (nI j) 0 0 = (f_L_trySetting S.2.2.1 (nI j), sRc S c2) := fc_trySetting (sRc S c2) (nI j) 0 0
      refine xl_callEi (ex := oW y av ga63 gb64 (sRc S c1)) (va_runS (As := [.ref (bv 0), .int 7, .int (nI j), .int 0, .int 0]) (rest := [.int (f_L_trySetting S.2.2.1 (nI j))]) ⟨hx, hb, hml, hown, hts⟩ (c_call l hst D y bv ga56 gb57 H.size (sRc S c2) 7 (nI j) 0 0 hG.ok) (va_cwS 5 hts gL_alike_L_call rfl rfl rfl hd_L_call ⟨Nat.le_of_ble_eq_true rfl, Nat.le_of_ble_eq_true rfl⟩) (lS hE hXE hLN hXZ hS hA (law_subE hP) (law_subD hD)) rfl rfl hl.1 rfl (lv_room (Nat.le_of_ble_eq_true rfl)) dL_alike_96 ⟨by show _ ≤ 1500; omega, by show _ ≤ 27000; omega⟩) hP hD hS hA (fun v66 u67 ga69 gb70 H locs h68 hP hD hS => ?_)
      obtain ⟨rfl, rfl⟩ := Prod.mk.inj (k65.symm.trans h68)
      refine lv_icmp_ne (tgt := 106) hx hb dL_alike_99 (by decide) (fun cb71 => absurd rfl cb71) (fun cb71 => ?_)
      refine lv_iconst (v := 1) hx hb dL_alike_102 (by decide) ?_
      refine lv_goto (tgt := 107) hx hb dL_alike_103 (by decide) ?_
      refine lv_istore (lv' := [(4, .int 1), (0, .ref (av 0)), (1, .ref (bv 0)), (2, .int (nI X)), (3, .int (nI N)), (5, .int (nI j))]) hx hb dL_alike_107 hl (by decide) rfl (fun ls hl => ?_)
      refine lv_iinc (v := nI (j + 1)) (lv' := [(5, .int (nI (j + 1))), (4, .int 1), (0, .ref (av 0)), (1, .ref (bv 0)), (2, .int (nI X)), (3, .int (nI N))]) hx hb dL_alike_109 hl (k := 5) rfl (nI_add j 1) (by decide) rfl (fun ls hl => ?_)
      refine lv_goto (tgt := 46) hx hb dL_alike_112 (by decide) ?_
      refine W.widen (k := 20 + 20 * (j + 1)) (n := 400 + 380 * (j + 1)) (by omega) (by omega) ?_
      exact ih (j + 1) (by omega) c1 c2 ga63 gb64 ga69 gb70 H locs ls hP hD hS (lv_sub hl [2, 3, 4, 5, 1, 0] rfl)
  refine lv_aload_n hx hb dL_alike_0 rfl (lv_at hl 0 rfl) ?_
  refine lv_iconst (v := 2) hx hb dL_alike_1 (by decide) ?_
  refine lv_iconst (v := 0) hx hb dL_alike_2 (by decide) ?_
  refine lv_iconst (v := 0) hx hb dL_alike_3 (by decide) ?_
  refine lv_iconst (v := 0) hx hb dL_alike_4 (by decide) ?_
  have k72 : fCall S 2 0 0 0 = (nI N, S) := (s_ab0 S 0 0).trans (by rw [e0])
  have hP := xa_permP List.perm_append_comm hP
  have hD := xa_permD List.perm_append_comm hD
  refine xl_callEi (ex := oW y bv gc gd (sRc S c0)) (va_runS (As := [.ref (av 0), .int 2, .int 0, .int 0, .int 0]) (rest := []) ⟨hx, hb, hml, hown, hts⟩ (c_call l hst D y av ga gb s.heap.size S 2 0 0 0 hG.ok) (va_cwS 5 hts gL_alike_L_call rfl rfl rfl hd_L_call ⟨Nat.le_of_ble_eq_true rfl, Nat.le_of_ble_eq_true rfl⟩) (lS hE hXE hLN hXZ hS hA (law_subE hP) (law_subD hD)) rfl rfl hl.1 rfl (lv_room (Nat.le_of_ble_eq_true rfl)) dL_alike_5 ⟨Nat.le_of_ble_eq_true rfl, Nat.le_of_ble_eq_true rfl⟩) hP hD hS hA (fun v73 u74 ga76 gb77 H locs h75 hP hD hS => ?_)
  have hP := xa_permP List.perm_append_comm hP
  have hD := xa_permD List.perm_append_comm hD
  obtain ⟨rfl, rfl⟩ := Prod.mk.inj (k72.symm.trans h75)
  refine lv_istore_n (lv' := [(3, .int (nI N)), (0, .ref (av 0)), (1, .ref (bv 0)), (2, .int (nI X))]) hx hb dL_alike_8 rfl hl (by decide) rfl (fun ls hl => ?_)
  refine lv_aload_n hx hb dL_alike_9 rfl (lv_at hl 1 rfl) ?_
  refine lv_iload_n hx hb dL_alike_10 rfl (lv_at hl 3 rfl) ?_
  refine lv_i2l (v := (nI X).toInt64) hx hb dL_alike_11 rfl ?_
  refine lv_iconst (v := 1) hx hb dL_alike_12 (by decide) ?_
  refine lv_iload_n hx hb dL_alike_13 rfl (lv_at hl 3 rfl) ?_
  refine lv_bipush (v := 50) hx hb dL_alike_14 (by decide) ?_
  refine lv_irem hx hb dL_alike_16 (by decide) ?_
  refine lv_topi (fun z78 ez78 => ?_)
  obtain rfl : z78 = nI (X % 50) := ez78.trans ((pk_rem (a := X) (d := 50) (by omega) (by omega) (by omega) : nI X - nI X / nI 50 * nI 50 = _))
  refine lv_iadd hx hb dL_alike_17 ?_
  refine lv_topi (fun z79 ez79 => ?_)
  obtain rfl : z79 = nI (1 + (X % 50)) := ez79.trans ((nI_add 1 (X % 50) : nI 1 + nI (X % 50) = _))
  obtain ⟨sv, c1, k80⟩ : ∃ v c, fSim S ((nI X).toInt64) (nI (1 + (X % 50))) = (v, sRc S c) := ⟨_, _, rfl⟩
  have ksim := k80
  refine xl_calli (vx_runSW (As := [.ref (av 0), .long ((nI X).toInt64), .int (nI (1 + (X % 50)))]) (rest := []) ⟨hx, hb, hml, hown, hts⟩ (c_L_doSimulate l hst D y (av 0) (av 1) (av 2) (av 3) (av 4) (av 5) (av 7) (av 8) (av 9) (av 10) H.size (S.2.2.1) (S.2.2.2.1) ((nI X).toInt64) (nI (1 + (X % 50))) (hG.ok).2.1) (vx_cwSW 3 hts gL_alike_L_doSimulate rfl rfl rfl hd_L_doSimulate ⟨Nat.le_of_ble_eq_true rfl, Nat.le_of_ble_eq_true rfl⟩) (lS hE hXE hLN hXZ hS hA (hP.sub [0, 3, 4, 5, 6, 7, 8] rfl) (hD.sub [0, 3, 4, 5, 6, 7, 8] (by decide) rfl)) rfl rfl hl.1 rfl (lv_room (Nat.le_of_ble_eq_true rfl)) dL_alike_18 ⟨Nat.le_of_ble_eq_true rfl, Nat.le_of_ble_eq_true rfl⟩) hP hD hS hA [0, 3, 4, 5, 6, 7, 8] rfl (by decide) (fun _ => rfl) (fun v81 u82 H locs h83 hP hD hS => ?_)
  have h832 : fSim S ((nI X).toInt64) (nI (1 + (X % 50))) = (v81, (S.1, S.2.1, S.2.2.1, u82, S.2.2.2.2)) := by unfold fSim; rw [h83]
  obtain ⟨h833, h834⟩ := Prod.mk.inj (k80.symm.trans h832)
  obtain rfl : sv = v81 := h833
  have hP : va_P D vwCl (oW y av ga76 gb77 (S.1, S.2.1, S.2.2.1, u82, S.2.2.2.2) ++ oW y bv gc gd (sRc S c0)) H := hP
  have hD : va_D A (oW y av ga76 gb77 (S.1, S.2.1, S.2.2.1, u82, S.2.2.2.2) ++ oW y bv gc gd (sRc S c0)) := hD
  rw [← h834] at hP hD
  refine lv_aload_n hx hb dL_alike_21 rfl (lv_at hl 2 rfl) ?_
  refine lv_iload_n hx hb dL_alike_22 rfl (lv_at hl 3 rfl) ?_
  refine lv_i2l (v := (nI X).toInt64) hx hb dL_alike_23 rfl ?_
  refine lv_iconst (v := 1) hx hb dL_alike_24 (by decide) ?_
  refine lv_iload_n hx hb dL_alike_25 rfl (lv_at hl 3 rfl) ?_
  refine lv_bipush (v := 50) hx hb dL_alike_26 (by decide) ?_
  refine lv_irem hx hb dL_alike_28 (by decide) ?_
  refine lv_topi (fun z84 ez84 => ?_)
  obtain rfl : z84 = nI (X % 50) := ez84.trans ((pk_rem (a := X) (d := 50) (by omega) (by omega) (by omega) : nI X - nI X / nI 50 * nI 50 = _))
  refine lv_iadd hx hb dL_alike_29 ?_
  refine lv_topi (fun z85 ez85 => ?_)
  obtain rfl : z85 = nI (1 + (X % 50)) := ez85.trans ((nI_add 1 (X % 50) : nI 1 + nI (X % 50) = _))
  obtain ⟨c2, ksim2⟩ := fSim_rc S c0 (nI X).toInt64 (nI (1 + (X % 50)))
  rw [ksim] at ksim2
  have k86 : fSim (sRc S c0) ((nI X).toInt64) (nI (1 + (X % 50))) = (sv, sRc S c2) := ksim2
  have hP := xa_permP List.perm_append_comm hP
  have hD := xa_permD List.perm_append_comm hD
  refine xl_calli (vx_runSW (As := [.ref (bv 0), .long ((nI X).toInt64), .int (nI (1 + (X % 50)))]) (rest := [.int sv]) ⟨hx, hb, hml, hown, hts⟩ (c_L_doSimulate l hst D y (bv 0) (bv 1) (bv 2) (bv 3) (bv 4) (bv 5) (bv 7) (bv 8) (bv 9) (bv 10) H.size ((sRc S c0).2.2.1) ((sRc S c0).2.2.2.1) ((nI X).toInt64) (nI (1 + (X % 50))) (hG.ok).2.1) (vx_cwSW 3 hts gL_alike_L_doSimulate rfl rfl rfl hd_L_doSimulate ⟨Nat.le_of_ble_eq_true rfl, Nat.le_of_ble_eq_true rfl⟩) (lS hE hXE hLN hXZ hS hA (hP.sub [0, 3, 4, 5, 6, 7, 8] rfl) (hD.sub [0, 3, 4, 5, 6, 7, 8] (by decide) rfl)) rfl rfl hl.1 rfl (lv_room (Nat.le_of_ble_eq_true rfl)) dL_alike_30 ⟨Nat.le_of_ble_eq_true rfl, Nat.le_of_ble_eq_true rfl⟩) hP hD hS hA [0, 3, 4, 5, 6, 7, 8] rfl (by decide) (fun _ => rfl) (fun v87 u88 H locs h89 hP hD hS => ?_)
  have h892 : fSim (sRc S c0) ((nI X).toInt64) (nI (1 + (X % 50))) = (v87, ((sRc S c0).1, (sRc S c0).2.1, (sRc S c0).2.2.1, u88, (sRc S c0).2.2.2.2)) := by unfold fSim; rw [h89]
  obtain ⟨h893, h894⟩ := Prod.mk.inj (k86.symm.trans h892)
  obtain rfl : sv = v87 := h893
  have hP : va_P D vwCl (oW y bv gc gd ((sRc S c0).1, (sRc S c0).2.1, (sRc S c0).2.2.1, u88, (sRc S c0).2.2.2.2) ++ oW y av ga76 gb77 (sRc S c1)) H := hP
  have hD : va_D A (oW y bv gc gd ((sRc S c0).1, (sRc S c0).2.1, (sRc S c0).2.2.1, u88, (sRc S c0).2.2.2.2) ++ oW y av ga76 gb77 (sRc S c1)) := hD
  rw [← h894] at hP hD
  have hP := xa_permP List.perm_append_comm hP
  have hD := xa_permD List.perm_append_comm hD
  refine lv_icmp_ne (tgt := 40) hx hb dL_alike_33 (by decide) (fun cb90 => absurd rfl cb90) (fun cb90 => ?_)
  refine lv_iconst (v := 1) hx hb dL_alike_36 (by decide) ?_
  refine lv_goto (tgt := 41) hx hb dL_alike_37 (by decide) ?_
  refine lv_istore (lv' := [(4, .int 1), (3, .int (nI N)), (0, .ref (av 0)), (1, .ref (bv 0)), (2, .int (nI X))]) hx hb dL_alike_41 hl (by decide) rfl (fun ls hl => ?_)
  refine lv_iconst (v := 0) hx hb dL_alike_43 (by decide) ?_
  refine lv_istore (lv' := [(5, .int 0), (4, .int 1), (3, .int (nI N)), (0, .ref (av 0)), (1, .ref (bv 0)), (2, .int (nI X))]) hx hb dL_alike_44 hl (by decide) rfl (fun ls hl => ?_)
  refine W.widen (k := 20 + 20 * 0) (n := 400 + 380 * 0) (by omega) (by omega) ?_
  exact loop1 12 0 (by omega) c1 c2 ga76 gb77 gc gd H locs ls hP hD hS (lv_sub hl [3, 4, 5, 2, 1, 0] rfl)
