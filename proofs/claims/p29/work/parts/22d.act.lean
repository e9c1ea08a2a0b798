/-! WHAT IS DONE IN A TURN -/
set_option maxHeartbeats 8000000 in
set_option maxRecDepth 100000 in
theorem c_act (l : Launch) (hst : l.stackTraces = false) (D : va_G) (y : Nat → ClassId) (av : Nat → Nat) (ga gb : Nat → Nat × Nat × Nat) (S : oS) (X : Nat) (hG : GS S) (hX : X < 2147483648) (zh : Nat) : Met l yL_act wsL_act ({ frames := 10, cells := 20, slots := 300, locals := 202 }) (lP D y [.ref (av 0), .int (nI X)] zh (oW y av ga gb S)) (va_Qi (fun (v : Int32) (u : oS) => fAct S X = (v, u)) (fun (u : oS) t => ∃ (g1 g2 : Nat → Nat × Nat × Nat), va_P D vwCl (oW y av g1 g2 u) t.heap ∧ va_D (va_A (oW y av ga gb S) zh) (oW y av g1 g2 u)) (va_A (oW y av ga gb S) zh)) 20 300 (va_A (oW y av ga gb S) zh) := by
  refine Met.ofW (cc := cL_act) (maxL := 4) (ret := (some .int)) (by decide) rfl ?_
  intro p e s m args below meth c s₁ B hml hv
  obtain ⟨⟨⟨rfl, hsz, hP, hE, hD⟩, hXE, hXZ⟩, hLN⟩ := hv
  have hx := B.exec
  have hb := B.bytes
  have hr := B.returns
  have hts := atoms_spec (ws := wsL_act) B.pre
  have hown : s.vm.findClass RL = some m.cls := findClass_of_methodNamed B.named

  subst hsz
  have hD := hD.self (sz := s.heap.size)
  generalize hAe : va_A (oW y av ga gb S) s.heap.size = A at hD hXZ ⊢
  have hA : ∀ q : Nat, s.heap.size ≤ q → A q := fun q h => by rw [← hAe]; exact Or.inr h
  have hS : va_S A s.heap s.heap [] := va_S.rf
  have hl := lv_entry ([.ref (av 0), .int (nI X)]) (n := 4) (Nat.le_of_ble_eq_true rfl)
  rw [lg_entry_eq]
  generalize (lg_sl ([.ref (av 0), .int (nI X)]) ++ List.replicate (4 - (lg_sl ([.ref (av 0), .int (nI X)])).length) Slot.unset).toArray = ls at hl ⊢
  have hl : lv_has ls 4 [(0, .ref (av 0)), (1, .int (nI X))] := hl
  obtain ⟨e0, -, -, -, b0, b1, -⟩ := m_num hG.gd
  have hl0 := Nat.mod_lt (X / 16) (show 0 < nN (S.2.2.1 0) by omega)
  refine lv_aload_n hx hb dL_act_0 rfl (lv_at hl 0 rfl) ?_
  refine lv_iconst (v := 2) hx hb dL_act_1 (by decide) ?_
  refine lv_iconst (v := 0) hx hb dL_act_2 (by decide) ?_
  refine lv_iconst (v := 0) hx hb dL_act_3 (by decide) ?_
  refine lv_iconst (v := 0) hx hb dL_act_4 (by decide) ?_
  have k1 : fCall S 2 0 0 0 = (nI (nN (S.2.2.1 0)), S) := (s_ab0 S 0 0).trans (by rw [← e0])
  refine xw_callEi (va_runS (As := [.ref (av 0), .int 2, .int 0, .int 0, .int 0]) (rest := []) ⟨hx, hb, hml, hown, hts⟩ (c_call l hst D y av ga gb s.heap.size S 2 0 0 0 hG.ok) (va_cwS 5 hts gL_act_L_call rfl rfl rfl hd_L_call ⟨Nat.le_of_ble_eq_true rfl, Nat.le_of_ble_eq_true rfl⟩) (lS hE hXE hLN hXZ hS hA hP hD) rfl rfl hl.1 rfl (lv_room (Nat.le_of_ble_eq_true rfl)) dL_act_5 ⟨Nat.le_of_ble_eq_true rfl, Nat.le_of_ble_eq_true rfl⟩) hD hS hA (fun v2 u3 ga5 gb6 H locs h4 hP hD hS => ?_)
  obtain ⟨rfl, rfl⟩ := Prod.mk.inj (k1.symm.trans h4)
  refine lv_istore_n (lv' := [(2, .int (nI (nN (S.2.2.1 0)))), (0, .ref (av 0)), (1, .int (nI X))]) hx hb dL_act_8 rfl hl (by decide) rfl (fun ls hl => ?_)
  refine lv_iload_n hx hb dL_act_9 rfl (lv_at hl 2 rfl) ?_
  refine lv_bipush (v := 16) hx hb dL_act_10 (by decide) ?_
  refine lv_idiv hx hb dL_act_12 (by decide) ?_
  refine lv_topi (fun z7 ez7 => ?_)
  obtain rfl : z7 = nI (X / 16) := ez7.trans ((pk_div (a := X) (d := 16) (by omega) (by omega) (by omega) : nI X / nI 16 = _))
  refine lv_iload_n hx hb dL_act_13 rfl (lv_at hl 0 rfl) ?_
  refine lv_irem hx hb dL_act_14 (nI_ne0 (n := nN (S.2.2.1 0)) (by omega) (by omega)) ?_
  refine lv_topi (fun z8 ez8 => ?_)
  obtain rfl : z8 = nI ((X / 16) % (nN (S.2.2.1 0))) := ez8.trans ((pk_rem (a := X / 16) (d := nN (S.2.2.1 0)) (by omega) (by omega) (by omega) : nI (X / 16) - nI (X / 16) / nI (nN (S.2.2.1 0)) * nI (nN (S.2.2.1 0)) = _))
  refine lv_istore_n (lv' := [(3, .int (nI ((X / 16) % (nN (S.2.2.1 0))))), (2, .int (nI (nN (S.2.2.1 0)))), (0, .ref (av 0)), (1, .int (nI X))]) hx hb dL_act_15 rfl hl (by decide) rfl (fun ls hl => ?_)
  refine lv_iload_n hx hb dL_act_16 rfl (lv_at hl 3 rfl) ?_
  refine lv_bipush (v := 16) hx hb dL_act_17 (by decide) ?_
  refine lv_irem hx hb dL_act_19 (by decide) ?_
  refine lv_topi (fun z9 ez9 => ?_)
  obtain rfl : z9 = nI (X % 16) := ez9.trans ((pk_rem (a := X) (d := 16) (by omega) (by omega) (by omega) : nI X - nI X / nI 16 * nI 16 = _))
  have hm16 := Nat.mod_lt X (show 0 < 16 by omega)
  have ht : X % 16 = 0 ∨ X % 16 = 1 ∨ X % 16 = 2 ∨ X % 16 = 3 ∨ X % 16 = 4 ∨ X % 16 = 5 ∨ X % 16 = 6 ∨ X % 16 = 7 ∨ X % 16 = 8 ∨ X % 16 = 9 ∨ X % 16 = 10 ∨ X % 16 = 11 ∨ X % 16 = 12 ∨ 13 ≤ X % 16 := by omega
  rcases ht with h16 | h16 | h16 | h16 | h16 | h16 | h16 | h16 | h16 | h16 | h16 | h16 | h16 | h16
  · refine lv_tableIn (off := 68) (tgt := 88) hx hb dL_act_20 (by rw [h16]; decide) (by rw [h16]; decide) (by rw [h16]; rfl) (by decide) ?_
    refine lv_aload_n hx hb dL_act_88 rfl (lv_at hl 2 rfl) ?_
    refine lv_bipush (v := 9) hx hb dL_act_89 (by decide) ?_
    refine lv_iload_n hx hb dL_act_91 rfl (lv_at hl 0 rfl) ?_
    refine lv_iload_n hx hb dL_act_92 rfl (lv_at hl 3 rfl) ?_
    refine lv_sipush (v := 512) hx hb dL_act_93 (by decide) ?_
    refine lv_idiv hx hb dL_act_96 (by decide) ?_
    refine lv_topi (fun z10 ez10 => ?_)
    obtain rfl : z10 = nI (X / 512) := ez10.trans ((pk_div (a := X) (d := 512) (by omega) (by omega) (by omega) : nI X / nI 512 = _))
    refine lv_sipush (v := 1000) hx hb dL_act_97 (by decide) ?_
    refine lv_irem hx hb dL_act_100 (by decide) ?_
    refine lv_topi (fun z11 ez11 => ?_)
    obtain rfl : z11 = nI ((X / 512) % 1000) := ez11.trans ((pk_rem (a := X / 512) (d := 1000) (by omega) (by omega) (by omega) : nI (X / 512) - nI (X / 512) / nI 1000 * nI 1000 = _))
    refine lv_iconst (v := 0) hx hb dL_act_101 (by decide) ?_
    obtain ⟨av_, au_, k12⟩ : ∃ v u, fCall S 9 (nI ((X / 16) % (nN (S.2.2.1 0)))) (nI ((X / 512) % 1000)) 0 = (v, u) := ⟨_, _, rfl⟩
    have kact := k12
    refine xw_callEi (va_runS (As := [.ref (av 0), .int 9, .int (nI ((X / 16) % (nN (S.2.2.1 0)))), .int (nI ((X / 512) % 1000)), .int 0]) (rest := []) ⟨hx, hb, hml, hown, hts⟩ (c_call l hst D y av ga5 gb6 H.size S 9 (nI ((X / 16) % (nN (S.2.2.1 0)))) (nI ((X / 512) % 1000)) 0 hG.ok) (va_cwS 5 hts gL_act_L_call rfl rfl rfl hd_L_call ⟨Nat.le_of_ble_eq_true rfl, Nat.le_of_ble_eq_true rfl⟩) (lS hE hXE hLN hXZ hS hA hP hD) rfl rfl hl.1 rfl (lv_room (Nat.le_of_ble_eq_true rfl)) dL_act_102 ⟨Nat.le_of_ble_eq_true rfl, Nat.le_of_ble_eq_true rfl⟩) hD hS hA (fun v13 u14 ga16 gb17 H locs h15 hP hD hS => ?_)
    obtain ⟨rfl, rfl⟩ := Prod.mk.inj (k12.symm.trans h15)
    refine W.widen (k := 20) (n := 300) (by omega) (by omega) ?_
    have hF : fAct S X = (av_, au_) := by
      unfold fAct
      rw [if_pos (show X % 16 < 4 by omega)]
      exact kact
    exact W.iret (v := av_) hx hb hr (fun t ht hW => ⟨⟨av_, au_, rfl, hF, ga16, gb17, by rw [ht]; exact hP, hD⟩, hS.F ht⟩) hS.2.2 dL_act_105
  · refine lv_tableIn (off := 68) (tgt := 88) hx hb dL_act_20 (by rw [h16]; decide) (by rw [h16]; decide) (by rw [h16]; rfl) (by decide) ?_
    refine lv_aload_n hx hb dL_act_88 rfl (lv_at hl 2 rfl) ?_
    refine lv_bipush (v := 9) hx hb dL_act_89 (by decide) ?_
    refine lv_iload_n hx hb dL_act_91 rfl (lv_at hl 0 rfl) ?_
    refine lv_iload_n hx hb dL_act_92 rfl (lv_at hl 3 rfl) ?_
    refine lv_sipush (v := 512) hx hb dL_act_93 (by decide) ?_
    refine lv_idiv hx hb dL_act_96 (by decide) ?_
    refine lv_topi (fun z18 ez18 => ?_)
    obtain rfl : z18 = nI (X / 512) := ez18.trans ((pk_div (a := X) (d := 512) (by omega) (by omega) (by omega) : nI X / nI 512 = _))
    refine lv_sipush (v := 1000) hx hb dL_act_97 (by decide) ?_
    refine lv_irem hx hb dL_act_100 (by decide) ?_
    refine lv_topi (fun z19 ez19 => ?_)
    obtain rfl : z19 = nI ((X / 512) % 1000) := ez19.trans ((pk_rem (a := X / 512) (d := 1000) (by omega) (by omega) (by omega) : nI (X / 512) - nI (X / 512) / nI 1000 * nI 1000 = _))
    refine lv_iconst (v := 0) hx hb dL_act_101 (by decide) ?_
    obtain ⟨av_, au_, k20⟩ : ∃ v u, fCall S 9 (nI ((X / 16) % (nN (S.2.2.1 0)))) (nI ((X / 512) % 1000)) 0 = (v, u) := ⟨_, _, rfl⟩
    have kact := k20
    refine xw_callEi (va_runS (As := [.ref (av 0), .int 9, .int (nI ((X / 16) % (nN (S.2.2.1 0)))), .int (nI ((X / 512) % 1000)), .int 0]) (rest := []) ⟨hx, hb, hml, hown, hts⟩ (c_call l hst D y av ga5 gb6 H.size S 9 (nI ((X / 16) % (nN (S.2.2.1 0)))) (nI ((X / 512) % 1000)) 0 hG.ok) (va_cwS 5 hts gL_act_L_call rfl rfl rfl hd_L_call ⟨Nat.le_of_ble_eq_true rfl, Nat.le_of_ble_eq_true rfl⟩) (lS hE hXE hLN hXZ hS hA hP hD) rfl rfl hl.1 rfl (lv_room (Nat.le_of_ble_eq_true rfl)) dL_act_102 ⟨Nat.le_of_ble_eq_true rfl, Nat.le_of_ble_eq_true rfl⟩) hD hS hA (fun v21 u22 ga24 gb25 H locs h23 hP hD hS => ?_)
    obtain ⟨rfl, rfl⟩ := Prod.mk.inj (k20.symm.trans h23)
    refine W.widen (k := 20) (n := 300) (by omega) (by omega) ?_
    have hF : fAct S X = (av_, au_) := by
      unfold fAct
      rw [if_pos (show X % 16 < 4 by omega)]
      exact kact
    exact W.iret (v := av_) hx hb hr (fun t ht hW => ⟨⟨av_, au_, rfl, hF, ga24, gb25, by rw [ht]; exact hP, hD⟩, hS.F ht⟩) hS.2.2 dL_act_105
  · refine lv_tableIn (off := 68) (tgt := 88) hx hb dL_act_20 (by rw [h16]; decide) (by rw [h16]; decide) (by rw [h16]; rfl) (by decide) ?_
    refine lv_aload_n hx hb dL_act_88 rfl (lv_at hl 2 rfl) ?_
    refine lv_bipush (v := 9) hx hb dL_act_89 (by decide) ?_
    refine lv_iload_n hx hb dL_act_91 rfl (lv_at hl 0 rfl) ?_
    refine lv_iload_n hx hb dL_act_92 rfl (lv_at hl 3 rfl) ?_
    refine lv_sipush (v := 512) hx hb dL_act_93 (by decide) ?_
    refine lv_idiv hx hb dL_act_96 (by decide) ?_
    refine lv_topi (fun z26 ez26 => ?_)
    obtain rfl : z26 = nI (X / 512) := ez26.trans ((pk_div (a := X) (d := 512) (by omega) (by omega) (by omega) : nI X / nI 512 = _))
    refine lv_sipush (v := 1000) hx hb dL_act_97 (by decide) ?_
    refine lv_irem hx hb dL_act_100 (by decide) ?_
    refine lv_topi (fun z27 ez27 => ?_)
    obtain rfl : z27 = nI ((X / 512) % 1000) := ez27.trans ((pk_rem (a := X / 512) (d := 1000) (by omega) (by omega) (by omega) : nI (X / 512) - nI (X / 512) / nI 1000 * nI 1000 = _))
    refine lv_iconst (v := 0) hx hb dL_act_101 (by decide) ?_
    obtain ⟨av_, au_, k28⟩ : ∃ v u, fCall S 9 (nI ((X / 16) % (nN (S.2.2.1 0)))) (nI ((X / 512) % 1000)) 0 = (v, u) := ⟨_, _, rfl⟩
    have kact := k28
    refine xw_callEi (va_runS (As := [.ref (av 0), .int 9, .int (nI ((X / 16) % (nN (S.2.2.1 0)))), .int (nI ((X / 512) % 1000)), .int 0]) (rest := []) ⟨hx, hb, hml, hown, hts⟩ (c_call l hst D y av ga5 gb6 H.size S 9 (nI ((X / 16) % (nN (S.2.2.1 0)))) (nI ((X / 512) % 1000)) 0 hG.ok) (va_cwS 5 hts gL_act_L_call rfl rfl rfl hd_L_call ⟨Nat.le_of_ble_eq_true rfl, Nat.le_of_ble_eq_true rfl⟩) (lS hE hXE hLN hXZ hS hA hP hD) rfl rfl hl.1 rfl (lv_room (Nat.le_of_ble_eq_true rfl)) dL_act_102 ⟨Nat.le_of_ble_eq_true rfl, Nat.le_of_ble_eq_true rfl⟩) hD hS hA (fun v29 u30 ga32 gb33 H locs h31 hP hD hS => ?_)
    obtain ⟨rfl, rfl⟩ := Prod.mk.inj (k28.symm.trans h31)
    refine W.widen (k := 20) (n := 300) (by omega) (by omega) ?_
    have hF : fAct S X = (av_, au_) := by
      unfold fAct
      rw [if_pos (show X % 16 < 4 by omega)]
      exact kact
    exact W.iret (v := av_) hx hb hr (fun t ht hW => ⟨⟨av_, au_, rfl, hF, ga32, gb33, by rw [ht]; exact hP, hD⟩, hS.F ht⟩) hS.2.2 dL_act_105
  · refine lv_tableIn (off := 68) (tgt := 88) hx hb dL_act_20 (by rw [h16]; decide) (by rw [h16]; decide) (by rw [h16]; rfl) (by decide) ?_
    refine lv_aload_n hx hb dL_act_88 rfl (lv_at hl 2 rfl) ?_
    refine lv_bipush (v := 9) hx hb dL_act_89 (by decide) ?_
    refine lv_iload_n hx hb dL_act_91 rfl (lv_at hl 0 rfl) ?_
    refine lv_iload_n hx hb dL_act_92 rfl (lv_at hl 3 rfl) ?_
    refine lv_sipush (v := 512) hx hb dL_act_93 (by decide) ?_
    refine lv_idiv hx hb dL_act_96 (by decide) ?_
    refine lv_topi (fun z34 ez34 => ?_)
    obtain rfl : z34 = nI (X / 512) := ez34.trans ((pk_div (a := X) (d := 512) (by omega) (by omega) (by omega) : nI X / nI 512 = _))
    refine lv_sipush (v := 1000) hx hb dL_act_97 (by decide) ?_
    refine lv_irem hx hb dL_act_100 (by decide) ?_
    refine lv_topi (fun z35 ez35 => ?_)
    obtain rfl : z35 = nI ((X / 512) % 1000) := ez35.trans ((pk_rem (a := X / 512) (d := 1000) (by omega) (by omega) (by omega) : nI (X / 512) - nI (X / 512) / nI 1000 * nI 1000 = _))
    refine lv_iconst (v := 0) hx hb dL_act_101 (by decide) ?_
    obtain ⟨av_, au_, k36⟩ : ∃ v u, fCall S 9 (nI ((X / 16) % (nN (S.2.2.1 0)))) (nI ((X / 512) % 1000)) 0 = (v, u) := ⟨_, _, rfl⟩
    have kact := k36
    refine xw_callEi (va_runS (As := [.ref (av 0), .int 9, .int (nI ((X / 16) % (nN (S.2.2.1 0)))), .int (nI ((X / 512) % 1000)), .int 0]) (rest := []) ⟨hx, hb, hml, hown, hts⟩ (c_call l hst D y av ga5 gb6 H.size S 9 (nI ((X / 16) % (nN (S.2.2.1 0)))) (nI ((X / 512) % 1000)) 0 hG.ok) (va_cwS 5 hts gL_act_L_call rfl rfl rfl hd_L_call ⟨Nat.le_of_ble_eq_true rfl, Nat.le_of_ble_eq_true rfl⟩) (lS hE hXE hLN hXZ hS hA hP hD) rfl rfl hl.1 rfl (lv_room (Nat.le_of_ble_eq_true rfl)) dL_act_102 ⟨Nat.le_of_ble_eq_true rfl, Nat.le_of_ble_eq_true rfl⟩) hD hS hA (fun v37 u38 ga40 gb41 H locs h39 hP hD hS => ?_)
    obtain ⟨rfl, rfl⟩ := Prod.mk.inj (k36.symm.trans h39)
    refine W.widen (k := 20) (n := 300) (by omega) (by omega) ?_
    have hF : fAct S X = (av_, au_) := by
      unfold fAct
      rw [if_pos (show X % 16 < 4 by omega)]
      exact kact
    exact W.iret (v := av_) hx hb hr (fun t ht hW => ⟨⟨av_, au_, rfl, hF, ga40, gb41, by rw [ht]; exact hP, hD⟩, hS.F ht⟩) hS.2.2 dL_act_105
  · refine lv_tableIn (off := 86) (tgt := 106) hx hb dL_act_20 (by rw [h16]; decide) (by rw [h16]; decide) (by rw [h16]; rfl) (by decide) ?_
    refine lv_aload_n hx hb dL_act_106 rfl (lv_at hl 2 rfl) ?_
    refine lv_bipush (v := 10) hx hb dL_act_107 (by decide) ?_
    refine lv_iload_n hx hb dL_act_109 rfl (lv_at hl 0 rfl) ?_
    refine lv_iconst (v := 1) hx hb dL_act_110 (by decide) ?_
    refine lv_iload_n hx hb dL_act_111 rfl (lv_at hl 3 rfl) ?_
    refine lv_sipush (v := 512) hx hb dL_act_112 (by decide) ?_
    refine lv_idiv hx hb dL_act_115 (by decide) ?_
    refine lv_topi (fun z42 ez42 => ?_)
    obtain rfl : z42 = nI (X / 512) := ez42.trans ((pk_div (a := X) (d := 512) (by omega) (by omega) (by omega) : nI X / nI 512 = _))
    refine lv_bipush (v := 50) hx hb dL_act_116 (by decide) ?_
    refine lv_irem hx hb dL_act_118 (by decide) ?_
    refine lv_topi (fun z43 ez43 => ?_)
    obtain rfl : z43 = nI ((X / 512) % 50) := ez43.trans ((pk_rem (a := X / 512) (d := 50) (by omega) (by omega) (by omega) : nI (X / 512) - nI (X / 512) / nI 50 * nI 50 = _))
    refine lv_iadd hx hb dL_act_119 ?_
    refine lv_topi (fun z44 ez44 => ?_)
    obtain rfl : z44 = nI (1 + ((X / 512) % 50)) := ez44.trans ((nI_add 1 ((X / 512) % 50) : nI 1 + nI ((X / 512) % 50) = _))
    refine lv_iconst (v := 0) hx hb dL_act_120 (by decide) ?_
    obtain ⟨av_, au_, k45⟩ : ∃ v u, fCall S 10 (nI ((X / 16) % (nN (S.2.2.1 0)))) (nI (1 + ((X / 512) % 50))) 0 = (v, u) := ⟨_, _, rfl⟩
    have kact := k45
    refine xw_callEi (va_runS (As := [.ref (av 0), .int 10, .int (nI ((X / 16) % (nN (S.2.2.1 0)))), .int (nI (1 + ((X / 512) % 50))), .int 0]) (rest := []) ⟨hx, hb, hml, hown, hts⟩ (c_call l hst D y av ga5 gb6 H.size S 10 (nI ((X / 16) % (nN (S.2.2.1 0)))) (nI (1 + ((X / 512) % 50))) 0 hG.ok) (va_cwS 5 hts gL_act_L_call rfl rfl rfl hd_L_call ⟨Nat.le_of_ble_eq_true rfl, Nat.le_of_ble_eq_true rfl⟩) (lS hE hXE hLN hXZ hS hA hP hD) rfl rfl hl.1 rfl (lv_room (Nat.le_of_ble_eq_true rfl)) dL_act_121 ⟨Nat.le_of_ble_eq_true rfl, Nat.le_of_ble_eq_true rfl⟩) hD hS hA (fun v46 u47 ga49 gb50 H locs h48 hP hD hS => ?_)
    obtain ⟨rfl, rfl⟩ := Prod.mk.inj (k45.symm.trans h48)
    refine W.widen (k := 20) (n := 300) (by omega) (by omega) ?_
    have hF : fAct S X = (av_, au_) := by
      unfold fAct
      rw [if_neg (show ¬ X % 16 < 4 by omega), if_pos (show X % 16 < 7 by omega)]
      exact kact
    exact W.iret (v := av_) hx hb hr (fun t ht hW => ⟨⟨av_, au_, rfl, hF, ga49, gb50, by rw [ht]; exact hP, hD⟩, hS.F ht⟩) hS.2.2 dL_act_124
  · refine lv_tableIn (off := 86) (tgt := 106) hx hb dL_act_20 (by rw [h16]; decide) (by rw [h16]; decide) (by rw [h16]; rfl) (by decide) ?_
    refine lv_aload_n hx hb dL_act_106 rfl (lv_at hl 2 rfl) ?_
    refine lv_bipush (v := 10) hx hb dL_act_107 (by decide) ?_
    refine lv_iload_n hx hb dL_act_109 rfl (lv_at hl 0 rfl) ?_
    refine lv_iconst (v := 1) hx hb dL_act_110 (by decide) ?_
    refine lv_iload_n hx hb dL_act_111 rfl (lv_at hl 3 rfl) ?_
    refine lv_sipush (v := 512) hx hb dL_act_112 (by decide) ?_
    refine lv_idiv hx hb dL_act_115 (by decide) ?_
    refine lv_topi (fun z51 ez51 => ?_)
    obtain rfl : z51 = nI (X / 512) := ez51.trans ((pk_div (a := X) (d := 512) (by omega) (by omega) (by omega) : nI X / nI 512 = _))
    refine lv_bipush (v := 50) hx hb dL_act_116 (by decide) ?_
    refine lv_irem hx hb dL_act_118 (by decide) ?_
    refine lv_topi (fun z52 ez52 => ?_)
    obtain rfl : z52 = nI ((X / 512) % 50) := ez52.trans ((pk_rem (a := X / 512) (d := 50) (by omega) (by omega) (by omega) : nI (X / 512) - nI (X / 512) / nI 50 * nI 50 = _))
    refine lv_iadd hx hb dL_act_119 ?_
    refine lv_topi (fun z53 ez53 => ?_)
    obtain rfl : z53 = nI (1 + ((X / 512) % 50)) := ez53.trans ((nI_add 1 ((X / 512) % 50) : nI 1 + nI ((X / 512) % 50) = _))
    refine lv_iconst (v := 0) hx hb dL_act_120 (by decide) ?_
    obtain ⟨av_, au_, k54⟩ : ∃ v u, fCall S 10 (nI ((X / 16) % (nN (S.2.2.1 0)))) (nI (1 + ((X / 512) % 50))) 0 = (v, u) := ⟨_, _, rfl⟩
    have kact := k54
    refine xw_callEi (va_runS (As := [.ref (av 0), .int 10, .int (nI ((X / 16) % (nN (S.2.2.1 0)))), .int (nI (1 + ((X / 512) % 50))), .int 0]) (rest := []) ⟨hx, hb, hml, hown, hts⟩ (c_call l hst D y av ga5 gb6 H.size S 10 (nI ((X / 16) % (nN (S.2.2.1 0)))) (nI (1 + ((X / 512) % 50))) 0 hG.ok) (va_cwS 5 hts gL_act_L_call rfl rfl rfl hd_L_call ⟨Nat.le_of_ble_eq_true rfl, Nat.le_of_ble_eq_true rfl⟩) (lS hE hXE hLN hXZ hS hA hP hD) rfl rfl hl.1 rfl (lv_room (Nat.le_of_ble_eq_true rfl)) dL_act_121 ⟨Nat.le_of_ble_eq_true rfl, Nat.le_of_ble_eq_true rfl⟩) hD hS hA (fun v55 u56 ga58 gb59 H locs h57 hP hD hS => ?_)
    obtain ⟨rfl, rfl⟩ := Prod.mk.inj (k54.symm.trans h57)
    refine W.widen (k := 20) (n := 300) (by omega) (by omega) ?_
    have hF : fAct S X = (av_, au_) := by
      unfold fAct
      rw [if_neg (show ¬ X % 16 < 4 by omega), if_pos (show X % 16 < 7 by omega)]
      exact kact
    exact W.iret (v := av_) hx hb hr (fun t ht hW => ⟨⟨av_, au_, rfl, hF, ga58, gb59, by rw [ht]; exact hP, hD⟩, hS.F ht⟩) hS.2.2 dL_act_124
  · refine lv_tableIn (off := 86) (tgt := 106) hx hb dL_act_20 (by rw [h16]; decide) (by rw [h16]; decide) (by rw [h16]; rfl) (by decide) ?_
    refine lv_aload_n hx hb dL_act_106 rfl (lv_at hl 2 rfl) ?_
    refine lv_bipush (v := 10) hx hb dL_act_107 (by decide) ?_
    refine lv_iload_n hx hb dL_act_109 rfl (lv_at hl 0 rfl) ?_
    refine lv_iconst (v := 1) hx hb dL_act_110 (by decide) ?_
    refine lv_iload_n hx hb dL_act_111 rfl (lv_at hl 3 rfl) ?_
    refine lv_sipush (v := 512) hx hb dL_act_112 (by decide) ?_
    refine lv_idiv hx hb dL_act_115 (by decide) ?_
    refine lv_topi (fun z60 ez60 => ?_)
    obtain rfl : z60 = nI (X / 512) := ez60.trans ((pk_div (a := X) (d := 512) (by omega) (by omega) (by omega) : nI X / nI 512 = _))
    refine lv_bipush (v := 50) hx hb dL_act_116 (by decide) ?_
    refine lv_irem hx hb dL_act_118 (by decide) ?_
    refine lv_topi (fun z61 ez61 => ?_)
    obtain rfl : z61 = nI ((X / 512) % 50) := ez61.trans ((pk_rem (a := X / 512) (d := 50) (by omega) (by omega) (by omega) : nI (X / 512) - nI (X / 512) / nI 50 * nI 50 = _))
    refine lv_iadd hx hb dL_act_119 ?_
    refine lv_topi (fun z62 ez62 => ?_)
    obtain rfl : z62 = nI (1 + ((X / 512) % 50)) := ez62.trans ((nI_add 1 ((X / 512) % 50) : nI 1 + nI ((X / 512) % 50) = _))
    refine lv_iconst (v := 0) hx hb dL_act_120 (by decide) ?_
    obtain ⟨av_, au_, k63⟩ : ∃ v u, fCall S 10 (nI ((X / 16) % (nN (S.2.2.1 0)))) (nI (1 + ((X / 512) % 50))) 0 = (v, u) := ⟨_, _, rfl⟩
    have kact := k63
    refine xw_callEi (va_runS (As := [.ref (av 0), .int 10, .int (nI ((X / 16) % (nN (S.2.2.1 0)))), .int (nI (1 + ((X / 512) % 50))), .int 0]) (rest := []) ⟨hx, hb, hml, hown, hts⟩ (c_call l hst D y av ga5 gb6 H.size S 10 (nI ((X / 16) % (nN (S.2.2.1 0)))) (nI (1 + ((X / 512) % 50))) 0 hG.ok) (va_cwS 5 hts gL_act_L_call rfl rfl rfl hd_L_call ⟨Nat.le_of_ble_eq_true rfl, Nat.le_of_ble_eq_true rfl⟩) (lS hE hXE hLN hXZ hS hA hP hD) rfl rfl hl.1 rfl (lv_room (Nat.le_of_ble_eq_true rfl)) dL_act_121 ⟨Nat.le_of_ble_eq_true rfl, Nat.le_of_ble_eq_true rfl⟩) hD hS hA (fun v64 u65 ga67 gb68 H locs h66 hP hD hS => ?_)
    obtain ⟨rfl, rfl⟩ := Prod.mk.inj (k63.symm.trans h66)
    refine W.widen (k := 20) (n := 300) (by omega) (by omega) ?_
    have hF : fAct S X = (av_, au_) := by
      unfold fAct
      rw [if_neg (show ¬ X % 16 < 4 by omega), if_pos (show X % 16 < 7 by omega)]
      exact kact
    exact W.iret (v := av_) hx hb hr (fun t ht hW => ⟨⟨av_, au_, rfl, hF, ga67, gb68, by rw [ht]; exact hP, hD⟩, hS.F ht⟩) hS.2.2 dL_act_124
  · refine lv_tableIn (off := 105) (tgt := 125) hx hb dL_act_20 (by rw [h16]; decide) (by rw [h16]; decide) (by rw [h16]; rfl) (by decide) ?_
    refine lv_aload_n hx hb dL_act_125 rfl (lv_at hl 2 rfl) ?_
    refine lv_bipush (v := 11) hx hb dL_act_126 (by decide) ?_
    refine lv_iconst (v := 1) hx hb dL_act_128 (by decide) ?_
    refine lv_iload_n hx hb dL_act_129 rfl (lv_at hl 3 rfl) ?_
    refine lv_bipush (v := 16) hx hb dL_act_130 (by decide) ?_
    refine lv_idiv hx hb dL_act_132 (by decide) ?_
    refine lv_topi (fun z69 ez69 => ?_)
    obtain rfl : z69 = nI (X / 16) := ez69.trans ((pk_div (a := X) (d := 16) (by omega) (by omega) (by omega) : nI X / nI 16 = _))
    refine lv_iconst (v := 3) hx hb dL_act_133 (by decide) ?_
    refine lv_irem hx hb dL_act_134 (by decide) ?_
    refine lv_topi (fun z70 ez70 => ?_)
    obtain rfl : z70 = nI ((X / 16) % 3) := ez70.trans ((pk_rem (a := X / 16) (d := 3) (by omega) (by omega) (by omega) : nI (X / 16) - nI (X / 16) / nI 3 * nI 3 = _))
    refine lv_iadd hx hb dL_act_135 ?_
    refine lv_topi (fun z71 ez71 => ?_)
    obtain rfl : z71 = nI (1 + ((X / 16) % 3)) := ez71.trans ((nI_add 1 ((X / 16) % 3) : nI 1 + nI ((X / 16) % 3) = _))
    refine lv_iconst (v := 0) hx hb dL_act_136 (by decide) ?_
    refine lv_iconst (v := 0) hx hb dL_act_137 (by decide) ?_
    obtain ⟨av_, au_, k72⟩ : ∃ v u, fCall S 11 (nI (1 + ((X / 16) % 3))) 0 0 = (v, u) := ⟨_, _, rfl⟩
    have kact := k72
    refine xw_callEi (va_runS (As := [.ref (av 0), .int 11, .int (nI (1 + ((X / 16) % 3))), .int 0, .int 0]) (rest := []) ⟨hx, hb, hml, hown, hts⟩ (c_call l hst D y av ga5 gb6 H.size S 11 (nI (1 + ((X / 16) % 3))) 0 0 hG.ok) (va_cwS 5 hts gL_act_L_call rfl rfl rfl hd_L_call ⟨Nat.le_of_ble_eq_true rfl, Nat.le_of_ble_eq_true rfl⟩) (lS hE hXE hLN hXZ hS hA hP hD) rfl rfl hl.1 rfl (lv_room (Nat.le_of_ble_eq_true rfl)) dL_act_138 ⟨Nat.le_of_ble_eq_true rfl, Nat.le_of_ble_eq_true rfl⟩) hD hS hA (fun v73 u74 ga76 gb77 H locs h75 hP hD hS => ?_)
    obtain ⟨rfl, rfl⟩ := Prod.mk.inj (k72.symm.trans h75)
    refine W.widen (k := 20) (n := 300) (by omega) (by omega) ?_
    have hF : fAct S X = (av_, au_) := by
      unfold fAct
      rw [if_neg (show ¬ X % 16 < 4 by omega), if_neg (show ¬ X % 16 < 7 by omega), if_pos (show X % 16 < 9 by omega)]
      exact kact
    exact W.iret (v := av_) hx hb hr (fun t ht hW => ⟨⟨av_, au_, rfl, hF, ga76, gb77, by rw [ht]; exact hP, hD⟩, hS.F ht⟩) hS.2.2 dL_act_141
  · refine lv_tableIn (off := 105) (tgt := 125) hx hb dL_act_20 (by rw [h16]; decide) (by rw [h16]; decide) (by rw [h16]; rfl) (by decide) ?_
    refine lv_aload_n hx hb dL_act_125 rfl (lv_at hl 2 rfl) ?_
    refine lv_bipush (v := 11) hx hb dL_act_126 (by decide) ?_
    refine lv_iconst (v := 1) hx hb dL_act_128 (by decide) ?_
    refine lv_iload_n hx hb dL_act_129 rfl (lv_at hl 3 rfl) ?_
    refine lv_bipush (v := 16) hx hb dL_act_130 (by decide) ?_
    refine lv_idiv hx hb dL_act_132 (by decide) ?_
    refine lv_topi (fun z78 ez78 => ?_)
    obtain rfl : z78 = nI (X / 16) := ez78.trans ((pk_div (a := X) (d := 16) (by omega) (by omega) (by omega) : nI X / nI 16 = _))
    refine lv_iconst (v := 3) hx hb dL_act_133 (by decide) ?_
    refine lv_irem hx hb dL_act_134 (by decide) ?_
    refine lv_topi (fun z79 ez79 => ?_)
    obtain rfl : z79 = nI ((X / 16) % 3) := ez79.trans ((pk_rem (a := X / 16) (d := 3) (by omega) (by omega) (by omega) : nI (X / 16) - nI (X / 16) / nI 3 * nI 3 = _))
    refine lv_iadd hx hb dL_act_135 ?_
    refine lv_topi (fun z80 ez80 => ?_)
    obtain rfl : z80 = nI (1 + ((X / 16) % 3)) := ez80.trans ((nI_add 1 ((X / 16) % 3) : nI 1 + nI ((X / 16) % 3) = _))
    refine lv_iconst (v := 0) hx hb dL_act_136 (by decide) ?_
    refine lv_iconst (v := 0) hx hb dL_act_137 (by decide) ?_
    obtain ⟨av_, au_, k81⟩ : ∃ v u, fCall S 11 (nI (1 + ((X / 16) % 3))) 0 0 = (v, u) := ⟨_, _, rfl⟩
    have kact := k81
    refine xw_callEi (va_runS (As := [.ref (av 0), .int 11, .int (nI (1 + ((X / 16) % 3))), .int 0, .int 0]) (rest := []) ⟨hx, hb, hml, hown, hts⟩ (c_call l hst D y av ga5 gb6 H.size S 11 (nI (1 + ((X / 16) % 3))) 0 0 hG.ok) (va_cwS 5 hts gL_act_L_call rfl rfl rfl hd_L_call ⟨Nat.le_of_ble_eq_true rfl, Nat.le_of_ble_eq_true rfl⟩) (lS hE hXE hLN hXZ hS hA hP hD) rfl rfl hl.1 rfl (lv_room (Nat.le_of_ble_eq_true rfl)) dL_act_138 ⟨Nat.le_of_ble_eq_true rfl, Nat.le_of_ble_eq_true rfl⟩) hD hS hA (fun v82 u83 ga85 gb86 H locs h84 hP hD hS => ?_)
    obtain ⟨rfl, rfl⟩ := Prod.mk.inj (k81.symm.trans h84)
    refine W.widen (k := 20) (n := 300) (by omega) (by omega) ?_
    have hF : fAct S X = (av_, au_) := by
      unfold fAct
      rw [if_neg (show ¬ X % 16 < 4 by omega), if_neg (show ¬ X % 16 < 7 by omega), if_pos (show X % 16 < 9 by omega)]
      exact kact
    exact W.iret (v := av_) hx hb hr (fun t ht hW => ⟨⟨av_, au_, rfl, hF, ga85, gb86, by rw [ht]; exact hP, hD⟩, hS.F ht⟩) hS.2.2 dL_act_141
  · refine lv_tableIn (off := 122) (tgt := 142) hx hb dL_act_20 (by rw [h16]; decide) (by rw [h16]; decide) (by rw [h16]; rfl) (by decide) ?_
    refine lv_aload_n hx hb dL_act_142 rfl (lv_at hl 2 rfl) ?_
    refine lv_bipush (v := 12) hx hb dL_act_143 (by decide) ?_
    refine lv_iload_n hx hb dL_act_145 rfl (lv_at hl 3 rfl) ?_
    refine lv_bipush (v := 16) hx hb dL_act_146 (by decide) ?_
    refine lv_idiv hx hb dL_act_148 (by decide) ?_
    refine lv_topi (fun z87 ez87 => ?_)
    obtain rfl : z87 = nI (X / 16) := ez87.trans ((pk_div (a := X) (d := 16) (by omega) (by omega) (by omega) : nI X / nI 16 = _))
    refine lv_iconst (v := 2) hx hb dL_act_149 (by decide) ?_
    refine lv_irem hx hb dL_act_150 (by decide) ?_
    refine lv_topi (fun z88 ez88 => ?_)
    obtain rfl : z88 = nI ((X / 16) % 2) := ez88.trans ((pk_rem (a := X / 16) (d := 2) (by omega) (by omega) (by omega) : nI (X / 16) - nI (X / 16) / nI 2 * nI 2 = _))
    refine lv_iload_n hx hb dL_act_151 rfl (lv_at hl 3 rfl) ?_
    refine lv_bipush (v := 32) hx hb dL_act_152 (by decide) ?_
    refine lv_idiv hx hb dL_act_154 (by decide) ?_
    refine lv_topi (fun z89 ez89 => ?_)
    obtain rfl : z89 = nI (X / 32) := ez89.trans ((pk_div (a := X) (d := 32) (by omega) (by omega) (by omega) : nI X / nI 32 = _))
    refine lv_bipush (v := 60) hx hb dL_act_155 (by decide) ?_
    refine lv_irem hx hb dL_act_157 (by decide) ?_
    refine lv_topi (fun z90 ez90 => ?_)
    obtain rfl : z90 = nI ((X / 32) % 60) := ez90.trans ((pk_rem (a := X / 32) (d := 60) (by omega) (by omega) (by omega) : nI (X / 32) - nI (X / 32) / nI 60 * nI 60 = _))
    refine lv_iconst (v := 0) hx hb dL_act_158 (by decide) ?_
    obtain ⟨av_, au_, k91⟩ : ∃ v u, fCall S 12 (nI ((X / 16) % 2)) (nI ((X / 32) % 60)) 0 = (v, u) := ⟨_, _, rfl⟩
    have kact := k91
    refine xw_callEi (va_runS (As := [.ref (av 0), .int 12, .int (nI ((X / 16) % 2)), .int (nI ((X / 32) % 60)), .int 0]) (rest := []) ⟨hx, hb, hml, hown, hts⟩ (c_call l hst D y av ga5 gb6 H.size S 12 (nI ((X / 16) % 2)) (nI ((X / 32) % 60)) 0 hG.ok) (va_cwS 5 hts gL_act_L_call rfl rfl rfl hd_L_call ⟨Nat.le_of_ble_eq_true rfl, Nat.le_of_ble_eq_true rfl⟩) (lS hE hXE hLN hXZ hS hA hP hD) rfl rfl hl.1 rfl (lv_room (Nat.le_of_ble_eq_true rfl)) dL_act_159 ⟨Nat.le_of_ble_eq_true rfl, Nat.le_of_ble_eq_true rfl⟩) hD hS hA (fun v92 u93 ga95 gb96 H locs h94 hP hD hS => ?_)
    obtain ⟨rfl, rfl⟩ := Prod.mk.inj (k91.symm.trans h94)
    refine W.widen (k := 20) (n := 300) (by omega) (by omega) ?_
    have hF : fAct S X = (av_, au_) := by
      unfold fAct
      rw [if_neg (show ¬ X % 16 < 4 by omega), if_neg (show ¬ X % 16 < 7 by omega), if_neg (show ¬ X % 16 < 9 by omega), if_pos (show X % 16 = 9 by omega)]
      exact kact
    exact W.iret (v := av_) hx hb hr (fun t ht hW => ⟨⟨av_, au_, rfl, hF, ga95, gb96, by rw [ht]; exact hP, hD⟩, hS.F ht⟩) hS.2.2 dL_act_162
  · refine lv_tableIn (off := 143) (tgt := 163) hx hb dL_act_20 (by rw [h16]; decide) (by rw [h16]; decide) (by rw [h16]; rfl) (by decide) ?_
    refine lv_aload_n hx hb dL_act_163 rfl (lv_at hl 2 rfl) ?_
    refine lv_iconst (v := 2) hx hb dL_act_164 (by decide) ?_
    refine lv_iconst (v := 4) hx hb dL_act_165 (by decide) ?_
    refine lv_iconst (v := 0) hx hb dL_act_166 (by decide) ?_
    refine lv_iconst (v := 0) hx hb dL_act_167 (by decide) ?_
    have k97 : fCall S 2 4 0 0 = ((S.2.2.1 5), S) := s_ab4 S 0 0
    refine xw_callEi (va_runS (As := [.ref (av 0), .int 2, .int 4, .int 0, .int 0]) (rest := []) ⟨hx, hb, hml, hown, hts⟩ (c_call l hst D y av ga5 gb6 H.size S 2 4 0 0 hG.ok) (va_cwS 5 hts gL_act_L_call rfl rfl rfl hd_L_call ⟨Nat.le_of_ble_eq_true rfl, Nat.le_of_ble_eq_true rfl⟩) (lS hE hXE hLN hXZ hS hA hP hD) rfl rfl hl.1 rfl (lv_room (Nat.le_of_ble_eq_true rfl)) dL_act_168 ⟨Nat.le_of_ble_eq_true rfl, Nat.le_of_ble_eq_true rfl⟩) hD hS hA (fun v98 u99 ga101 gb102 H locs h100 hP hD hS => ?_)
    obtain ⟨rfl, rfl⟩ := Prod.mk.inj (k97.symm.trans h100)
    refine lv_sipush (v := 600) hx hb dL_act_171 (by decide) ?_
    refine lv_icmp_ge (tgt := 181) hx hb dL_act_174 (by decide) (fun cb103 => ?_) (fun cb103 => ?_)
    · skip
      have h600 : ¬ S.2.2.1 5 < 600 := Int32.not_lt.mpr cb103
      refine lv_aload_n hx hb dL_act_181 rfl (lv_at hl 2 rfl) ?_
      refine lv_bipush (v := 8) hx hb dL_act_182 (by decide) ?_
      refine lv_iconst (v := 4) hx hb dL_act_184 (by decide) ?_
      refine lv_iload_n hx hb dL_act_185 rfl (lv_at hl 3 rfl) ?_
      refine lv_bipush (v := 16) hx hb dL_act_186 (by decide) ?_
      refine lv_idiv hx hb dL_act_188 (by decide) ?_
      refine lv_topi (fun z104 ez104 => ?_)
      obtain rfl : z104 = nI (X / 16) := ez104.trans ((pk_div (a := X) (d := 16) (by omega) (by omega) (by omega) : nI X / nI 16 = _))
      refine lv_bipush (v := 12) hx hb dL_act_189 (by decide) ?_
      refine lv_irem hx hb dL_act_191 (by decide) ?_
      refine lv_topi (fun z105 ez105 => ?_)
      obtain rfl : z105 = nI ((X / 16) % 12) := ez105.trans ((pk_rem (a := X / 16) (d := 12) (by omega) (by omega) (by omega) : nI (X / 16) - nI (X / 16) / nI 12 * nI 12 = _))
      refine lv_iadd hx hb dL_act_192 ?_
      refine lv_topi (fun z106 ez106 => ?_)
      obtain rfl : z106 = nI (4 + ((X / 16) % 12)) := ez106.trans ((nI_add 4 ((X / 16) % 12) : nI 4 + nI ((X / 16) % 12) = _))
      refine lv_iconst (v := 1) hx hb dL_act_193 (by decide) ?_
      refine lv_iload_n hx hb dL_act_194 rfl (lv_at hl 3 rfl) ?_
      refine lv_sipush (v := 192) hx hb dL_act_195 (by decide) ?_
      refine lv_idiv hx hb dL_act_198 (by decide) ?_
      refine lv_topi (fun z107 ez107 => ?_)
      obtain rfl : z107 = nI (X / 192) := ez107.trans ((pk_div (a := X) (d := 192) (by omega) (by omega) (by omega) : nI X / nI 192 = _))
      refine lv_iconst (v := 5) hx hb dL_act_199 (by decide) ?_
      refine lv_irem hx hb dL_act_200 (by decide) ?_
      refine lv_topi (fun z108 ez108 => ?_)
      obtain rfl : z108 = nI ((X / 192) % 5) := ez108.trans ((pk_rem (a := X / 192) (d := 5) (by omega) (by omega) (by omega) : nI (X / 192) - nI (X / 192) / nI 5 * nI 5 = _))
      obtain ⟨av_, au_, k109⟩ : ∃ v u, fCall S 8 (nI (4 + ((X / 16) % 12))) 1 (nI ((X / 192) % 5)) = (v, u) := ⟨_, _, rfl⟩
      have kact := k109
      refine xw_callEi (va_runS (As := [.ref (av 0), .int 8, .int (nI (4 + ((X / 16) % 12))), .int 1, .int (nI ((X / 192) % 5))]) (rest := []) ⟨hx, hb, hml, hown, hts⟩ (c_call l hst D y av ga101 gb102 H.size S 8 (nI (4 + ((X / 16) % 12))) 1 (nI ((X / 192) % 5)) hG.ok) (va_cwS 5 hts gL_act_L_call rfl rfl rfl hd_L_call ⟨Nat.le_of_ble_eq_true rfl, Nat.le_of_ble_eq_true rfl⟩) (lS hE hXE hLN hXZ hS hA hP hD) rfl rfl hl.1 rfl (lv_room (Nat.le_of_ble_eq_true rfl)) dL_act_201 ⟨Nat.le_of_ble_eq_true rfl, Nat.le_of_ble_eq_true rfl⟩) hD hS hA (fun v110 u111 ga113 gb114 H locs h112 hP hD hS => ?_)
      obtain ⟨rfl, rfl⟩ := Prod.mk.inj (k109.symm.trans h112)
      refine W.widen (k := 20) (n := 300) (by omega) (by omega) ?_
      have hF : fAct S X = (av_, au_) := by
        unfold fAct
        rw [if_neg (show ¬ X % 16 < 4 by omega), if_neg (show ¬ X % 16 < 7 by omega), if_neg (show ¬ X % 16 < 9 by omega), if_neg (show ¬ X % 16 = 9 by omega), if_pos (show X % 16 = 10 by omega), if_neg h600]
        exact kact
      exact W.iret (v := av_) hx hb hr (fun t ht hW => ⟨⟨av_, au_, rfl, hF, ga113, gb114, by rw [ht]; exact hP, hD⟩, hS.F ht⟩) hS.2.2 dL_act_204
    · skip
      have h600 : S.2.2.1 5 < 600 := Int32.not_le.mp cb103
      refine lv_iconst (v := (-1)) hx hb dL_act_177 (by decide) ?_
      refine lv_goto (tgt := 204) hx hb dL_act_178 (by decide) ?_
      refine W.widen (k := 20) (n := 300) (by omega) (by omega) ?_
      have hF : fAct S X = ((-1), S) := by
        unfold fAct
        rw [if_neg (show ¬ X % 16 < 4 by omega), if_neg (show ¬ X % 16 < 7 by omega), if_neg (show ¬ X % 16 < 9 by omega), if_neg (show ¬ X % 16 = 9 by omega), if_pos (show X % 16 = 10 by omega), if_pos h600]
      exact W.iret (v := (-1)) hx hb hr (fun t ht hW => ⟨⟨(-1), S, rfl, hF, ga101, gb102, by rw [ht]; exact hP, hD⟩, hS.F ht⟩) hS.2.2 dL_act_204
  · refine lv_tableIn (off := 185) (tgt := 205) hx hb dL_act_20 (by rw [h16]; decide) (by rw [h16]; decide) (by rw [h16]; rfl) (by decide) ?_
    refine lv_aload_n hx hb dL_act_205 rfl (lv_at hl 2 rfl) ?_
    refine lv_bipush (v := 20) hx hb dL_act_206 (by decide) ?_
    refine lv_iload_n hx hb dL_act_208 rfl (lv_at hl 3 rfl) ?_
    refine lv_bipush (v := 16) hx hb dL_act_209 (by decide) ?_
    refine lv_idiv hx hb dL_act_211 (by decide) ?_
    refine lv_topi (fun z115 ez115 => ?_)
    obtain rfl : z115 = nI (X / 16) := ez115.trans ((pk_div (a := X) (d := 16) (by omega) (by omega) (by omega) : nI X / nI 16 = _))
    refine lv_iconst (v := 2) hx hb dL_act_212 (by decide) ?_
    refine lv_irem hx hb dL_act_213 (by decide) ?_
    refine lv_topi (fun z116 ez116 => ?_)
    obtain rfl : z116 = nI ((X / 16) % 2) := ez116.trans ((pk_rem (a := X / 16) (d := 2) (by omega) (by omega) (by omega) : nI (X / 16) - nI (X / 16) / nI 2 * nI 2 = _))
    refine lv_iconst (v := 0) hx hb dL_act_214 (by decide) ?_
    refine lv_iconst (v := 0) hx hb dL_act_215 (by decide) ?_
    obtain ⟨av_, au_, k117⟩ : ∃ v u, fCall S 20 (nI ((X / 16) % 2)) 0 0 = (v, u) := ⟨_, _, rfl⟩
    have kact := k117
    refine xw_callEi (va_runS (As := [.ref (av 0), .int 20, .int (nI ((X / 16) % 2)), .int 0, .int 0]) (rest := []) ⟨hx, hb, hml, hown, hts⟩ (c_call l hst D y av ga5 gb6 H.size S 20 (nI ((X / 16) % 2)) 0 0 hG.ok) (va_cwS 5 hts gL_act_L_call rfl rfl rfl hd_L_call ⟨Nat.le_of_ble_eq_true rfl, Nat.le_of_ble_eq_true rfl⟩) (lS hE hXE hLN hXZ hS hA hP hD) rfl rfl hl.1 rfl (lv_room (Nat.le_of_ble_eq_true rfl)) dL_act_216 ⟨Nat.le_of_ble_eq_true rfl, Nat.le_of_ble_eq_true rfl⟩) hD hS hA (fun v118 u119 ga121 gb122 H locs h120 hP hD hS => ?_)
    obtain ⟨rfl, rfl⟩ := Prod.mk.inj (k117.symm.trans h120)
    refine W.widen (k := 20) (n := 300) (by omega) (by omega) ?_
    have hF : fAct S X = (av_, au_) := by
      unfold fAct
      rw [if_neg (show ¬ X % 16 < 4 by omega), if_neg (show ¬ X % 16 < 7 by omega), if_neg (show ¬ X % 16 < 9 by omega), if_neg (show ¬ X % 16 = 9 by omega), if_neg (show ¬ X % 16 = 10 by omega), if_pos (show X % 16 = 11 by omega)]
      exact kact
    exact W.iret (v := av_) hx hb hr (fun t ht hW => ⟨⟨av_, au_, rfl, hF, ga121, gb122, by rw [ht]; exact hP, hD⟩, hS.F ht⟩) hS.2.2 dL_act_219
  · refine lv_tableIn (off := 200) (tgt := 220) hx hb dL_act_20 (by rw [h16]; decide) (by rw [h16]; decide) (by rw [h16]; rfl) (by decide) ?_
    refine lv_aload_n hx hb dL_act_220 rfl (lv_at hl 2 rfl) ?_
    refine lv_bipush (v := 21) hx hb dL_act_221 (by decide) ?_
    refine lv_iload_n hx hb dL_act_223 rfl (lv_at hl 3 rfl) ?_
    refine lv_bipush (v := 16) hx hb dL_act_224 (by decide) ?_
    refine lv_idiv hx hb dL_act_226 (by decide) ?_
    refine lv_topi (fun z123 ez123 => ?_)
    obtain rfl : z123 = nI (X / 16) := ez123.trans ((pk_div (a := X) (d := 16) (by omega) (by omega) (by omega) : nI X / nI 16 = _))
    refine lv_iconst (v := 2) hx hb dL_act_227 (by decide) ?_
    refine lv_irem hx hb dL_act_228 (by decide) ?_
    refine lv_topi (fun z124 ez124 => ?_)
    obtain rfl : z124 = nI ((X / 16) % 2) := ez124.trans ((pk_rem (a := X / 16) (d := 2) (by omega) (by omega) (by omega) : nI (X / 16) - nI (X / 16) / nI 2 * nI 2 = _))
    refine lv_iconst (v := 0) hx hb dL_act_229 (by decide) ?_
    refine lv_iconst (v := 0) hx hb dL_act_230 (by decide) ?_
    obtain ⟨av_, au_, k125⟩ : ∃ v u, fCall S 21 (nI ((X / 16) % 2)) 0 0 = (v, u) := ⟨_, _, rfl⟩
    have kact := k125
    refine xw_callEi (va_runS (As := [.ref (av 0), .int 21, .int (nI ((X / 16) % 2)), .int 0, .int 0]) (rest := []) ⟨hx, hb, hml, hown, hts⟩ (c_call l hst D y av ga5 gb6 H.size S 21 (nI ((X / 16) % 2)) 0 0 hG.ok) (va_cwS 5 hts gL_act_L_call rfl rfl rfl hd_L_call ⟨Nat.le_of_ble_eq_true rfl, Nat.le_of_ble_eq_true rfl⟩) (lS hE hXE hLN hXZ hS hA hP hD) rfl rfl hl.1 rfl (lv_room (Nat.le_of_ble_eq_true rfl)) dL_act_231 ⟨Nat.le_of_ble_eq_true rfl, Nat.le_of_ble_eq_true rfl⟩) hD hS hA (fun v126 u127 ga129 gb130 H locs h128 hP hD hS => ?_)
    obtain ⟨rfl, rfl⟩ := Prod.mk.inj (k125.symm.trans h128)
    refine W.widen (k := 20) (n := 300) (by omega) (by omega) ?_
    have hF : fAct S X = (av_, au_) := by
      unfold fAct
      rw [if_neg (show ¬ X % 16 < 4 by omega), if_neg (show ¬ X % 16 < 7 by omega), if_neg (show ¬ X % 16 < 9 by omega), if_neg (show ¬ X % 16 = 9 by omega), if_neg (show ¬ X % 16 = 10 by omega), if_neg (show ¬ X % 16 = 11 by omega), if_pos (show X % 16 = 12 by omega)]
      exact kact
    exact W.iret (v := av_) hx hb hr (fun t ht hW => ⟨⟨av_, au_, rfl, hF, ga129, gb130, by rw [ht]; exact hP, hD⟩, hS.F ht⟩) hS.2.2 dL_act_234
  · refine lv_tableOut (tgt := 235) hx hb dL_act_20 (Or.inr (by rw [nI_toInt (by omega)]; omega)) (by decide) ?_
    refine lv_aload_n hx hb dL_act_235 rfl (lv_at hl 2 rfl) ?_
    refine lv_iload_n hx hb dL_act_236 rfl (lv_at hl 3 rfl) ?_
    refine lv_i2l (v := (nI X).toInt64) hx hb dL_act_237 rfl ?_
    refine lv_iconst (v := 1) hx hb dL_act_238 (by decide) ?_
    refine lv_iload_n hx hb dL_act_239 rfl (lv_at hl 3 rfl) ?_
    refine lv_bipush (v := 16) hx hb dL_act_240 (by decide) ?_
    refine lv_idiv hx hb dL_act_242 (by decide) ?_
    refine lv_topi (fun z131 ez131 => ?_)
    obtain rfl : z131 = nI (X / 16) := ez131.trans ((pk_div (a := X) (d := 16) (by omega) (by omega) (by omega) : nI X / nI 16 = _))
    refine lv_bipush (v := 100) hx hb dL_act_243 (by decide) ?_
    refine lv_irem hx hb dL_act_245 (by decide) ?_
    refine lv_topi (fun z132 ez132 => ?_)
    obtain rfl : z132 = nI ((X / 16) % 100) := ez132.trans ((pk_rem (a := X / 16) (d := 100) (by omega) (by omega) (by omega) : nI (X / 16) - nI (X / 16) / nI 100 * nI 100 = _))
    refine lv_iadd hx hb dL_act_246 ?_
    refine lv_topi (fun z133 ez133 => ?_)
    obtain rfl : z133 = nI (1 + ((X / 16) % 100)) := ez133.trans ((nI_add 1 ((X / 16) % 100) : nI 1 + nI ((X / 16) % 100) = _))
    obtain ⟨av_, au_, k134⟩ : ∃ v u, fSim S ((nI X).toInt64) (nI (1 + ((X / 16) % 100))) = (v, u) := ⟨_, _, rfl⟩
    have kact := k134
    refine xl_calli (vx_runSW (As := [.ref (av 0), .long ((nI X).toInt64), .int (nI (1 + ((X / 16) % 100)))]) (rest := []) ⟨hx, hb, hml, hown, hts⟩ (c_L_doSimulate l hst D y (av 0) (av 1) (av 2) (av 3) (av 4) (av 5) (av 7) (av 8) (av 9) (av 10) H.size (S.2.2.1) (S.2.2.2.1) ((nI X).toInt64) (nI (1 + ((X / 16) % 100))) (hG.ok).2.1) (vx_cwSW 3 hts gL_act_L_doSimulate rfl rfl rfl hd_L_doSimulate ⟨Nat.le_of_ble_eq_true rfl, Nat.le_of_ble_eq_true rfl⟩) (lS hE hXE hLN hXZ hS hA (hP.sub [0, 3, 4, 5, 6, 7, 8] rfl) (hD.sub [0, 3, 4, 5, 6, 7, 8] (by decide) rfl)) rfl rfl hl.1 rfl (lv_room (Nat.le_of_ble_eq_true rfl)) dL_act_247 ⟨Nat.le_of_ble_eq_true rfl, Nat.le_of_ble_eq_true rfl⟩) hP hD hS hA [0, 3, 4, 5, 6, 7, 8] rfl (by decide) (fun _ => rfl) (fun v135 u136 H locs h137 hP hD hS => ?_)
    have h1372 : fSim S ((nI X).toInt64) (nI (1 + ((X / 16) % 100))) = (v135, (S.1, S.2.1, S.2.2.1, u136, S.2.2.2.2)) := by unfold fSim; rw [h137]
    obtain ⟨h1373, h1374⟩ := Prod.mk.inj (k134.symm.trans h1372)
    obtain rfl : av_ = v135 := h1373
    have hP : va_P D vwCl (oW y av ga5 gb6 (S.1, S.2.1, S.2.2.1, u136, S.2.2.2.2)) H := hP
    have hD : va_D A (oW y av ga5 gb6 (S.1, S.2.1, S.2.2.1, u136, S.2.2.2.2)) := hD
    rw [← h1374] at hP hD
    refine W.widen (k := 20) (n := 300) (by omega) (by omega) ?_
    have hF : fAct S X = (av_, au_) := by
      unfold fAct
      rw [if_neg (show ¬ X % 16 < 4 by omega), if_neg (show ¬ X % 16 < 7 by omega), if_neg (show ¬ X % 16 < 9 by omega), if_neg (show ¬ X % 16 = 9 by omega), if_neg (show ¬ X % 16 = 10 by omega), if_neg (show ¬ X % 16 = 11 by omega), if_neg (show ¬ X % 16 = 12 by omega)]
      exact kact
    exact W.iret (v := av_) hx hb hr (fun t ht hW => ⟨⟨av_, au_, rfl, hF, ga5, gb6, by rw [ht]; exact hP, hD⟩, hS.F ht⟩) hS.2.2 dL_act_250
