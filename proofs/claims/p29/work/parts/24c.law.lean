/-! THE LAW'S BODY: the start -/
set_option maxHeartbeats 8000000 in
set_option maxRecDepth 100000 in
theorem law_mid {p : Program} {l : Launch} {e : Env} {s : State} {m : MethodId} {below : List Frame} {meth : Method} {c : Code} {b L : Nat} {xs : Nat → Int32} {D : va_G} {y : Nat → ClassId} (C0 : lw_At p s m meth c b L xs) (hE : gE D y s) (hXE : xE s) (hLN : lNc s) (hXZ : xZ (fun q : Nat => s.heap.size ≤ q) s s.heap) (hst : l.stackTraces = false) (hL : L ≤ 260) {av bv : Nat → Nat} (H : Heap) (locs : List Loc) (ls : Array Slot) (hP : va_P D vwCl (oW y av g00 g00 S00 ++ oW y bv g00 g00 S00) H) (hD : va_D (fun q : Nat => s.heap.size ≤ q) (oW y av g00 g00 S00 ++ oW y bv g00 g00 S00)) (hS : va_S (fun q : Nat => s.heap.size ≤ q) s.heap H locs) (hl : lv_has ls 23 [(0, .ref b), (1, .ref (av 0)), (2, .ref (bv 0))]) : W p l e room_1 s m #[Value.ref b] below meth c H locs (28) (620) (lw_Z below #[Value.ref b] s) (F0 m 16 ls []) := by
  obtain ⟨hx, hb, hr, hml, hown, hts, hX, hbl, hlocks, hgv⟩ := id C0
  have hown : s.vm.findClass RL = some m.cls := hown
  have htl : ∀ w ∈ wsL_law, w.before #[Value.ref b] s = true := fun w h => hts w (wsL_law_in w h)
  have hA : ∀ q : Nat, s.heap.size ≤ q → (fun q : Nat => s.heap.size ≤ q) q := fun _ h => h
  have hbA : ¬ (fun q : Nat => s.heap.size ≤ q) b := Nat.not_le.mpr hbl
  obtain ⟨X0, hX0, eX0⟩ := cell_nat L xs 0
  obtain ⟨X1, hX1, eX1⟩ := cell_nat L xs 1
  obtain ⟨X2, hX2, eX2⟩ := cell_nat L xs 2
  obtain ⟨X3, hX3, eX3⟩ := cell_nat L xs 3
  obtain ⟨X4, hX4, eX4⟩ := cell_nat L xs 4
  obtain ⟨NV, hNV⟩ : ∃ z, z = 4 + (X0 % 16) := ⟨_, rfl⟩
  obtain ⟨SV, hSV⟩ : ∃ z, z = X2 % 5 := ⟨_, rfl⟩
  obtain ⟨VV, hVV⟩ : ∃ z, z = 5 + (X3 % 60) := ⟨_, rfl⟩
  have hvs : ¬ f_X5_isSettingValue 0 (nI VV) = 0 := by
    unfold f_X5_isSettingValue
    rw [if_pos rfl, if_neg (show ¬ nI VV < 5 from nI_nlt (b := 5) (by omega) (by omega)), if_neg (show ¬ 999 < nI VV from nI_nlt (a := 999) (by omega) (by omega))]
    decide
  rcases Nat.mod_two_eq_zero_or_one X1 with hp | hp
  · skip
    obtain ⟨KV, hKV⟩ : ∃ z, z = 1 := ⟨_, rfl⟩
    have hG1 : GS (sAct S00 (bgF iniR (nI NV) (nI KV) (nI SV))) := GS.act' ok00 (by decide) (fun s _ h => absurd rfl h) (Gd.make (by decide) (by decide) (by omega) (by omega) (by omega) (by omega))
    have hG2 : GS (sAct (sAct S00 (bgF iniR (nI NV) (nI KV) (nI SV))) (f_X3_changeSetting (bgF iniR (nI NV) (nI KV) (nI SV)) 0 (nI VV))) := hG1.act (hG1.gd.change hvs)
    refine lv_iconst (v := 4) hx hb dL_law_16 (by decide) ?_
    refine lv_aload_n hx hb dL_law_17 rfl (lv_at hl 0 rfl) ?_
    refine lv_iconst (v := 0) hx hb dL_law_18 (by decide) ?_
    refine xs_calli (va_runS (As := [.ref b, .int 0]) (rest := [.int 4]) ⟨hx, hb, hml, hown, htl⟩ (c_cell l b L xs (0) H.size (by omega) (by omega)) (va_cwS 2 htl gL_law_L_cell rfl rfl rfl hd_L_cell ⟨Nat.le_of_ble_eq_true rfl, Nat.le_of_ble_eq_true rfl⟩) (cS (k := nI 0) hX hbl hbA hS) rfl rfl hl.1 rfl (lv_room (Nat.le_of_ble_eq_true rfl)) dL_law_19 ⟨by show _ ≤ 600130; omega, by show _ ≤ 7301079; omega⟩) (fun v360 h361 => ?_)
    obtain rfl : nI X0 = v360 := eX0.symm.trans h361
    refine lv_bipush (v := 16) hx hb dL_law_22 (by decide) ?_
    refine lv_irem hx hb dL_law_24 (by decide) ?_
    refine lv_topi (fun z362 ez362 => ?_)
    obtain rfl : z362 = nI (X0 % 16) := ez362.trans ((pk_rem (a := X0) (d := 16) (by omega) (by omega) (by omega) : nI X0 - nI X0 / nI 16 * nI 16 = _))
    refine lv_iadd hx hb dL_law_25 ?_
    refine lv_topi (fun z363 ez363 => ?_)
    obtain rfl : z363 = nI (4 + (X0 % 16)) := ez363.trans ((nI_add 4 (X0 % 16) : nI 4 + nI (X0 % 16) = _))
    rw [show nI (4 + (X0 % 16)) = nI NV from congrArg nI (by omega)]
    refine lv_istore_n (lv' := [(3, .int (nI NV)), (0, .ref b), (1, .ref (av 0)), (2, .ref (bv 0))]) hx hb dL_law_26 rfl hl (by decide) rfl (fun ls hl => ?_)
    refine lv_aload_n hx hb dL_law_27 rfl (lv_at hl 1 rfl) ?_
    refine lv_iconst (v := 1) hx hb dL_law_28 (by decide) ?_
    refine xs_calli (va_runS (As := [.ref b, .int 1]) (rest := []) ⟨hx, hb, hml, hown, htl⟩ (c_cell l b L xs (1) H.size (by omega) (by omega)) (va_cwS 2 htl gL_law_L_cell rfl rfl rfl hd_L_cell ⟨Nat.le_of_ble_eq_true rfl, Nat.le_of_ble_eq_true rfl⟩) (cS (k := nI 1) hX hbl hbA hS) rfl rfl hl.1 rfl (lv_room (Nat.le_of_ble_eq_true rfl)) dL_law_29 ⟨by show _ ≤ 600130; omega, by show _ ≤ 7301079; omega⟩) (fun v364 h365 => ?_)
    obtain rfl : nI X1 = v364 := eX1.symm.trans h365
    refine lv_iconst (v := 2) hx hb dL_law_32 (by decide) ?_
    refine lv_irem hx hb dL_law_33 (by decide) ?_
    refine lv_topi (fun z366 ez366 => ?_)
    obtain rfl : z366 = nI (X1 % 2) := ez366.trans ((pk_rem (a := X1) (d := 2) (by omega) (by omega) (by omega) : nI X1 - nI X1 / nI 2 * nI 2 = _))
    refine lv_if_ne (tgt := 41) hx hb dL_law_34 (by decide) (fun cb367 => absurd (congrArg nI (show (X1 % 2) = 0 by omega)) cb367) (fun cb367 => ?_)
    refine lv_iconst (v := 1) hx hb dL_law_37 (by decide) ?_
    refine lv_goto (tgt := 44) hx hb dL_law_38 (by decide) ?_
    rw [show (1 : Int32) = nI KV from congrArg nI (show 1 = KV by omega)]
    refine lv_istore (lv' := [(4, .int (nI KV)), (3, .int (nI NV)), (0, .ref b), (1, .ref (av 0)), (2, .ref (bv 0))]) hx hb dL_law_44 hl (by decide) rfl (fun ls hl => ?_)
    refine lv_aload_n hx hb dL_law_46 rfl (lv_at hl 2 rfl) ?_
    refine lv_iconst (v := 2) hx hb dL_law_47 (by decide) ?_
    refine xs_calli (va_runS (As := [.ref b, .int 2]) (rest := []) ⟨hx, hb, hml, hown, htl⟩ (c_cell l b L xs (2) H.size (by omega) (by omega)) (va_cwS 2 htl gL_law_L_cell rfl rfl rfl hd_L_cell ⟨Nat.le_of_ble_eq_true rfl, Nat.le_of_ble_eq_true rfl⟩) (cS (k := nI 2) hX hbl hbA hS) rfl rfl hl.1 rfl (lv_room (Nat.le_of_ble_eq_true rfl)) dL_law_48 ⟨by show _ ≤ 600130; omega, by show _ ≤ 7301079; omega⟩) (fun v368 h369 => ?_)
    obtain rfl : nI X2 = v368 := eX2.symm.trans h369
    refine lv_iconst (v := 5) hx hb dL_law_51 (by decide) ?_
    refine lv_irem hx hb dL_law_52 (by decide) ?_
    refine lv_topi (fun z370 ez370 => ?_)
    obtain rfl : z370 = nI (X2 % 5) := ez370.trans ((pk_rem (a := X2) (d := 5) (by omega) (by omega) (by omega) : nI X2 - nI X2 / nI 5 * nI 5 = _))
    rw [show nI (X2 % 5) = nI SV from congrArg nI (by omega)]
    refine lv_istore (lv' := [(5, .int (nI SV)), (4, .int (nI KV)), (3, .int (nI NV)), (0, .ref b), (1, .ref (av 0)), (2, .ref (bv 0))]) hx hb dL_law_53 hl (by decide) rfl (fun ls hl => ?_)
    refine lv_aload_n hx hb dL_law_55 rfl (lv_at hl 4 rfl) ?_
    refine lv_bipush (v := 8) hx hb dL_law_56 (by decide) ?_
    refine lv_iload_n hx hb dL_law_58 rfl (lv_at hl 2 rfl) ?_
    refine lv_iload hx hb dL_law_59 (lv_at hl 1 rfl) ?_
    refine lv_iload hx hb dL_law_61 (lv_at hl 0 rfl) ?_
    have k371 : fCall S00 8 (nI NV) (nI KV) (nI SV) = (nI KV, sAct S00 (bgF iniR (nI NV) (nI KV) (nI SV))) := (s_make S00 (n := NV) (k := KV) (s := SV) tl00 (by decide) (by decide) (by omega) (by omega) (by omega) (by omega))
    have hP := xa_permP List.perm_append_comm hP
    have hD := xa_permD List.perm_append_comm hD
    refine xl_callEi (ex := oW y bv g00 g00 S00) (va_runS (As := [.ref (av 0), .int 8, .int (nI NV), .int (nI KV), .int (nI SV)]) (rest := []) ⟨hx, hb, hml, hown, htl⟩ (c_call l hst D y av g00 g00 H.size S00 8 (nI NV) (nI KV) (nI SV) ok00) (va_cwS 5 htl gL_law_L_call rfl rfl rfl hd_L_call ⟨Nat.le_of_ble_eq_true rfl, Nat.le_of_ble_eq_true rfl⟩) (lS hE hXE hLN hXZ hS hA (law_subE hP) (law_subD hD)) rfl rfl hl.1 rfl (lv_room (Nat.le_of_ble_eq_true rfl)) dL_law_63 ⟨by show _ ≤ 600130; omega, by show _ ≤ 7301079; omega⟩) hP hD hS hA (fun v372 u373 ga375 gb376 H locs h374 hP hD hS => ?_)
    have hP := xa_permP List.perm_append_comm hP
    have hD := xa_permD List.perm_append_comm hD
    obtain ⟨rfl, rfl⟩ := Prod.mk.inj (k371.symm.trans h374)
    refine lv_iload hx hb dL_law_66 (lv_at hl 1 rfl) ?_
    refine lv_icmp_ne (tgt := 139) hx hb dL_law_68 (by decide) (fun cb377 => absurd (congrArg nI (show KV = KV by omega)) cb377) (fun cb377 => ?_)
    refine lv_aload_n hx hb dL_law_71 rfl (lv_at hl 5 rfl) ?_
    refine lv_bipush (v := 8) hx hb dL_law_72 (by decide) ?_
    refine lv_iload_n hx hb dL_law_74 rfl (lv_at hl 2 rfl) ?_
    refine lv_iload hx hb dL_law_75 (lv_at hl 1 rfl) ?_
    refine lv_iload hx hb dL_law_77 (lv_at hl 0 rfl) ?_
    have k378 : fCall S00 8 (nI NV) (nI KV) (nI SV) = (nI KV, sAct S00 (bgF iniR (nI NV) (nI KV) (nI SV))) := (s_make S00 (n := NV) (k := KV) (s := SV) tl00 (by decide) (by decide) (by omega) (by omega) (by omega) (by omega))
    refine xl_callEi (ex := oW y av ga375 gb376 (sAct S00 (bgF iniR (nI NV) (nI KV) (nI SV)))) (va_runS (As := [.ref (bv 0), .int 8, .int (nI NV), .int (nI KV), .int (nI SV)]) (rest := []) ⟨hx, hb, hml, hown, htl⟩ (c_call l hst D y bv g00 g00 H.size S00 8 (nI NV) (nI KV) (nI SV) ok00) (va_cwS 5 htl gL_law_L_call rfl rfl rfl hd_L_call ⟨Nat.le_of_ble_eq_true rfl, Nat.le_of_ble_eq_true rfl⟩) (lS hE hXE hLN hXZ hS hA (law_subE hP) (law_subD hD)) rfl rfl hl.1 rfl (lv_room (Nat.le_of_ble_eq_true rfl)) dL_law_79 ⟨by show _ ≤ 600130; omega, by show _ ≤ 7301079; omega⟩) hP hD hS hA (fun v379 u380 ga382 gb383 H locs h381 hP hD hS => ?_)
    obtain ⟨rfl, rfl⟩ := Prod.mk.inj (k378.symm.trans h381)
    refine lv_iload hx hb dL_law_82 (lv_at hl 1 rfl) ?_
    refine lv_icmp_ne (tgt := 139) hx hb dL_law_84 (by decide) (fun cb384 => absurd (congrArg nI (show KV = KV by omega)) cb384) (fun cb384 => ?_)
    refine lv_aload_n hx hb dL_law_87 rfl (lv_at hl 4 rfl) ?_
    refine lv_bipush (v := 12) hx hb dL_law_88 (by decide) ?_
    refine lv_iconst (v := 0) hx hb dL_law_90 (by decide) ?_
    refine lv_iconst (v := 5) hx hb dL_law_91 (by decide) ?_
    refine lv_aload_n hx hb dL_law_92 rfl (lv_at hl 3 rfl) ?_
    refine lv_iconst (v := 3) hx hb dL_law_93 (by decide) ?_
    refine xs_calli (va_runS (As := [.ref b, .int 3]) (rest := [.int 5, .int 0, .int 12, .ref (av 0)]) ⟨hx, hb, hml, hown, htl⟩ (c_cell l b L xs (3) H.size (by omega) (by omega)) (va_cwS 2 htl gL_law_L_cell rfl rfl rfl hd_L_cell ⟨Nat.le_of_ble_eq_true rfl, Nat.le_of_ble_eq_true rfl⟩) (cS (k := nI 3) hX hbl hbA hS) rfl rfl hl.1 rfl (lv_room (Nat.le_of_ble_eq_true rfl)) dL_law_94 ⟨by show _ ≤ 600130; omega, by show _ ≤ 7301079; omega⟩) (fun v385 h386 => ?_)
    obtain rfl : nI X3 = v385 := eX3.symm.trans h386
    refine lv_bipush (v := 60) hx hb dL_law_97 (by decide) ?_
    refine lv_irem hx hb dL_law_99 (by decide) ?_
    refine lv_topi (fun z387 ez387 => ?_)
    obtain rfl : z387 = nI (X3 % 60) := ez387.trans ((pk_rem (a := X3) (d := 60) (by omega) (by omega) (by omega) : nI X3 - nI X3 / nI 60 * nI 60 = _))
    refine lv_iadd hx hb dL_law_100 ?_
    refine lv_topi (fun z388 ez388 => ?_)
    obtain rfl : z388 = nI (5 + (X3 % 60)) := ez388.trans ((nI_add 5 (X3 % 60) : nI 5 + nI (X3 % 60) = _))
    rw [show nI (5 + (X3 % 60)) = nI VV from congrArg nI (by omega)]
    refine lv_iconst (v := 0) hx hb dL_law_101 (by decide) ?_
    have k389 : fCall (sAct S00 (bgF iniR (nI NV) (nI KV) (nI SV))) 12 0 (nI VV) 0 = (100, sAct (sAct S00 (bgF iniR (nI NV) (nI KV) (nI SV))) (f_X3_changeSetting (bgF iniR (nI NV) (nI KV) (nI SV)) 0 (nI VV))) := (s_lay (sAct S00 (bgF iniR (nI NV) (nI KV) (nI SV))) 0 hvs)
    have hP := xa_permP List.perm_append_comm hP
    have hD := xa_permD List.perm_append_comm hD
    refine xl_callEi (ex := oW y bv ga382 gb383 (sAct S00 (bgF iniR (nI NV) (nI KV) (nI SV)))) (va_runS (As := [.ref (av 0), .int 12, .int 0, .int (nI VV), .int 0]) (rest := []) ⟨hx, hb, hml, hown, htl⟩ (c_call l hst D y av ga375 gb376 H.size (sAct S00 (bgF iniR (nI NV) (nI KV) (nI SV))) 12 0 (nI VV) 0 hG1.ok) (va_cwS 5 htl gL_law_L_call rfl rfl rfl hd_L_call ⟨Nat.le_of_ble_eq_true rfl, Nat.le_of_ble_eq_true rfl⟩) (lS hE hXE hLN hXZ hS hA (law_subE hP) (law_subD hD)) rfl rfl hl.1 rfl (lv_room (Nat.le_of_ble_eq_true rfl)) dL_law_102 ⟨by show _ ≤ 600130; omega, by show _ ≤ 7301079; omega⟩) hP hD hS hA (fun v390 u391 ga393 gb394 H locs h392 hP hD hS => ?_)
    have hP := xa_permP List.perm_append_comm hP
    have hD := xa_permD List.perm_append_comm hD
    obtain ⟨rfl, rfl⟩ := Prod.mk.inj (k389.symm.trans h392)
    refine xs_calli (va_runS (As := [.int 100]) (rest := []) ⟨hx, hb, hml, hown, htl⟩ (c_L_thrown l D y H.size 100) (va_cwS 1 htl gL_law_L_thrown rfl rfl rfl hd_L_thrown ⟨Nat.le_of_ble_eq_true rfl, Nat.le_of_ble_eq_true rfl⟩) (gS hE (hP.sub [] rfl) (hD.sub [] (by decide) rfl)) rfl rfl hl.1 rfl (lv_room (Nat.le_of_ble_eq_true rfl)) dL_law_105 ⟨by show _ ≤ 600130; omega, by show _ ≤ 7301079; omega⟩) (fun v395 h396 => ?_)
    obtain rfl : 0 = v395 := ((show f_L_thrown 100 = 0 by decide)).symm.trans h396
    refine lv_if_ne (tgt := 139) hx hb dL_law_108 (by decide) (fun cb397 => absurd (by decide) cb397) (fun cb397 => ?_)
    refine lv_aload_n hx hb dL_law_111 rfl (lv_at hl 5 rfl) ?_
    refine lv_bipush (v := 12) hx hb dL_law_112 (by decide) ?_
    refine lv_iconst (v := 0) hx hb dL_law_114 (by decide) ?_
    refine lv_iconst (v := 5) hx hb dL_law_115 (by decide) ?_
    refine lv_aload_n hx hb dL_law_116 rfl (lv_at hl 3 rfl) ?_
    refine lv_iconst (v := 3) hx hb dL_law_117 (by decide) ?_
    refine xs_calli (va_runS (As := [.ref b, .int 3]) (rest := [.int 5, .int 0, .int 12, .ref (bv 0)]) ⟨hx, hb, hml, hown, htl⟩ (c_cell l b L xs (3) H.size (by omega) (by omega)) (va_cwS 2 htl gL_law_L_cell rfl rfl rfl hd_L_cell ⟨Nat.le_of_ble_eq_true rfl, Nat.le_of_ble_eq_true rfl⟩) (cS (k := nI 3) hX hbl hbA hS) rfl rfl hl.1 rfl (lv_room (Nat.le_of_ble_eq_true rfl)) dL_law_118 ⟨by show _ ≤ 600130; omega, by show _ ≤ 7301079; omega⟩) (fun v398 h399 => ?_)
    obtain rfl : nI X3 = v398 := eX3.symm.trans h399
    refine lv_bipush (v := 60) hx hb dL_law_121 (by decide) ?_
    refine lv_irem hx hb dL_law_123 (by decide) ?_
    refine lv_topi (fun z400 ez400 => ?_)
    obtain rfl : z400 = nI (X3 % 60) := ez400.trans ((pk_rem (a := X3) (d := 60) (by omega) (by omega) (by omega) : nI X3 - nI X3 / nI 60 * nI 60 = _))
    refine lv_iadd hx hb dL_law_124 ?_
    refine lv_topi (fun z401 ez401 => ?_)
    obtain rfl : z401 = nI (5 + (X3 % 60)) := ez401.trans ((nI_add 5 (X3 % 60) : nI 5 + nI (X3 % 60) = _))
    rw [show nI (5 + (X3 % 60)) = nI VV from congrArg nI (by omega)]
    refine lv_iconst (v := 0) hx hb dL_law_125 (by decide) ?_
    have k402 : fCall (sAct S00 (bgF iniR (nI NV) (nI KV) (nI SV))) 12 0 (nI VV) 0 = (100, sAct (sAct S00 (bgF iniR (nI NV) (nI KV) (nI SV))) (f_X3_changeSetting (bgF iniR (nI NV) (nI KV) (nI SV)) 0 (nI VV))) := (s_lay (sAct S00 (bgF iniR (nI NV) (nI KV) (nI SV))) 0 hvs)
    refine xl_callEi (ex := oW y av ga393 gb394 (sAct (sAct S00 (bgF iniR (nI NV) (nI KV) (nI SV))) (f_X3_changeSetting (bgF iniR (nI NV) (nI KV) (nI SV)) 0 (nI VV)))) (va_runS (As := [.ref (bv 0), .int 12, .int 0, .int (nI VV), .int 0]) (rest := []) ⟨hx, hb, hml, hown, htl⟩ (c_call l hst D y bv ga382 gb383 H.size (sAct S00 (bgF iniR (nI NV) (nI KV) (nI SV))) 12 0 (nI VV) 0 hG1.ok) (va_cwS 5 htl gL_law_L_call rfl rfl rfl hd_L_call ⟨Nat.le_of_ble_eq_true rfl, Nat.le_of_ble_eq_true rfl⟩) (lS hE hXE hLN hXZ hS hA (law_subE hP) (law_subD hD)) rfl rfl hl.1 rfl (lv_room (Nat.le_of_ble_eq_true rfl)) dL_law_126 ⟨by show _ ≤ 600130; omega, by show _ ≤ 7301079; omega⟩) hP hD hS hA (fun v403 u404 ga406 gb407 H locs h405 hP hD hS => ?_)
    obtain ⟨rfl, rfl⟩ := Prod.mk.inj (k402.symm.trans h405)
    refine xs_calli (va_runS (As := [.int 100]) (rest := []) ⟨hx, hb, hml, hown, htl⟩ (c_L_thrown l D y H.size 100) (va_cwS 1 htl gL_law_L_thrown rfl rfl rfl hd_L_thrown ⟨Nat.le_of_ble_eq_true rfl, Nat.le_of_ble_eq_true rfl⟩) (gS hE (hP.sub [] rfl) (hD.sub [] (by decide) rfl)) rfl rfl hl.1 rfl (lv_room (Nat.le_of_ble_eq_true rfl)) dL_law_129 ⟨by show _ ≤ 600130; omega, by show _ ≤ 7301079; omega⟩) (fun v408 h409 => ?_)
    obtain rfl : 0 = v408 := ((show f_L_thrown 100 = 0 by decide)).symm.trans h409
    refine lv_if_ne (tgt := 139) hx hb dL_law_132 (by decide) (fun cb410 => absurd (by decide) cb410) (fun cb410 => ?_)
    refine lv_iconst (v := 1) hx hb dL_law_135 (by decide) ?_
    refine lv_goto (tgt := 140) hx hb dL_law_136 (by decide) ?_
    refine lv_istore (lv' := [(6, .int 1), (5, .int (nI SV)), (4, .int (nI KV)), (3, .int (nI NV)), (0, .ref b), (1, .ref (av 0)), (2, .ref (bv 0))]) hx hb dL_law_140 hl (by decide) rfl (fun ls hl => ?_)
    refine lv_bipush (v := 6) hx hb dL_law_142 (by decide) ?_
    refine lv_aload_n hx hb dL_law_144 rfl (lv_at hl 4 rfl) ?_
    refine lv_iconst (v := 4) hx hb dL_law_145 (by decide) ?_
    refine xs_calli (va_runS (As := [.ref b, .int 4]) (rest := [.int 6]) ⟨hx, hb, hml, hown, htl⟩ (c_cell l b L xs (4) H.size (by omega) (by omega)) (va_cwS 2 htl gL_law_L_cell rfl rfl rfl hd_L_cell ⟨Nat.le_of_ble_eq_true rfl, Nat.le_of_ble_eq_true rfl⟩) (cS (k := nI 4) hX hbl hbA hS) rfl rfl hl.1 rfl (lv_room (Nat.le_of_ble_eq_true rfl)) dL_law_146 ⟨by show _ ≤ 600130; omega, by show _ ≤ 7301079; omega⟩) (fun v411 h412 => ?_)
    obtain rfl : nI X4 = v411 := eX4.symm.trans h412
    refine lv_bipush (v := 17) hx hb dL_law_149 (by decide) ?_
    refine lv_irem hx hb dL_law_151 (by decide) ?_
    refine lv_topi (fun z413 ez413 => ?_)
    obtain rfl : z413 = nI (X4 % 17) := ez413.trans ((pk_rem (a := X4) (d := 17) (by omega) (by omega) (by omega) : nI X4 - nI X4 / nI 17 * nI 17 = _))
    refine lv_iadd hx hb dL_law_152 ?_
    refine lv_topi (fun z414 ez414 => ?_)
    obtain rfl : z414 = nI (6 + (X4 % 17)) := ez414.trans ((nI_add 6 (X4 % 17) : nI 6 + nI (X4 % 17) = _))
    refine lv_istore (lv' := [(7, .int (nI (6 + (X4 % 17)))), (6, .int 1), (5, .int (nI SV)), (4, .int (nI KV)), (3, .int (nI NV)), (0, .ref b), (1, .ref (av 0)), (2, .ref (bv 0))]) hx hb dL_law_153 hl (by decide) rfl (fun ls hl => ?_)
    refine lv_iconst (v := 0) hx hb dL_law_155 (by decide) ?_
    refine lv_istore (lv' := [(8, .int 0), (7, .int (nI (6 + (X4 % 17)))), (6, .int 1), (5, .int (nI SV)), (4, .int (nI KV)), (3, .int (nI NV)), (0, .ref b), (1, .ref (av 0)), (2, .ref (bv 0))]) hx hb dL_law_156 hl (by decide) rfl (fun ls hl => ?_)
    refine W.widen (k := 1000 + 3200 * 0) (n := 20000 + 58000 * 0) (by omega) (by omega) ?_
    exact law_loop C0 hE hXE hLN hXZ hst hL (T := 6 + (X4 % 17)) (by omega) (6 + (X4 % 17)) 0 (by omega) (sAct (sAct S00 (bgF iniR (nI NV) (nI KV) (nI SV))) (f_X3_changeSetting (bgF iniR (nI NV) (nI KV) (nI SV)) 0 (nI VV))) iniR ga393 gb394 ga406 gb407 H locs ls hG2 hP hD hS (lv_sub hl [6, 7, 8, 2, 1, 0] rfl)
  · skip
    obtain ⟨KV, hKV⟩ : ∃ z, z = NV - 1 := ⟨_, rfl⟩
    have hG1 : GS (sAct S00 (bgF iniR (nI NV) (nI KV) (nI SV))) := GS.act' ok00 (by decide) (fun s _ h => absurd rfl h) (Gd.make (by decide) (by decide) (by omega) (by omega) (by omega) (by omega))
    have hG2 : GS (sAct (sAct S00 (bgF iniR (nI NV) (nI KV) (nI SV))) (f_X3_changeSetting (bgF iniR (nI NV) (nI KV) (nI SV)) 0 (nI VV))) := hG1.act (hG1.gd.change hvs)
    refine lv_iconst (v := 4) hx hb dL_law_16 (by decide) ?_
    refine lv_aload_n hx hb dL_law_17 rfl (lv_at hl 0 rfl) ?_
    refine lv_iconst (v := 0) hx hb dL_law_18 (by decide) ?_
    refine xs_calli (va_runS (As := [.ref b, .int 0]) (rest := [.int 4]) ⟨hx, hb, hml, hown, htl⟩ (c_cell l b L xs (0) H.size (by omega) (by omega)) (va_cwS 2 htl gL_law_L_cell rfl rfl rfl hd_L_cell ⟨Nat.le_of_ble_eq_true rfl, Nat.le_of_ble_eq_true rfl⟩) (cS (k := nI 0) hX hbl hbA hS) rfl rfl hl.1 rfl (lv_room (Nat.le_of_ble_eq_true rfl)) dL_law_19 ⟨by show _ ≤ 600130; omega, by show _ ≤ 7301079; omega⟩) (fun v415 h416 => ?_)
    obtain rfl : nI X0 = v415 := eX0.symm.trans h416
    refine lv_bipush (v := 16) hx hb dL_law_22 (by decide) ?_
    refine lv_irem hx hb dL_law_24 (by decide) ?_
    refine lv_topi (fun z417 ez417 => ?_)
    obtain rfl : z417 = nI (X0 % 16) := ez417.trans ((pk_rem (a := X0) (d := 16) (by omega) (by omega) (by omega) : nI X0 - nI X0 / nI 16 * nI 16 = _))
    refine lv_iadd hx hb dL_law_25 ?_
    refine lv_topi (fun z418 ez418 => ?_)
    obtain rfl : z418 = nI (4 + (X0 % 16)) := ez418.trans ((nI_add 4 (X0 % 16) : nI 4 + nI (X0 % 16) = _))
    rw [show nI (4 + (X0 % 16)) = nI NV from congrArg nI (by omega)]
    refine lv_istore_n (lv' := [(3, .int (nI NV)), (0, .ref b), (1, .ref (av 0)), (2, .ref (bv 0))]) hx hb dL_law_26 rfl hl (by decide) rfl (fun ls hl => ?_)
    refine lv_aload_n hx hb dL_law_27 rfl (lv_at hl 1 rfl) ?_
    refine lv_iconst (v := 1) hx hb dL_law_28 (by decide) ?_
    refine xs_calli (va_runS (As := [.ref b, .int 1]) (rest := []) ⟨hx, hb, hml, hown, htl⟩ (c_cell l b L xs (1) H.size (by omega) (by omega)) (va_cwS 2 htl gL_law_L_cell rfl rfl rfl hd_L_cell ⟨Nat.le_of_ble_eq_true rfl, Nat.le_of_ble_eq_true rfl⟩) (cS (k := nI 1) hX hbl hbA hS) rfl rfl hl.1 rfl (lv_room (Nat.le_of_ble_eq_true rfl)) dL_law_29 ⟨by show _ ≤ 600130; omega, by show _ ≤ 7301079; omega⟩) (fun v419 h420 => ?_)
    obtain rfl : nI X1 = v419 := eX1.symm.trans h420
    refine lv_iconst (v := 2) hx hb dL_law_32 (by decide) ?_
    refine lv_irem hx hb dL_law_33 (by decide) ?_
    refine lv_topi (fun z421 ez421 => ?_)
    obtain rfl : z421 = nI (X1 % 2) := ez421.trans ((pk_rem (a := X1) (d := 2) (by omega) (by omega) (by omega) : nI X1 - nI X1 / nI 2 * nI 2 = _))
    refine lv_if_ne (tgt := 41) hx hb dL_law_34 (by decide) (fun cb422 => ?_) (fun cb422 => absurd cb422 (fun q => absurd ((nI_eq (a := X1 % 2) (b := 0) (by omega) (by omega)).mp q) (by omega)))
    refine lv_iload_n hx hb dL_law_41 rfl (lv_at hl 0 rfl) ?_
    refine lv_iconst (v := 1) hx hb dL_law_42 (by decide) ?_
    refine lv_isub hx hb dL_law_43 ?_
    refine lv_topi (fun z423 ez423 => ?_)
    obtain rfl : z423 = nI (NV - 1) := ez423.trans ((pk_sub (a := NV) (b := 1) (by omega) : nI NV - nI 1 = _))
    rw [show nI (NV - 1) = nI KV from congrArg nI (show NV - 1 = KV by omega)]
    refine lv_istore (lv' := [(4, .int (nI KV)), (3, .int (nI NV)), (0, .ref b), (1, .ref (av 0)), (2, .ref (bv 0))]) hx hb dL_law_44 hl (by decide) rfl (fun ls hl => ?_)
    refine lv_aload_n hx hb dL_law_46 rfl (lv_at hl 2 rfl) ?_
    refine lv_iconst (v := 2) hx hb dL_law_47 (by decide) ?_
    refine xs_calli (va_runS (As := [.ref b, .int 2]) (rest := []) ⟨hx, hb, hml, hown, htl⟩ (c_cell l b L xs (2) H.size (by omega) (by omega)) (va_cwS 2 htl gL_law_L_cell rfl rfl rfl hd_L_cell ⟨Nat.le_of_ble_eq_true rfl, Nat.le_of_ble_eq_true rfl⟩) (cS (k := nI 2) hX hbl hbA hS) rfl rfl hl.1 rfl (lv_room (Nat.le_of_ble_eq_true rfl)) dL_law_48 ⟨by show _ ≤ 600130; omega, by show _ ≤ 7301079; omega⟩) (fun v424 h425 => ?_)
    obtain rfl : nI X2 = v424 := eX2.symm.trans h425
    refine lv_iconst (v := 5) hx hb dL_law_51 (by decide) ?_
    refine lv_irem hx hb dL_law_52 (by decide) ?_
    refine lv_topi (fun z426 ez426 => ?_)
    obtain rfl : z426 = nI (X2 % 5) := ez426.trans ((pk_rem (a := X2) (d := 5) (by omega) (by omega) (by omega) : nI X2 - nI X2 / nI 5 * nI 5 = _))
    rw [show nI (X2 % 5) = nI SV from congrArg nI (by omega)]
    refine lv_istore (lv' := [(5, .int (nI SV)), (4, .int (nI KV)), (3, .int (nI NV)), (0, .ref b), (1, .ref (av 0)), (2, .ref (bv 0))]) hx hb dL_law_53 hl (by decide) rfl (fun ls hl => ?_)
    refine lv_aload_n hx hb dL_law_55 rfl (lv_at hl 4 rfl) ?_
    refine lv_bipush (v := 8) hx hb dL_law_56 (by decide) ?_
    refine lv_iload_n hx hb dL_law_58 rfl (lv_at hl 2 rfl) ?_
    refine lv_iload hx hb dL_law_59 (lv_at hl 1 rfl) ?_
    refine lv_iload hx hb dL_law_61 (lv_at hl 0 rfl) ?_
    have k427 : fCall S00 8 (nI NV) (nI KV) (nI SV) = (nI KV, sAct S00 (bgF iniR (nI NV) (nI KV) (nI SV))) := (s_make S00 (n := NV) (k := KV) (s := SV) tl00 (by decide) (by decide) (by omega) (by omega) (by omega) (by omega))
    have hP := xa_permP List.perm_append_comm hP
    have hD := xa_permD List.perm_append_comm hD
    refine xl_callEi (ex := oW y bv g00 g00 S00) (va_runS (As := [.ref (av 0), .int 8, .int (nI NV), .int (nI KV), .int (nI SV)]) (rest := []) ⟨hx, hb, hml, hown, htl⟩ (c_call l hst D y av g00 g00 H.size S00 8 (nI NV) (nI KV) (nI SV) ok00) (va_cwS 5 htl gL_law_L_call rfl rfl rfl hd_L_call ⟨Nat.le_of_ble_eq_true rfl, Nat.le_of_ble_eq_true rfl⟩) (lS hE hXE hLN hXZ hS hA (law_subE hP) (law_subD hD)) rfl rfl hl.1 rfl (lv_room (Nat.le_of_ble_eq_true rfl)) dL_law_63 ⟨by show _ ≤ 600130; omega, by show _ ≤ 7301079; omega⟩) hP hD hS hA (fun v428 u429 ga431 gb432 H locs h430 hP hD hS => ?_)
    have hP := xa_permP List.perm_append_comm hP
    have hD := xa_permD List.perm_append_comm hD
    obtain ⟨rfl, rfl⟩ := Prod.mk.inj (k427.symm.trans h430)
    refine lv_iload hx hb dL_law_66 (lv_at hl 1 rfl) ?_
    refine lv_icmp_ne (tgt := 139) hx hb dL_law_68 (by decide) (fun cb433 => absurd (congrArg nI (show KV = KV by omega)) cb433) (fun cb433 => ?_)
    refine lv_aload_n hx hb dL_law_71 rfl (lv_at hl 5 rfl) ?_
    refine lv_bipush (v := 8) hx hb dL_law_72 (by decide) ?_
    refine lv_iload_n hx hb dL_law_74 rfl (lv_at hl 2 rfl) ?_
    refine lv_iload hx hb dL_law_75 (lv_at hl 1 rfl) ?_
    refine lv_iload hx hb dL_law_77 (lv_at hl 0 rfl) ?_
    have k434 : fCall S00 8 (nI NV) (nI KV) (nI SV) = (nI KV, sAct S00 (bgF iniR (nI NV) (nI KV) (nI SV))) := (s_make S00 (n := NV) (k := KV) (s := SV) tl00 (by decide) (by decide) (by omega) (by omega) (by omega) (by omega))
    refine xl_callEi (ex := oW y av ga431 gb432 (sAct S00 (bgF iniR (nI NV) (nI KV) (nI SV)))) (va_runS (As := [.ref (bv 0), .int 8, .int (nI NV), .int (nI KV), .int (nI SV)]) (rest := []) ⟨hx, hb, hml, hown, htl⟩ (c_call l hst D y bv g00 g00 H.size S00 8 (nI NV) (nI KV) (nI SV) ok00) (va_cwS 5 htl gL_law_L_call rfl rfl rfl hd_L_call ⟨Nat.le_of_ble_eq_true rfl, Nat.le_of_ble_eq_true rfl⟩) (lS hE hXE hLN hXZ hS hA (law_subE hP) (law_subD hD)) rfl rfl hl.1 rfl (lv_room (Nat.le_of_ble_eq_true rfl)) dL_law_79 ⟨by show _ ≤ 600130; omega, by show _ ≤ 7301079; omega⟩) hP hD hS hA (fun v435 u436 ga438 gb439 H locs h437 hP hD hS => ?_)
    obtain ⟨rfl, rfl⟩ := Prod.mk.inj (k434.symm.trans h437)
    refine lv_iload hx hb dL_law_82 (lv_at hl 1 rfl) ?_
    refine lv_icmp_ne (tgt := 139) hx hb dL_law_84 (by decide) (fun cb440 => absurd (congrArg nI (show KV = KV by omega)) cb440) (fun cb440 => ?_)
    refine lv_aload_n hx hb dL_law_87 rfl (lv_at hl 4 rfl) ?_
    refine lv_bipush (v := 12) hx hb dL_law_88 (by decide) ?_
    refine lv_iconst (v := 0) hx hb dL_law_90 (by decide) ?_
    refine lv_iconst (v := 5) hx hb dL_law_91 (by decide) ?_
    refine lv_aload_n hx hb dL_law_92 rfl (lv_at hl 3 rfl) ?_
    refine lv_iconst (v := 3) hx hb dL_law_93 (by decide) ?_
    refine xs_calli (va_runS (As := [.ref b, .int 3]) (rest := [.int 5, .int 0, .int 12, .ref (av 0)]) ⟨hx, hb, hml, hown, htl⟩ (c_cell l b L xs (3) H.size (by omega) (by omega)) (va_cwS 2 htl gL_law_L_cell rfl rfl rfl hd_L_cell ⟨Nat.le_of_ble_eq_true rfl, Nat.le_of_ble_eq_true rfl⟩) (cS (k := nI 3) hX hbl hbA hS) rfl rfl hl.1 rfl (lv_room (Nat.le_of_ble_eq_true rfl)) dL_law_94 ⟨by show _ ≤ 600130; omega, by show _ ≤ 7301079; omega⟩) (fun v441 h442 => ?_)
    obtain rfl : nI X3 = v441 := eX3.symm.trans h442
    refine lv_bipush (v := 60) hx hb dL_law_97 (by decide) ?_
    refine lv_irem hx hb dL_law_99 (by decide) ?_
    refine lv_topi (fun z443 ez443 => ?_)
    obtain rfl : z443 = nI (X3 % 60) := ez443.trans ((pk_rem (a := X3) (d := 60) (by omega) (by omega) (by omega) : nI X3 - nI X3 / nI 60 * nI 60 = _))
    refine lv_iadd hx hb dL_law_100 ?_
    refine lv_topi (fun z444 ez444 => ?_)
    obtain rfl : z444 = nI (5 + (X3 % 60)) := ez444.trans ((nI_add 5 (X3 % 60) : nI 5 + nI (X3 % 60) = _))
    rw [show nI (5 + (X3 % 60)) = nI VV from congrArg nI (by omega)]
    refine lv_iconst (v := 0) hx hb dL_law_101 (by decide) ?_
    have k445 : fCall (sAct S00 (bgF iniR (nI NV) (nI KV) (nI SV))) 12 0 (nI VV) 0 = (100, sAct (sAct S00 (bgF iniR (nI NV) (nI KV) (nI SV))) (f_X3_changeSetting (bgF iniR (nI NV) (nI KV) (nI SV)) 0 (nI VV))) := (s_lay (sAct S00 (bgF iniR (nI NV) (nI KV) (nI SV))) 0 hvs)
    have hP := xa_permP List.perm_append_comm hP
    have hD := xa_permD List.perm_append_comm hD
    refine xl_callEi (ex := oW y bv ga438 gb439 (sAct S00 (bgF iniR (nI NV) (nI KV) (nI SV)))) (va_runS (As := [.ref (av 0), .int 12, .int 0, .int (nI VV), .int 0]) (rest := []) ⟨hx, hb, hml, hown, htl⟩ (c_call l hst D y av ga431 gb432 H.size (sAct S00 (bgF iniR (nI NV) (nI KV) (nI SV))) 12 0 (nI VV) 0 hG1.ok) (va_cwS 5 htl gL_law_L_call rfl rfl rfl hd_L_call ⟨Nat.le_of_ble_eq_true rfl, Nat.le_of_ble_eq_true rfl⟩) (lS hE hXE hLN hXZ hS hA (law_subE hP) (law_subD hD)) rfl rfl hl.1 rfl (lv_room (Nat.le_of_ble_eq_true rfl)) dL_law_102 ⟨by show _ ≤ 600130; omega, by show _ ≤ 7301079; omega⟩) hP hD hS hA (fun v446 u447 ga449 gb450 H locs h448 hP hD hS => ?_)
    have hP := xa_permP List.perm_append_comm hP
    have hD := xa_permD List.perm_append_comm hD
    obtain ⟨rfl, rfl⟩ := Prod.mk.inj (k445.symm.trans h448)
    refine xs_calli (va_runS (As := [.int 100]) (rest := []) ⟨hx, hb, hml, hown, htl⟩ (c_L_thrown l D y H.size 100) (va_cwS 1 htl gL_law_L_thrown rfl rfl rfl hd_L_thrown ⟨Nat.le_of_ble_eq_true rfl, Nat.le_of_ble_eq_true rfl⟩) (gS hE (hP.sub [] rfl) (hD.sub [] (by decide) rfl)) rfl rfl hl.1 rfl (lv_room (Nat.le_of_ble_eq_true rfl)) dL_law_105 ⟨by show _ ≤ 600130; omega, by show _ ≤ 7301079; omega⟩) (fun v451 h452 => ?_)
    obtain rfl : 0 = v451 := ((show f_L_thrown 100 = 0 by decide)).symm.trans h452
    refine lv_if_ne (tgt := 139) hx hb dL_law_108 (by decide) (fun cb453 => absurd (by decide) cb453) (fun cb453 => ?_)
    refine lv_aload_n hx hb dL_law_111 rfl (lv_at hl 5 rfl) ?_
    refine lv_bipush (v := 12) hx hb dL_law_112 (by decide) ?_
    refine lv_iconst (v := 0) hx hb dL_law_114 (by decide) ?_
    refine lv_iconst (v := 5) hx hb dL_law_115 (by decide) ?_
    refine lv_aload_n hx hb dL_law_116 rfl (lv_at hl 3 rfl) ?_
    refine lv_iconst (v := 3) hx hb dL_law_117 (by decide) ?_
    refine xs_calli (va_runS (As := [.ref b, .int 3]) (rest := [.int 5, .int 0, .int 12, .ref (bv 0)]) ⟨hx, hb, hml, hown, htl⟩ (c_cell l b L xs (3) H.size (by omega) (by omega)) (va_cwS 2 htl gL_law_L_cell rfl rfl rfl hd_L_cell ⟨Nat.le_of_ble_eq_true rfl, Nat.le_of_ble_eq_true rfl⟩) (cS (k := nI 3) hX hbl hbA hS) rfl rfl hl.1 rfl (lv_room (Nat.le_of_ble_eq_true rfl)) dL_law_118 ⟨by show _ ≤ 600130; omega, by show _ ≤ 7301079; omega⟩) (fun v454 h455 => ?_)
    obtain rfl : nI X3 = v454 := eX3.symm.trans h455
    refine lv_bipush (v := 60) hx hb dL_law_121 (by decide) ?_
    refine lv_irem hx hb dL_law_123 (by decide) ?_
    refine lv_topi (fun z456 ez456 => ?_)
    obtain rfl : z456 = nI (X3 % 60) := ez456.trans ((pk_rem (a := X3) (d := 60) (by omega) (by omega) (by omega) : nI X3 - nI X3 / nI 60 * nI 60 = _))
    refine lv_iadd hx hb dL_law_124 ?_
    refine lv_topi (fun z457 ez457 => ?_)
    obtain rfl : z457 = nI (5 + (X3 % 60)) := ez457.trans ((nI_add 5 (X3 % 60) : nI 5 + nI (X3 % 60) = _))
    rw [show nI (5 + (X3 % 60)) = nI VV from congrArg nI (by omega)]
    refine lv_iconst (v := 0) hx hb dL_law_125 (by decide) ?_
    have k458 : fCall (sAct S00 (bgF iniR (nI NV) (nI KV) (nI SV))) 12 0 (nI VV) 0 = (100, sAct (sAct S00 (bgF iniR (nI NV) (nI KV) (nI SV))) (f_X3_changeSetting (bgF iniR (nI NV) (nI KV) (nI SV)) 0 (nI VV))) := (s_lay (sAct S00 (bgF iniR (nI NV) (nI KV) (nI SV))) 0 hvs)
    refine xl_callEi (ex := oW y av ga449 gb450 (sAct (sAct S00 (bgF iniR (nI NV) (nI KV) (nI SV))) (f_X3_changeSetting (bgF iniR (nI NV) (nI KV) (nI SV)) 0 (nI VV)))) (va_runS (As := [.ref (bv 0), .int 12, .int 0, .int (nI VV), .int 0]) (rest := []) ⟨hx, hb, hml, hown, htl⟩ (c_call l hst D y bv ga438 gb439 H.size (sAct S00 (bgF iniR (nI NV) (nI KV) (nI SV))) 12 0 (nI VV) 0 hG1.ok) (va_cwS 5 htl gL_law_L_call rfl rfl rfl hd_L_call ⟨Nat.le_of_ble_eq_true rfl, Nat.le_of_ble_eq_true rfl⟩) (lS hE hXE hLN hXZ hS hA (law_subE hP) (law_subD hD)) rfl rfl hl.1 rfl (lv_room (Nat.le_of_ble_eq_true rfl)) dL_law_126 ⟨by show _ ≤ 600130; omega, by show _ ≤ 7301079; omega⟩) hP hD hS hA (fun v459 u460 ga462 gb463 H locs h461 hP hD hS => ?_)
    obtain ⟨rfl, rfl⟩ := Prod.mk.inj (k458.symm.trans h461)
    refine xs_calli (va_runS (As := [.int 100]) (rest := []) ⟨hx, hb, hml, hown, htl⟩ (c_L_thrown l D y H.size 100) (va_cwS 1 htl gL_law_L_thrown rfl rfl rfl hd_L_thrown ⟨Nat.le_of_ble_eq_true rfl, Nat.le_of_ble_eq_true rfl⟩) (gS hE (hP.sub [] rfl) (hD.sub [] (by decide) rfl)) rfl rfl hl.1 rfl (lv_room (Nat.le_of_ble_eq_true rfl)) dL_law_129 ⟨by show _ ≤ 600130; omega, by show _ ≤ 7301079; omega⟩) (fun v464 h465 => ?_)
    obtain rfl : 0 = v464 := ((show f_L_thrown 100 = 0 by decide)).symm.trans h465
    refine lv_if_ne (tgt := 139) hx hb dL_law_132 (by decide) (fun cb466 => absurd (by decide) cb466) (fun cb466 => ?_)
    refine lv_iconst (v := 1) hx hb dL_law_135 (by decide) ?_
    refine lv_goto (tgt := 140) hx hb dL_law_136 (by decide) ?_
    refine lv_istore (lv' := [(6, .int 1), (5, .int (nI SV)), (4, .int (nI KV)), (3, .int (nI NV)), (0, .ref b), (1, .ref (av 0)), (2, .ref (bv 0))]) hx hb dL_law_140 hl (by decide) rfl (fun ls hl => ?_)
    refine lv_bipush (v := 6) hx hb dL_law_142 (by decide) ?_
    refine lv_aload_n hx hb dL_law_144 rfl (lv_at hl 4 rfl) ?_
    refine lv_iconst (v := 4) hx hb dL_law_145 (by decide) ?_
    refine xs_calli (va_runS (As := [.ref b, .int 4]) (rest := [.int 6]) ⟨hx, hb, hml, hown, htl⟩ (c_cell l b L xs (4) H.size (by omega) (by omega)) (va_cwS 2 htl gL_law_L_cell rfl rfl rfl hd_L_cell ⟨Nat.le_of_ble_eq_true rfl, Nat.le_of_ble_eq_true rfl⟩) (cS (k := nI 4) hX hbl hbA hS) rfl rfl hl.1 rfl (lv_room (Nat.le_of_ble_eq_true rfl)) dL_law_146 ⟨by show _ ≤ 600130; omega, by show _ ≤ 7301079; omega⟩) (fun v467 h468 => ?_)
    obtain rfl : nI X4 = v467 := eX4.symm.trans h468
    refine lv_bipush (v := 17) hx hb dL_law_149 (by decide) ?_
    refine lv_irem hx hb dL_law_151 (by decide) ?_
    refine lv_topi (fun z469 ez469 => ?_)
    obtain rfl : z469 = nI (X4 % 17) := ez469.trans ((pk_rem (a := X4) (d := 17) (by omega) (by omega) (by omega) : nI X4 - nI X4 / nI 17 * nI 17 = _))
    refine lv_iadd hx hb dL_law_152 ?_
    refine lv_topi (fun z470 ez470 => ?_)
    obtain rfl : z470 = nI (6 + (X4 % 17)) := ez470.trans ((nI_add 6 (X4 % 17) : nI 6 + nI (X4 % 17) = _))
    refine lv_istore (lv' := [(7, .int (nI (6 + (X4 % 17)))), (6, .int 1), (5, .int (nI SV)), (4, .int (nI KV)), (3, .int (nI NV)), (0, .ref b), (1, .ref (av 0)), (2, .ref (bv 0))]) hx hb dL_law_153 hl (by decide) rfl (fun ls hl => ?_)
    refine lv_iconst (v := 0) hx hb dL_law_155 (by decide) ?_
    refine lv_istore (lv' := [(8, .int 0), (7, .int (nI (6 + (X4 % 17)))), (6, .int 1), (5, .int (nI SV)), (4, .int (nI KV)), (3, .int (nI NV)), (0, .ref b), (1, .ref (av 0)), (2, .ref (bv 0))]) hx hb dL_law_156 hl (by decide) rfl (fun ls hl => ?_)
    refine W.widen (k := 1000 + 3200 * 0) (n := 20000 + 58000 * 0) (by omega) (by omega) ?_
    exact law_loop C0 hE hXE hLN hXZ hst hL (T := 6 + (X4 % 17)) (by omega) (6 + (X4 % 17)) 0 (by omega) (sAct (sAct S00 (bgF iniR (nI NV) (nI KV) (nI SV))) (f_X3_changeSetting (bgF iniR (nI NV) (nI KV) (nI SV)) 0 (nI VV))) iniR ga449 gb450 ga462 gb463 H locs ls hG2 hP hD hS (lv_sub hl [6, 7, 8, 2, 1, 0] rfl)
set_option maxHeartbeats 8000000 in
set_option maxRecDepth 100000 in
theorem whole_start {p : Program} {e : Env} {s : State} {m : MethodId} {below : List Frame} {meth : Method} {c : Code} (l : Launch) (hflags : l.flags = flags0) {b L : Nat} {xs : Nat → Int32} (hL : L ≤ 260) (C0 : lw_At p s m meth c b L xs) : W p l e room_1 s m #[Value.ref b] below meth c s.heap [] 0 0 (lw_Z below #[Value.ref b] s) (entryFrame m ([Value.ref b] : List Value).toArray 23) := by
  obtain ⟨hx, hb, hr, hml, hown, hts, hX, hbl, hlocks, hgv⟩ := id C0
  have hown : s.vm.findClass RL = some m.cls := hown
  have htl : ∀ w ∈ wsL_law, w.before #[Value.ref b] s = true := fun w h => hts w (wsL_law_in w h)
  have hA : ∀ q : Nat, s.heap.size ≤ q → (fun q : Nat => s.heap.size ≤ q) q := fun _ h => h
  have hbA : ¬ (fun q : Nat => s.heap.size ≤ q) b := Nat.not_le.mpr hbl
  have hst : l.stackTraces = false := by unfold Launch.stackTraces; rw [hflags]; decide +kernel
  obtain ⟨D, y, hE, hXE, hLN, hXZ⟩ := law_env hts hgv
  have hS : va_S (fun q : Nat => s.heap.size ≤ q) s.heap s.heap [] := va_S.rf
  have hP : va_P D vwCl [] s.heap := fun k q h => by simp at h
  have hD : va_D (fun q : Nat => s.heap.size ≤ q) [] := ⟨fun i j p q h => by simp at h, fun k q h => by simp at h⟩
  have hl := lv_entry ([.ref b]) (n := 23) (Nat.le_of_ble_eq_true rfl)
  rw [lg_entry_eq]
  generalize (lg_sl ([.ref b]) ++ List.replicate (23 - (lg_sl ([.ref b])).length) Slot.unset).toArray = ls at hl ⊢
  have hl : lv_has ls 23 [(0, .ref b)] := hl
  refine va_new (ci := 4) (fs := [.null, .null, .null, .null, .null]) (C := RX5) (T := TX5) (N := 5) hx hb hts inX5 tyX5 tyX5_ok hown (hts (.classLink RL 8 RX5) (by decide +kernel)) (hts (.instantiable RX5 5) (by decide +kernel)) (hts (.initialized RX5) (by decide +kernel)) hE.1 hP hD hS hA rfl (fun j hj => by rcases (show j = 0 ∨ j = 1 ∨ j = 2 ∨ j = 3 ∨ j = 4 by omega) with rfl | rfl | rfl | rfl | rfl <;> rfl) (Nat.le_of_ble_eq_true rfl) (Nat.le_of_ble_eq_true rfl) dL_law_0 (fun x5 H hP hD hS => ?_)
  have hP : va_P D vwCl [(x5, .inr (4, [.null, .null, .null, .null, .null]))] H := hP
  have hD : va_D (fun q : Nat => s.heap.size ≤ q) [(x5, .inr (4, [.null, .null, .null, .null, .null]))] := hD
  refine W.widen (k := 1) (n := 5) (Nat.le_of_ble_eq_true rfl) (Nat.le_of_ble_eq_true rfl) ?_
  refine lv_dup hx hb dL_law_3 rfl ?_
  refine xw_new (w1a := fun (u : Nat → Nat) => [(x5, .inr (4, [.ref (u 0), .ref (u 2), .ref (u 5), .ref (u 8), .ref (u 10)]))]) (w1b := fun (u : Nat → Nat) => [((u 0), .inr (3, [.ref (u 1), .int 0])), ((u 1), .inl (y 1, 120, .inl (fun _ => 0))), ((u 2), soF (u 3) (u 4) iniR), ((u 3), soV y iniR), ((u 4), soW y iniR), ((u 5), soF (u 6) (u 7) iniR), ((u 6), soV y iniR), ((u 7), soW y iniR), ((u 8), .inr (0, [.ref (u 9), .int 0, .int 0])), ((u 9), .inl (y 3, 14, .inr (.inr (.inr (.inr (fun _ => none)))))), ((u 10), .inr (1, [.ref (u 11), .ref (u 12)])), ((u 11), .inl (y 3, 2, .inr (.inr (.inr (.inr (fun _ => none)))))), ((u 12), .inl (y 2, 2, .inl (fun _ => 0)))]) (va_runI (As := []) (rest := [.ref x5]) ⟨hx, hb, hml, hown, htl⟩ (c_X5_init l D y x5 H.size) (cwI 0 htl gL_law_X5_init rfl rfl rfl (hts (.initialized RX5) (by decide +kernel)) (hts (.methodLink RL 185 yX5_init) (by decide +kernel)) (hts (.instanceMethod yX5_init) (by decide +kernel)) rfl hd_X5_init ⟨Nat.le_of_ble_eq_true rfl, Nat.le_of_ble_eq_true rfl⟩) (gS (As := [.ref x5]) hE (hP.sub [0] rfl) (hD.sub [0] (by decide) rfl)) rfl rfl hl.1 rfl (lv_room (Nat.le_of_ble_eq_true rfl)) dL_law_4 ⟨Nat.le_of_ble_eq_true rfl, Nat.le_of_ble_eq_true rfl⟩) hP hD hS hA [0] rfl (by decide) (fun _ => rfl) (fun u H locs _ hP hD hS => ?_)
  have hP : va_P D vwCl [(x5, .inr (4, [.ref (u 0), .ref (u 2), .ref (u 5), .ref (u 8), .ref (u 10)])), ((u 0), .inr (3, [.ref (u 1), .int 0])), ((u 1), .inl (y 1, 120, .inl (fun _ => 0))), ((u 2), soF (u 3) (u 4) iniR), ((u 3), soV y iniR), ((u 4), soW y iniR), ((u 5), soF (u 6) (u 7) iniR), ((u 6), soV y iniR), ((u 7), soW y iniR), ((u 8), .inr (0, [.ref (u 9), .int 0, .int 0])), ((u 9), .inl (y 3, 14, .inr (.inr (.inr (.inr (fun _ => none)))))), ((u 10), .inr (1, [.ref (u 11), .ref (u 12)])), ((u 11), .inl (y 3, 2, .inr (.inr (.inr (.inr (fun _ => none)))))), ((u 12), .inl (y 2, 2, .inl (fun _ => 0)))] H := hP
  have hD : va_D (fun q : Nat => s.heap.size ≤ q) [(x5, .inr (4, [.ref (u 0), .ref (u 2), .ref (u 5), .ref (u 8), .ref (u 10)])), ((u 0), .inr (3, [.ref (u 1), .int 0])), ((u 1), .inl (y 1, 120, .inl (fun _ => 0))), ((u 2), soF (u 3) (u 4) iniR), ((u 3), soV y iniR), ((u 4), soW y iniR), ((u 5), soF (u 6) (u 7) iniR), ((u 6), soV y iniR), ((u 7), soW y iniR), ((u 8), .inr (0, [.ref (u 9), .int 0, .int 0])), ((u 9), .inl (y 3, 14, .inr (.inr (.inr (.inr (fun _ => none)))))), ((u 10), .inr (1, [.ref (u 11), .ref (u 12)])), ((u 11), .inl (y 3, 2, .inr (.inr (.inr (.inr (fun _ => none)))))), ((u 12), .inl (y 2, 2, .inl (fun _ => 0)))] := hD
  refine W.widen (k := 14) (n := 310) (Nat.le_of_ble_eq_true rfl) (Nat.le_of_ble_eq_true rfl) ?_
  refine lv_astore_n (lv' := [(1, .ref x5), (0, .ref b)]) hx hb dL_law_7 rfl hl (by decide) rfl (fun ls hl => ?_)
  refine va_new (ci := 4) (fs := [.null, .null, .null, .null, .null]) (C := RX5) (T := TX5) (N := 5) hx hb hts inX5 tyX5 tyX5_ok hown (hts (.classLink RL 8 RX5) (by decide +kernel)) (hts (.instantiable RX5 5) (by decide +kernel)) (hts (.initialized RX5) (by decide +kernel)) hE.1 hP hD hS hA rfl (fun j hj => by rcases (show j = 0 ∨ j = 1 ∨ j = 2 ∨ j = 3 ∨ j = 4 by omega) with rfl | rfl | rfl | rfl | rfl <;> rfl) (Nat.le_of_ble_eq_true rfl) (Nat.le_of_ble_eq_true rfl) dL_law_8 (fun x6 H hP hD hS => ?_)
  have hP : va_P D vwCl [(x5, .inr (4, [.ref (u 0), .ref (u 2), .ref (u 5), .ref (u 8), .ref (u 10)])), ((u 0), .inr (3, [.ref (u 1), .int 0])), ((u 1), .inl (y 1, 120, .inl (fun _ => 0))), ((u 2), soF (u 3) (u 4) iniR), ((u 3), soV y iniR), ((u 4), soW y iniR), ((u 5), soF (u 6) (u 7) iniR), ((u 6), soV y iniR), ((u 7), soW y iniR), ((u 8), .inr (0, [.ref (u 9), .int 0, .int 0])), ((u 9), .inl (y 3, 14, .inr (.inr (.inr (.inr (fun _ => none)))))), ((u 10), .inr (1, [.ref (u 11), .ref (u 12)])), ((u 11), .inl (y 3, 2, .inr (.inr (.inr (.inr (fun _ => none)))))), ((u 12), .inl (y 2, 2, .inl (fun _ => 0))), (x6, .inr (4, [.null, .null, .null, .null, .null]))] H := hP
  have hD : va_D (fun q : Nat => s.heap.size ≤ q) [(x5, .inr (4, [.ref (u 0), .ref (u 2), .ref (u 5), .ref (u 8), .ref (u 10)])), ((u 0), .inr (3, [.ref (u 1), .int 0])), ((u 1), .inl (y 1, 120, .inl (fun _ => 0))), ((u 2), soF (u 3) (u 4) iniR), ((u 3), soV y iniR), ((u 4), soW y iniR), ((u 5), soF (u 6) (u 7) iniR), ((u 6), soV y iniR), ((u 7), soW y iniR), ((u 8), .inr (0, [.ref (u 9), .int 0, .int 0])), ((u 9), .inl (y 3, 14, .inr (.inr (.inr (.inr (fun _ => none)))))), ((u 10), .inr (1, [.ref (u 11), .ref (u 12)])), ((u 11), .inl (y 3, 2, .inr (.inr (.inr (.inr (fun _ => none)))))), ((u 12), .inl (y 2, 2, .inl (fun _ => 0))), (x6, .inr (4, [.null, .null, .null, .null, .null]))] := hD
  refine W.widen (k := 15) (n := 315) (Nat.le_of_ble_eq_true rfl) (Nat.le_of_ble_eq_true rfl) ?_
  refine lv_dup hx hb dL_law_11 rfl ?_
  refine xw_new (w1a := fun (v : Nat → Nat) => [(x6, .inr (4, [.ref (v 0), .ref (v 2), .ref (v 5), .ref (v 8), .ref (v 10)]))]) (w1b := fun (v : Nat → Nat) => [((v 0), .inr (3, [.ref (v 1), .int 0])), ((v 1), .inl (y 1, 120, .inl (fun _ => 0))), ((v 2), soF (v 3) (v 4) iniR), ((v 3), soV y iniR), ((v 4), soW y iniR), ((v 5), soF (v 6) (v 7) iniR), ((v 6), soV y iniR), ((v 7), soW y iniR), ((v 8), .inr (0, [.ref (v 9), .int 0, .int 0])), ((v 9), .inl (y 3, 14, .inr (.inr (.inr (.inr (fun _ => none)))))), ((v 10), .inr (1, [.ref (v 11), .ref (v 12)])), ((v 11), .inl (y 3, 2, .inr (.inr (.inr (.inr (fun _ => none)))))), ((v 12), .inl (y 2, 2, .inl (fun _ => 0)))]) (va_runI (As := []) (rest := [.ref x6]) ⟨hx, hb, hml, hown, htl⟩ (c_X5_init l D y x6 H.size) (cwI 0 htl gL_law_X5_init rfl rfl rfl (hts (.initialized RX5) (by decide +kernel)) (hts (.methodLink RL 185 yX5_init) (by decide +kernel)) (hts (.instanceMethod yX5_init) (by decide +kernel)) rfl hd_X5_init ⟨Nat.le_of_ble_eq_true rfl, Nat.le_of_ble_eq_true rfl⟩) (gS (As := [.ref x6]) hE (hP.sub [14] rfl) (hD.sub [14] (by decide) rfl)) rfl rfl hl.1 rfl (lv_room (Nat.le_of_ble_eq_true rfl)) dL_law_12 ⟨Nat.le_of_ble_eq_true rfl, Nat.le_of_ble_eq_true rfl⟩) hP hD hS hA [14] rfl (by decide) (fun _ => rfl) (fun v H locs _ hP hD hS => ?_)
  have hP : va_P D vwCl [(x5, .inr (4, [.ref (u 0), .ref (u 2), .ref (u 5), .ref (u 8), .ref (u 10)])), ((u 0), .inr (3, [.ref (u 1), .int 0])), ((u 1), .inl (y 1, 120, .inl (fun _ => 0))), ((u 2), soF (u 3) (u 4) iniR), ((u 3), soV y iniR), ((u 4), soW y iniR), ((u 5), soF (u 6) (u 7) iniR), ((u 6), soV y iniR), ((u 7), soW y iniR), ((u 8), .inr (0, [.ref (u 9), .int 0, .int 0])), ((u 9), .inl (y 3, 14, .inr (.inr (.inr (.inr (fun _ => none)))))), ((u 10), .inr (1, [.ref (u 11), .ref (u 12)])), ((u 11), .inl (y 3, 2, .inr (.inr (.inr (.inr (fun _ => none)))))), ((u 12), .inl (y 2, 2, .inl (fun _ => 0))), (x6, .inr (4, [.ref (v 0), .ref (v 2), .ref (v 5), .ref (v 8), .ref (v 10)])), ((v 0), .inr (3, [.ref (v 1), .int 0])), ((v 1), .inl (y 1, 120, .inl (fun _ => 0))), ((v 2), soF (v 3) (v 4) iniR), ((v 3), soV y iniR), ((v 4), soW y iniR), ((v 5), soF (v 6) (v 7) iniR), ((v 6), soV y iniR), ((v 7), soW y iniR), ((v 8), .inr (0, [.ref (v 9), .int 0, .int 0])), ((v 9), .inl (y 3, 14, .inr (.inr (.inr (.inr (fun _ => none)))))), ((v 10), .inr (1, [.ref (v 11), .ref (v 12)])), ((v 11), .inl (y 3, 2, .inr (.inr (.inr (.inr (fun _ => none)))))), ((v 12), .inl (y 2, 2, .inl (fun _ => 0)))] H := hP
  have hD : va_D (fun q : Nat => s.heap.size ≤ q) [(x5, .inr (4, [.ref (u 0), .ref (u 2), .ref (u 5), .ref (u 8), .ref (u 10)])), ((u 0), .inr (3, [.ref (u 1), .int 0])), ((u 1), .inl (y 1, 120, .inl (fun _ => 0))), ((u 2), soF (u 3) (u 4) iniR), ((u 3), soV y iniR), ((u 4), soW y iniR), ((u 5), soF (u 6) (u 7) iniR), ((u 6), soV y iniR), ((u 7), soW y iniR), ((u 8), .inr (0, [.ref (u 9), .int 0, .int 0])), ((u 9), .inl (y 3, 14, .inr (.inr (.inr (.inr (fun _ => none)))))), ((u 10), .inr (1, [.ref (u 11), .ref (u 12)])), ((u 11), .inl (y 3, 2, .inr (.inr (.inr (.inr (fun _ => none)))))), ((u 12), .inl (y 2, 2, .inl (fun _ => 0))), (x6, .inr (4, [.ref (v 0), .ref (v 2), .ref (v 5), .ref (v 8), .ref (v 10)])), ((v 0), .inr (3, [.ref (v 1), .int 0])), ((v 1), .inl (y 1, 120, .inl (fun _ => 0))), ((v 2), soF (v 3) (v 4) iniR), ((v 3), soV y iniR), ((v 4), soW y iniR), ((v 5), soF (v 6) (v 7) iniR), ((v 6), soV y iniR), ((v 7), soW y iniR), ((v 8), .inr (0, [.ref (v 9), .int 0, .int 0])), ((v 9), .inl (y 3, 14, .inr (.inr (.inr (.inr (fun _ => none)))))), ((v 10), .inr (1, [.ref (v 11), .ref (v 12)])), ((v 11), .inl (y 3, 2, .inr (.inr (.inr (.inr (fun _ => none)))))), ((v 12), .inl (y 2, 2, .inl (fun _ => 0)))] := hD
  refine W.widen (k := 28) (n := 620) (Nat.le_of_ble_eq_true rfl) (Nat.le_of_ble_eq_true rfl) ?_
  refine lv_astore_n (lv' := [(2, .ref x6), (1, .ref x5), (0, .ref b)]) hx hb dL_law_15 rfl hl (by decide) rfl (fun ls hl => ?_)
  exact law_mid C0 hE hXE hLN hXZ hst hL (av := (fun k => match k with | 0 => x5 | 1 => u 0 | 2 => u 2 | 3 => u 5 | 4 => u 8 | 5 => u 10 | 6 => u 1 | 7 => u 3 | 8 => u 4 | 9 => u 6 | 10 => u 7 | 11 => u 9 | 12 => u 11 | _ => u 12)) (bv := (fun k => match k with | 0 => x6 | 1 => v 0 | 2 => v 2 | 3 => v 5 | 4 => v 8 | 5 => v 10 | 6 => v 1 | 7 => v 3 | 8 => v 4 | 9 => v 6 | 10 => v 7 | 11 => v 9 | 12 => v 11 | _ => v 12)) H locs ls hP hD hS (lv_sub hl [2, 1, 0] rfl)

