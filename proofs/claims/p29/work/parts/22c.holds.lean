/-! WHAT HOLDS IN EACH STORE -/
set_option maxHeartbeats 8000000 in
set_option maxRecDepth 100000 in
theorem c_holds (l : Launch) (hst : l.stackTraces = false) (D : va_G) (y : Nat → ClassId) (av : Nat → Nat) (ga gb : Nat → Nat × Nat × Nat) (S : oS) (X : Nat) (hG : GS S) (hX : X < 2147483648) (zh : Nat) : Met l yL_holds wsL_holds ({ frames := 10, cells := 1000, slots := 20000, locals := 202 }) (lP D y [.ref (av 0), .int (nI X)] zh (oW y av ga gb S)) (va_Qi (fun (v : Int32) (u : oS) => v = 1 ∧ ∃ c, u = sRc S c) (fun (u : oS) t => ∃ (g1 g2 : Nat → Nat × Nat × Nat), va_P D vwCl (oW y av g1 g2 u) t.heap ∧ va_D (va_A (oW y av ga gb S) zh) (oW y av g1 g2 u)) (va_A (oW y av ga gb S) zh)) 1000 20000 (va_A (oW y av ga gb S) zh) := by
  refine Met.ofW (cc := cL_holds) (maxL := 14) (ret := (some .boolean)) (by decide) rfl ?_
  intro p e s m args below meth c s₁ B hml hv
  obtain ⟨⟨⟨rfl, hsz, hP, hE, hD⟩, hXE, hXZ⟩, hLN⟩ := hv
  have hx := B.exec
  have hb := B.bytes
  have hr := B.returns
  have hts := atoms_spec (ws := wsL_holds) B.pre
  have hown : s.vm.findClass RL = some m.cls := findClass_of_methodNamed B.named
  have w_0 := hts (.constant RL 184 (1000000)) (List.mem_cons_of_mem _ (List.mem_append_left _ (List.mem_append_left _ (List.mem_append_left _ (List.mem_append_left _ (List.mem_append_left _ (List.mem_append_left _ (List.mem_append_left _ (List.mem_append_left _ (List.mem_append_left _ (List.mem_of_getElem? (i := 0) rfl)))))))))))
  subst hsz
  have hD := hD.self (sz := s.heap.size)
  generalize hAe : va_A (oW y av ga gb S) s.heap.size = A at hD hXZ ⊢
  have hA : ∀ q : Nat, s.heap.size ≤ q → A q := fun q h => by rw [← hAe]; exact Or.inr h
  have hS : va_S A s.heap s.heap [] := va_S.rf
  have hl := lv_entry ([.ref (av 0), .int (nI X)]) (n := 14) (Nat.le_of_ble_eq_true rfl)
  rw [lg_entry_eq]
  generalize (lg_sl ([.ref (av 0), .int (nI X)]) ++ List.replicate (14 - (lg_sl ([.ref (av 0), .int (nI X)])).length) Slot.unset).toArray = ls at hl ⊢
  have hl : lv_has ls 14 [(0, .ref (av 0)), (1, .int (nI X))] := hl
  obtain ⟨e0, e1, e2, e3, b0, b1, b2, b3, b4, b5⟩ := m_num hG.gd
  have hxn := Nat.mod_lt X (show 0 < nN (S.2.2.1 0) by omega)
  have hLF : (hmF (nI (X % nN (S.2.2.1 0))) 2000 S.2.2.1).1 = 0 ↔ ¬ S.2.2.1 8 = 0 := hmF_0 (M := 1999)
  have hLF2 := hmF_le (l := nI (X % nN (S.2.2.1 0))) 2000 S.2.2.1
  obtain ⟨hb0, hb1, hb2, hb3⟩ := m_behind hG.gd.1 (okL_nI hG.gd hxn)
  obtain ⟨mk1, mk2⟩ := mv_K hG.gd.1 (okL_nI hG.gd hxn)
  have pl1 := pwN_lt (n := nN (S.2.2.1 0)) (k := nN (S.2.2.1 1)) (l := nN (nI (X % nN (S.2.2.1 0)))) (s := nN (S.2.2.1 2)) (g := nN (S.2.2.1 3)) (by omega)
  obtain ⟨MK, hMK⟩ : ∃ z, mvK S.2.2.1 (nI (X % nN (S.2.2.1 0))) = z := ⟨_, rfl⟩
  obtain ⟨PL, hPL⟩ : ∃ z, pwN (nN (S.2.2.1 0)) (nN (S.2.2.1 1)) (nN (nI (X % nN (S.2.2.1 0)))) (nN (S.2.2.1 2)) (nN (S.2.2.1 3)) = z := ⟨_, rfl⟩
  rw [hPL] at hb0 hb1 hb2 hb3 pl1
  rw [hMK] at mk1 mk2 hb1 hb2
  have hl0 : okL S.2.2.1 (nI (X % nN (S.2.2.1 0))) := okL_nI hG.gd hxn
  obtain ⟨N, hN⟩ : ∃ z, nN (S.2.2.1 0) = z := ⟨_, rfl⟩
  obtain ⟨G, hGp⟩ : ∃ z, nN (S.2.2.1 3) = z := ⟨_, rfl⟩
  rw [hN] at e0 b0 b1 b3 b4 b5 hLF hLF2 mk2 pl1 hMK hPL hb0 hb1 hb2 hb3 hxn hl0
  rw [hGp] at e3 b5
  have hNN : N * (N + 1) ≤ 1056 := Nat.le_trans (Nat.mul_le_mul b1 (show N + 1 ≤ 33 by omega)) (by decide)
  have hs4 : ¬ 4 < S.2.2.1 4 + S.2.2.1 9 := by
    obtain ⟨y1, y2, -⟩ := hG.gd.2.2.2.2.2.1
    have y0 := hG.gd.1.2.2.1
    rw [i_lt, i_add (by omega) (by omega), show (4 : Int32).toInt = 4 from by decide]
    omega
  rcases hG.gd.1.1.2.2 with h8 | h8
  · skip
    have post : ∀ (ga gb : Nat → Nat × Nat × Nat) (H : Heap) (locs : List Loc) (ls : Array Slot), va_P D vwCl (oW y av ga gb S) H → va_D A (oW y av ga gb S) → va_S A s.heap H locs → lv_has ls 14 [(0, .ref (av 0)), (1, .int (nI X)), (2, .int (nI N)), (3, .int (nI G)), (4, .int (nI (mxW S.2.2.1 (N + 1)))), (5, .int (nI (mnW S.2.2.1 (N + 1)))), (6, .int 0), (7, .int 1), (8, .int (nI (N + 1)))] → W p l e (headSpec wsL_holds ({ frames := 10, cells := 1000, slots := 20000, locals := 202 })).room s m ([.ref (av 0), .int (nI X)] : List Value).toArray below meth c H locs (600) (12000) (MQ below (va_Qi (fun (v : Int32) (u : oS) => v = 1 ∧ ∃ c, u = sRc S c) (fun (u : oS) t => ∃ (g1 g2 : Nat → Nat × Nat × Nat), va_P D vwCl (oW y av g1 g2 u) t.heap ∧ va_D A (oW y av g1 g2 u)) A) ([.ref (av 0), .int (nI X)] : List Value).toArray s 1000 20000 A) (F0 m 300 ls []) := by
      intro ga gb H locs ls hP hD hS hl
      refine lv_iload_n hx hb dL_holds_300 rfl (lv_at hl 1 rfl) ?_
      refine lv_iload_n hx hb dL_holds_301 rfl (lv_at hl 2 rfl) ?_
      refine lv_irem hx hb dL_holds_302 (nI_ne0 (n := N) (by omega) (by omega)) ?_
      refine lv_topi (fun z1 ez1 => ?_)
      obtain rfl : z1 = nI (X % N) := ez1.trans ((pk_rem (a := X) (d := N) (by omega) (by omega) (by omega) : nI X - nI X / nI N * nI N = _))
      refine lv_istore (lv' := [(8, .int (nI (X % N))), (0, .ref (av 0)), (1, .int (nI X)), (2, .int (nI N)), (3, .int (nI G)), (4, .int (nI (mxW S.2.2.1 (N + 1)))), (5, .int (nI (mnW S.2.2.1 (N + 1)))), (6, .int 0), (7, .int 1)]) hx hb dL_holds_303 hl (by decide) rfl (fun ls hl => ?_)
      refine lv_aload_n hx hb dL_holds_305 rfl (lv_at hl 1 rfl) ?_
      refine lv_bipush (v := 18) hx hb dL_holds_306 (by decide) ?_
      refine lv_iload hx hb dL_holds_308 (lv_at hl 0 rfl) ?_
      refine lv_iconst (v := 0) hx hb dL_holds_310 (by decide) ?_
      refine lv_iconst (v := 0) hx hb dL_holds_311 (by decide) ?_
      have k2 : fCall S 18 (nI (X % N)) 0 0 = (nI MK, S) := (s_moves S 0 0 hG.gd hl0).trans (by rw [hMK])
      refine xw_callEi (va_runS (As := [.ref (av 0), .int 18, .int (nI (X % N)), .int 0, .int 0]) (rest := []) ⟨hx, hb, hml, hown, hts⟩ (c_call l hst D y av ga gb H.size S 18 (nI (X % N)) 0 0 hG.ok) (va_cwS 5 hts gL_holds_L_call rfl rfl rfl hd_L_call ⟨Nat.le_of_ble_eq_true rfl, Nat.le_of_ble_eq_true rfl⟩) (lS hE hXE hLN hXZ hS hA hP hD) rfl rfl hl.1 rfl (lv_room (Nat.le_of_ble_eq_true rfl)) dL_holds_312 ⟨by show _ ≤ 1000; omega, by show _ ≤ 20000; omega⟩) hD hS hA (fun v3 u4 ga6 gb7 H locs h5 hP hD hS => ?_)
      obtain ⟨rfl, rfl⟩ := Prod.mk.inj (k2.symm.trans h5)
      refine lv_istore (lv' := [(9, .int (nI MK)), (8, .int (nI (X % N))), (0, .ref (av 0)), (1, .int (nI X)), (2, .int (nI N)), (3, .int (nI G)), (4, .int (nI (mxW S.2.2.1 (N + 1)))), (5, .int (nI (mnW S.2.2.1 (N + 1)))), (6, .int 0), (7, .int 1)]) hx hb dL_holds_315 hl (by decide) rfl (fun ls hl => ?_)
      refine lv_aload_n hx hb dL_holds_317 rfl (lv_at hl 2 rfl) ?_
      refine lv_iconst (v := 4) hx hb dL_holds_318 (by decide) ?_
      refine lv_iload hx hb dL_holds_319 (lv_at hl 1 rfl) ?_
      refine lv_iconst (v := 0) hx hb dL_holds_321 (by decide) ?_
      refine lv_iconst (v := 0) hx hb dL_holds_322 (by decide) ?_
      have k8 : fCall S 4 (nI (X % N)) 0 0 = (nI PL, S) := (s_place S 0 0 hG.gd hl0).trans (by rw [hN, hPL])
      refine xw_callEi (va_runS (As := [.ref (av 0), .int 4, .int (nI (X % N)), .int 0, .int 0]) (rest := []) ⟨hx, hb, hml, hown, hts⟩ (c_call l hst D y av ga6 gb7 H.size S 4 (nI (X % N)) 0 0 hG.ok) (va_cwS 5 hts gL_holds_L_call rfl rfl rfl hd_L_call ⟨Nat.le_of_ble_eq_true rfl, Nat.le_of_ble_eq_true rfl⟩) (lS hE hXE hLN hXZ hS hA hP hD) rfl rfl hl.1 rfl (lv_room (Nat.le_of_ble_eq_true rfl)) dL_holds_323 ⟨by show _ ≤ 1000; omega, by show _ ≤ 20000; omega⟩) hD hS hA (fun v9 u10 ga12 gb13 H locs h11 hP hD hS => ?_)
      obtain ⟨rfl, rfl⟩ := Prod.mk.inj (k8.symm.trans h11)
      refine lv_istore (lv' := [(10, .int (nI PL)), (9, .int (nI MK)), (8, .int (nI (X % N))), (0, .ref (av 0)), (1, .int (nI X)), (2, .int (nI N)), (3, .int (nI G)), (4, .int (nI (mxW S.2.2.1 (N + 1)))), (5, .int (nI (mnW S.2.2.1 (N + 1)))), (6, .int 0), (7, .int 1)]) hx hb dL_holds_326 hl (by decide) rfl (fun ls hl => ?_)
      refine lv_iload hx hb dL_holds_328 (lv_at hl 10 rfl) ?_
      refine lv_if_eq (tgt := 450) hx hb dL_holds_330 (by decide) (fun cb14 => absurd cb14 (by decide)) (fun cb14 => ?_)
      refine lv_aload_n hx hb dL_holds_333 rfl (lv_at hl 3 rfl) ?_
      refine lv_iconst (v := 2) hx hb dL_holds_334 (by decide) ?_
      refine lv_bipush (v := 6) hx hb dL_holds_335 (by decide) ?_
      refine lv_iconst (v := 0) hx hb dL_holds_337 (by decide) ?_
      refine lv_iconst (v := 0) hx hb dL_holds_338 (by decide) ?_
      have k15 : fCall S 2 6 0 0 = (nI (mxW S.2.2.1 (N + 1)), S) := (s_ab6 S 0 0 hG.gd).trans (by rw [hN])
      refine xw_callEi (va_runS (As := [.ref (av 0), .int 2, .int 6, .int 0, .int 0]) (rest := []) ⟨hx, hb, hml, hown, hts⟩ (c_call l hst D y av ga12 gb13 H.size S 2 6 0 0 hG.ok) (va_cwS 5 hts gL_holds_L_call rfl rfl rfl hd_L_call ⟨Nat.le_of_ble_eq_true rfl, Nat.le_of_ble_eq_true rfl⟩) (lS hE hXE hLN hXZ hS hA hP hD) rfl rfl hl.1 rfl (lv_room (Nat.le_of_ble_eq_true rfl)) dL_holds_339 ⟨by show _ ≤ 1000; omega, by show _ ≤ 20000; omega⟩) hD hS hA (fun v16 u17 ga19 gb20 H locs h18 hP hD hS => ?_)
      obtain ⟨rfl, rfl⟩ := Prod.mk.inj (k15.symm.trans h18)
      refine lv_iload hx hb dL_holds_342 (lv_at hl 7 rfl) ?_
      refine lv_icmp_ne (tgt := 450) hx hb dL_holds_344 (by decide) (fun cb21 => absurd (congrArg nI (show (mxW S.2.2.1 (N + 1)) = (mxW S.2.2.1 (N + 1)) by omega)) cb21) (fun cb21 => ?_)
      refine lv_aload_n hx hb dL_holds_347 rfl (lv_at hl 3 rfl) ?_
      refine lv_iconst (v := 2) hx hb dL_holds_348 (by decide) ?_
      refine lv_bipush (v := 7) hx hb dL_holds_349 (by decide) ?_
      refine lv_iconst (v := 0) hx hb dL_holds_351 (by decide) ?_
      refine lv_iconst (v := 0) hx hb dL_holds_352 (by decide) ?_
      have k22 : fCall S 2 7 0 0 = (nI (mnW S.2.2.1 (N + 1)), S) := (s_ab7 S 0 0 hG.gd).trans (by rw [hN])
      refine xw_callEi (va_runS (As := [.ref (av 0), .int 2, .int 7, .int 0, .int 0]) (rest := []) ⟨hx, hb, hml, hown, hts⟩ (c_call l hst D y av ga19 gb20 H.size S 2 7 0 0 hG.ok) (va_cwS 5 hts gL_holds_L_call rfl rfl rfl hd_L_call ⟨Nat.le_of_ble_eq_true rfl, Nat.le_of_ble_eq_true rfl⟩) (lS hE hXE hLN hXZ hS hA hP hD) rfl rfl hl.1 rfl (lv_room (Nat.le_of_ble_eq_true rfl)) dL_holds_353 ⟨by show _ ≤ 1000; omega, by show _ ≤ 20000; omega⟩) hD hS hA (fun v23 u24 ga26 gb27 H locs h25 hP hD hS => ?_)
      obtain ⟨rfl, rfl⟩ := Prod.mk.inj (k22.symm.trans h25)
      refine lv_iload hx hb dL_holds_356 (lv_at hl 8 rfl) ?_
      refine lv_icmp_ne (tgt := 450) hx hb dL_holds_358 (by decide) (fun cb28 => absurd (congrArg nI (show (mnW S.2.2.1 (N + 1)) = (mnW S.2.2.1 (N + 1)) by omega)) cb28) (fun cb28 => ?_)
      refine lv_iload hx hb dL_holds_361 (lv_at hl 1 rfl) ?_
      refine lv_if_le (tgt := 450) hx hb dL_holds_363 (by decide) (fun cb29 => absurd cb29 (nI_ge (a := 0) (b := MK) (by omega) (by omega))) (fun cb29 => ?_)
      refine lv_iload hx hb dL_holds_366 (lv_at hl 1 rfl) ?_
      refine lv_iload_n hx hb dL_holds_368 rfl (lv_at hl 5 rfl) ?_
      refine lv_icmp_gt (tgt := 450) hx hb dL_holds_369 (by decide) (fun cb30 => absurd cb30 (nI_nlt (a := N) (b := MK) (by omega) (by omega))) (fun cb30 => ?_)
      refine lv_aload_n hx hb dL_holds_372 rfl (lv_at hl 3 rfl) ?_
      refine lv_bipush (v := 19) hx hb dL_holds_373 (by decide) ?_
      refine lv_iload hx hb dL_holds_375 (lv_at hl 2 rfl) ?_
      refine lv_iconst (v := 0) hx hb dL_holds_377 (by decide) ?_
      refine lv_iconst (v := 0) hx hb dL_holds_378 (by decide) ?_
      have k31 : fCall S 19 (nI (X % N)) 0 0 = (nI PL, S) := (s_behind S (m := 0) 0 hG.gd hl0 (by omega)).trans (by rw [hN, hb0])
      refine xw_callEi (va_runS (As := [.ref (av 0), .int 19, .int (nI (X % N)), .int 0, .int 0]) (rest := []) ⟨hx, hb, hml, hown, hts⟩ (c_call l hst D y av ga26 gb27 H.size S 19 (nI (X % N)) 0 0 hG.ok) (va_cwS 5 hts gL_holds_L_call rfl rfl rfl hd_L_call ⟨Nat.le_of_ble_eq_true rfl, Nat.le_of_ble_eq_true rfl⟩) (lS hE hXE hLN hXZ hS hA hP hD) rfl rfl hl.1 rfl (lv_room (Nat.le_of_ble_eq_true rfl)) dL_holds_379 ⟨by show _ ≤ 1000; omega, by show _ ≤ 20000; omega⟩) hD hS hA (fun v32 u33 ga35 gb36 H locs h34 hP hD hS => ?_)
      obtain ⟨rfl, rfl⟩ := Prod.mk.inj (k31.symm.trans h34)
      refine lv_iload hx hb dL_holds_382 (lv_at hl 0 rfl) ?_
      refine lv_icmp_ne (tgt := 450) hx hb dL_holds_384 (by decide) (fun cb37 => absurd (congrArg nI (show PL = PL by omega)) cb37) (fun cb37 => ?_)
      refine lv_aload_n hx hb dL_holds_387 rfl (lv_at hl 3 rfl) ?_
      refine lv_bipush (v := 19) hx hb dL_holds_388 (by decide) ?_
      refine lv_iload hx hb dL_holds_390 (lv_at hl 2 rfl) ?_
      refine lv_iload hx hb dL_holds_392 (lv_at hl 1 rfl) ?_
      refine lv_iconst (v := 1) hx hb dL_holds_394 (by decide) ?_
      refine lv_isub hx hb dL_holds_395 ?_
      refine lv_topi (fun z38 ez38 => ?_)
      obtain rfl : z38 = nI (MK - 1) := ez38.trans ((pk_sub (a := MK) (b := 1) (by omega) : nI MK - nI 1 = _))
      refine lv_iconst (v := 0) hx hb dL_holds_396 (by decide) ?_
      have k39 : fCall S 19 (nI (X % N)) (nI (MK - 1)) 0 = (nI PL, S) := (s_behind S (m := MK - 1) 0 hG.gd hl0 (by omega)).trans (by rw [hN, hb1])
      refine xw_callEi (va_runS (As := [.ref (av 0), .int 19, .int (nI (X % N)), .int (nI (MK - 1)), .int 0]) (rest := []) ⟨hx, hb, hml, hown, hts⟩ (c_call l hst D y av ga35 gb36 H.size S 19 (nI (X % N)) (nI (MK - 1)) 0 hG.ok) (va_cwS 5 hts gL_holds_L_call rfl rfl rfl hd_L_call ⟨Nat.le_of_ble_eq_true rfl, Nat.le_of_ble_eq_true rfl⟩) (lS hE hXE hLN hXZ hS hA hP hD) rfl rfl hl.1 rfl (lv_room (Nat.le_of_ble_eq_true rfl)) dL_holds_397 ⟨by show _ ≤ 1000; omega, by show _ ≤ 20000; omega⟩) hD hS hA (fun v40 u41 ga43 gb44 H locs h42 hP hD hS => ?_)
      obtain ⟨rfl, rfl⟩ := Prod.mk.inj (k39.symm.trans h42)
      refine lv_iload hx hb dL_holds_400 (lv_at hl 0 rfl) ?_
      refine lv_icmp_ne (tgt := 450) hx hb dL_holds_402 (by decide) (fun cb45 => absurd (congrArg nI (show PL = PL by omega)) cb45) (fun cb45 => ?_)
      refine lv_aload_n hx hb dL_holds_405 rfl (lv_at hl 3 rfl) ?_
      refine lv_bipush (v := 19) hx hb dL_holds_406 (by decide) ?_
      refine lv_iload hx hb dL_holds_408 (lv_at hl 2 rfl) ?_
      refine lv_iload hx hb dL_holds_410 (lv_at hl 1 rfl) ?_
      refine lv_iconst (v := 0) hx hb dL_holds_412 (by decide) ?_
      have k46 : fCall S 19 (nI (X % N)) (nI MK) 0 = (nI ((PL + 1) % (N + 1)), S) := (s_behind S (m := MK) 0 hG.gd hl0 (by omega)).trans (by rw [hN, hb2])
      refine xw_callEi (va_runS (As := [.ref (av 0), .int 19, .int (nI (X % N)), .int (nI MK), .int 0]) (rest := []) ⟨hx, hb, hml, hown, hts⟩ (c_call l hst D y av ga43 gb44 H.size S 19 (nI (X % N)) (nI MK) 0 hG.ok) (va_cwS 5 hts gL_holds_L_call rfl rfl rfl hd_L_call ⟨Nat.le_of_ble_eq_true rfl, Nat.le_of_ble_eq_true rfl⟩) (lS hE hXE hLN hXZ hS hA hP hD) rfl rfl hl.1 rfl (lv_room (Nat.le_of_ble_eq_true rfl)) dL_holds_413 ⟨by show _ ≤ 1000; omega, by show _ ≤ 20000; omega⟩) hD hS hA (fun v47 u48 ga50 gb51 H locs h49 hP hD hS => ?_)
      obtain ⟨rfl, rfl⟩ := Prod.mk.inj (k46.symm.trans h49)
      refine lv_iload hx hb dL_holds_416 (lv_at hl 0 rfl) ?_
      refine lv_iconst (v := 1) hx hb dL_holds_418 (by decide) ?_
      refine lv_iadd hx hb dL_holds_419 ?_
      refine lv_topi (fun z52 ez52 => ?_)
      obtain rfl : z52 = nI (PL + 1) := ez52.trans ((nI_add PL 1 : nI PL + nI 1 = _))
      refine lv_iload_n hx hb dL_holds_420 rfl (lv_at hl 5 rfl) ?_
      refine lv_iconst (v := 1) hx hb dL_holds_421 (by decide) ?_
      refine lv_iadd hx hb dL_holds_422 ?_
      refine lv_topi (fun z53 ez53 => ?_)
      obtain rfl : z53 = nI (N + 1) := ez53.trans ((nI_add N 1 : nI N + nI 1 = _))
      refine lv_irem hx hb dL_holds_423 (nI_ne0 (n := N + 1) (by omega) (by omega)) ?_
      refine lv_topi (fun z54 ez54 => ?_)
      obtain rfl : z54 = nI ((PL + 1) % (N + 1)) := ez54.trans ((pk_rem (a := PL + 1) (d := N + 1) (by omega) (by omega) (by omega) : nI (PL + 1) - nI (PL + 1) / nI (N + 1) * nI (N + 1) = _))
      refine lv_icmp_ne (tgt := 450) hx hb dL_holds_424 (by decide) (fun cb55 => absurd (congrArg nI (show ((PL + 1) % (N + 1)) = ((PL + 1) % (N + 1)) by omega)) cb55) (fun cb55 => ?_)
      refine lv_aload_n hx hb dL_holds_427 rfl (lv_at hl 3 rfl) ?_
      refine lv_bipush (v := 19) hx hb dL_holds_428 (by decide) ?_
      refine lv_iload hx hb dL_holds_430 (lv_at hl 2 rfl) ?_
      refine lv_iload_n hx hb dL_holds_432 rfl (lv_at hl 5 rfl) ?_
      refine lv_iload_n hx hb dL_holds_433 rfl (lv_at hl 5 rfl) ?_
      refine lv_iconst (v := 1) hx hb dL_holds_434 (by decide) ?_
      refine lv_iadd hx hb dL_holds_435 ?_
      refine lv_topi (fun z56 ez56 => ?_)
      obtain rfl : z56 = nI (N + 1) := ez56.trans ((nI_add N 1 : nI N + nI 1 = _))
      refine lv_imul hx hb dL_holds_436 ?_
      refine lv_topi (fun z57 ez57 => ?_)
      obtain rfl : z57 = nI (N * (N + 1)) := ez57.trans ((pk_mul N (N + 1) : nI N * nI (N + 1) = _))
      refine lv_iconst (v := 0) hx hb dL_holds_437 (by decide) ?_
      have k58 : fCall S 19 (nI (X % N)) (nI (N * (N + 1))) 0 = (nI PL, S) := (s_behind S (m := N * (N + 1)) 0 hG.gd hl0 (by omega)).trans (by rw [hN, hb3])
      refine xw_callEi (va_runS (As := [.ref (av 0), .int 19, .int (nI (X % N)), .int (nI (N * (N + 1))), .int 0]) (rest := []) ⟨hx, hb, hml, hown, hts⟩ (c_call l hst D y av ga50 gb51 H.size S 19 (nI (X % N)) (nI (N * (N + 1))) 0 hG.ok) (va_cwS 5 hts gL_holds_L_call rfl rfl rfl hd_L_call ⟨Nat.le_of_ble_eq_true rfl, Nat.le_of_ble_eq_true rfl⟩) (lS hE hXE hLN hXZ hS hA hP hD) rfl rfl hl.1 rfl (lv_room (Nat.le_of_ble_eq_true rfl)) dL_holds_438 ⟨by show _ ≤ 1000; omega, by show _ ≤ 20000; omega⟩) hD hS hA (fun v59 u60 ga62 gb63 H locs h61 hP hD hS => ?_)
      obtain ⟨rfl, rfl⟩ := Prod.mk.inj (k58.symm.trans h61)
      refine lv_iload hx hb dL_holds_441 (lv_at hl 0 rfl) ?_
      refine lv_icmp_ne (tgt := 450) hx hb dL_holds_443 (by decide) (fun cb64 => absurd (congrArg nI (show PL = PL by omega)) cb64) (fun cb64 => ?_)
      refine lv_iconst (v := 1) hx hb dL_holds_446 (by decide) ?_
      refine lv_goto (tgt := 451) hx hb dL_holds_447 (by decide) ?_
      refine lv_istore (lv' := [(7, .int 1), (10, .int (nI PL)), (9, .int (nI MK)), (8, .int (nI (X % N))), (0, .ref (av 0)), (1, .int (nI X)), (2, .int (nI N)), (3, .int (nI G)), (4, .int (nI (mxW S.2.2.1 (N + 1)))), (5, .int (nI (mnW S.2.2.1 (N + 1)))), (6, .int 0)]) hx hb dL_holds_451 hl (by decide) rfl (fun ls hl => ?_)
      refine lv_iconst (v := 1) hx hb dL_holds_453 (by decide) ?_
      refine lv_iload_n hx hb dL_holds_454 rfl (lv_at hl 5 rfl) ?_
      refine lv_bipush (v := 32) hx hb dL_holds_455 (by decide) ?_
      refine lv_idiv hx hb dL_holds_457 (by decide) ?_
      refine lv_topi (fun z65 ez65 => ?_)
      obtain rfl : z65 = nI (X / 32) := ez65.trans ((pk_div (a := X) (d := 32) (by omega) (by omega) (by omega) : nI X / nI 32 = _))
      refine lv_bipush (v := 60) hx hb dL_holds_458 (by decide) ?_
      refine lv_irem hx hb dL_holds_460 (by decide) ?_
      refine lv_topi (fun z66 ez66 => ?_)
      obtain rfl : z66 = nI ((X / 32) % 60) := ez66.trans ((pk_rem (a := X / 32) (d := 60) (by omega) (by omega) (by omega) : nI (X / 32) - nI (X / 32) / nI 60 * nI 60 = _))
      refine lv_iadd hx hb dL_holds_461 ?_
      refine lv_topi (fun z67 ez67 => ?_)
      obtain rfl : z67 = nI (1 + ((X / 32) % 60)) := ez67.trans ((nI_add 1 ((X / 32) % 60) : nI 1 + nI ((X / 32) % 60) = _))
      refine lv_istore (lv' := [(11, .int (nI (1 + ((X / 32) % 60)))), (7, .int 1), (10, .int (nI PL)), (9, .int (nI MK)), (8, .int (nI (X % N))), (0, .ref (av 0)), (1, .int (nI X)), (2, .int (nI N)), (3, .int (nI G)), (4, .int (nI (mxW S.2.2.1 (N + 1)))), (5, .int (nI (mnW S.2.2.1 (N + 1)))), (6, .int 0)]) hx hb dL_holds_462 hl (by decide) rfl (fun ls hl => ?_)
      refine lv_aload_n hx hb dL_holds_464 rfl (lv_at hl 5 rfl) ?_
      refine lv_bipush (v := 17) hx hb dL_holds_465 (by decide) ?_
      refine lv_iload hx hb dL_holds_467 (lv_at hl 4 rfl) ?_
      refine lv_iload hx hb dL_holds_469 (lv_at hl 0 rfl) ?_
      refine lv_iconst (v := 0) hx hb dL_holds_471 (by decide) ?_
      obtain ⟨BT, cc1, k68, hB1, hB2, hBe⟩ := s_best S (m := 1 + (X / 32 % 60)) 0 hl0 (by omega) (by omega)
      refine xw_callEi (va_runS (As := [.ref (av 0), .int 17, .int (nI (X % N)), .int (nI (1 + ((X / 32) % 60))), .int 0]) (rest := []) ⟨hx, hb, hml, hown, hts⟩ (c_call l hst D y av ga62 gb63 H.size S 17 (nI (X % N)) (nI (1 + ((X / 32) % 60))) 0 hG.ok) (va_cwS 5 hts gL_holds_L_call rfl rfl rfl hd_L_call ⟨Nat.le_of_ble_eq_true rfl, Nat.le_of_ble_eq_true rfl⟩) (lS hE hXE hLN hXZ hS hA hP hD) rfl rfl hl.1 rfl (lv_room (Nat.le_of_ble_eq_true rfl)) dL_holds_472 ⟨by show _ ≤ 1000; omega, by show _ ≤ 20000; omega⟩) hD hS hA (fun v69 u70 ga72 gb73 H locs h71 hP hD hS => ?_)
      obtain ⟨rfl, rfl⟩ := Prod.mk.inj (k68.symm.trans h71)
      refine lv_istore (lv' := [(12, .int (nI BT)), (11, .int (nI (1 + ((X / 32) % 60)))), (7, .int 1), (10, .int (nI PL)), (9, .int (nI MK)), (8, .int (nI (X % N))), (0, .ref (av 0)), (1, .int (nI X)), (2, .int (nI N)), (3, .int (nI G)), (4, .int (nI (mxW S.2.2.1 (N + 1)))), (5, .int (nI (mnW S.2.2.1 (N + 1)))), (6, .int 0)]) hx hb dL_holds_475 hl (by decide) rfl (fun ls hl => ?_)
      refine lv_iconst (v := 1) hx hb dL_holds_477 (by decide) ?_
      refine lv_iload_n hx hb dL_holds_478 rfl (lv_at hl 7 rfl) ?_
      refine lv_sipush (v := 1920) hx hb dL_holds_479 (by decide) ?_
      refine lv_idiv hx hb dL_holds_482 (by decide) ?_
      refine lv_topi (fun z74 ez74 => ?_)
      obtain rfl : z74 = nI (X / 1920) := ez74.trans ((pk_div (a := X) (d := 1920) (by omega) (by omega) (by omega) : nI X / nI 1920 = _))
      refine lv_bipush (v := 50) hx hb dL_holds_483 (by decide) ?_
      refine lv_irem hx hb dL_holds_485 (by decide) ?_
      refine lv_topi (fun z75 ez75 => ?_)
      obtain rfl : z75 = nI ((X / 1920) % 50) := ez75.trans ((pk_rem (a := X / 1920) (d := 50) (by omega) (by omega) (by omega) : nI (X / 1920) - nI (X / 1920) / nI 50 * nI 50 = _))
      refine lv_iadd hx hb dL_holds_486 ?_
      refine lv_topi (fun z76 ez76 => ?_)
      obtain rfl : z76 = nI (1 + ((X / 1920) % 50)) := ez76.trans ((nI_add 1 ((X / 1920) % 50) : nI 1 + nI ((X / 1920) % 50) = _))
      refine lv_istore (lv' := [(13, .int (nI (1 + ((X / 1920) % 50)))), (12, .int (nI BT)), (11, .int (nI (1 + ((X / 32) % 60)))), (7, .int 1), (10, .int (nI PL)), (9, .int (nI MK)), (8, .int (nI (X % N))), (0, .ref (av 0)), (1, .int (nI X)), (2, .int (nI N)), (3, .int (nI G)), (4, .int (nI (mxW S.2.2.1 (N + 1)))), (5, .int (nI (mnW S.2.2.1 (N + 1)))), (6, .int 0)]) hx hb dL_holds_487 hl (by decide) rfl (fun ls hl => ?_)
      refine lv_iload hx hb dL_holds_489 (lv_at hl 3 rfl) ?_
      refine lv_if_eq (tgt := 604) hx hb dL_holds_491 (by decide) (fun cb77 => absurd cb77 (by decide)) (fun cb77 => ?_)
      refine lv_aload_n hx hb dL_holds_494 rfl (lv_at hl 7 rfl) ?_
      refine lv_bipush (v := 16) hx hb dL_holds_495 (by decide) ?_
      refine lv_iload hx hb dL_holds_497 (lv_at hl 6 rfl) ?_
      refine lv_iload hx hb dL_holds_499 (lv_at hl 1 rfl) ?_
      refine lv_iload hx hb dL_holds_501 (lv_at hl 2 rfl) ?_
      obtain ⟨cc78, k79⟩ : ∃ c, fCall (sRc S cc1) 16 (nI (X % N)) (nI BT) (nI (1 + ((X / 32) % 60))) = (wE S.2.2.1 (nI (X % N)) (nI (1 + (X / 32 % 60))) (BT), sRc S c) := ⟨_, s_every (sRc S cc1) (e := BT) (m := 1 + (X / 32 % 60)) hl0 (by omega) (by omega) (by omega) (by omega)⟩
      refine xw_callEi (va_runS (As := [.ref (av 0), .int 16, .int (nI (X % N)), .int (nI BT), .int (nI (1 + ((X / 32) % 60)))]) (rest := []) ⟨hx, hb, hml, hown, hts⟩ (c_call l hst D y av ga72 gb73 H.size (sRc S cc1) 16 (nI (X % N)) (nI BT) (nI (1 + ((X / 32) % 60))) hG.ok) (va_cwS 5 hts gL_holds_L_call rfl rfl rfl hd_L_call ⟨Nat.le_of_ble_eq_true rfl, Nat.le_of_ble_eq_true rfl⟩) (lS hE hXE hLN hXZ hS hA hP hD) rfl rfl hl.1 rfl (lv_room (Nat.le_of_ble_eq_true rfl)) dL_holds_503 ⟨by show _ ≤ 1000; omega, by show _ ≤ 20000; omega⟩) hD hS hA (fun v80 u81 ga83 gb84 H locs h82 hP hD hS => ?_)
      obtain ⟨rfl, rfl⟩ := Prod.mk.inj (k79.symm.trans h82)
      refine lv_aload_n hx hb dL_holds_506 rfl (lv_at hl 7 rfl) ?_
      refine lv_bipush (v := 16) hx hb dL_holds_507 (by decide) ?_
      refine lv_iload hx hb dL_holds_509 (lv_at hl 6 rfl) ?_
      refine lv_iload hx hb dL_holds_511 (lv_at hl 0 rfl) ?_
      refine lv_iload hx hb dL_holds_513 (lv_at hl 2 rfl) ?_
      obtain ⟨cc85, k86⟩ : ∃ c, fCall (sRc S cc78) 16 (nI (X % N)) (nI (1 + ((X / 1920) % 50))) (nI (1 + ((X / 32) % 60))) = (wE S.2.2.1 (nI (X % N)) (nI (1 + (X / 32 % 60))) (1 + (X / 1920 % 50)), sRc S c) := ⟨_, s_every (sRc S cc78) (e := 1 + (X / 1920 % 50)) (m := 1 + (X / 32 % 60)) hl0 (by omega) (by omega) (by omega) (by omega)⟩
      refine xw_callEi (va_runS (As := [.ref (av 0), .int 16, .int (nI (X % N)), .int (nI (1 + ((X / 1920) % 50))), .int (nI (1 + ((X / 32) % 60)))]) (rest := [.int (wE S.2.2.1 (nI (X % N)) (nI (1 + (X / 32 % 60))) (BT))]) ⟨hx, hb, hml, hown, hts⟩ (c_call l hst D y av ga83 gb84 H.size (sRc S cc78) 16 (nI (X % N)) (nI (1 + ((X / 1920) % 50))) (nI (1 + ((X / 32) % 60))) hG.ok) (va_cwS 5 hts gL_holds_L_call rfl rfl rfl hd_L_call ⟨Nat.le_of_ble_eq_true rfl, Nat.le_of_ble_eq_true rfl⟩) (lS hE hXE hLN hXZ hS hA hP hD) rfl rfl hl.1 rfl (lv_room (Nat.le_of_ble_eq_true rfl)) dL_holds_515 ⟨by show _ ≤ 1000; omega, by show _ ≤ 20000; omega⟩) hD hS hA (fun v87 u88 ga90 gb91 H locs h89 hP hD hS => ?_)
      obtain ⟨rfl, rfl⟩ := Prod.mk.inj (k86.symm.trans h89)
      refine lv_icmp_gt (tgt := 604) hx hb dL_holds_518 (by decide) (fun cb92 => absurd cb92 (Int32.not_lt.mpr (hBe (1 + (X / 1920 % 50)) (by omega) (by omega)).1)) (fun cb92 => ?_)
      refine lv_iload hx hb dL_holds_521 (lv_at hl 0 rfl) ?_
      refine lv_iload hx hb dL_holds_523 (lv_at hl 1 rfl) ?_
      refine lv_icmp_le (tgt := 555) hx hb dL_holds_525 (by decide) (fun cb93 => ?_) (fun cb93 => ?_)
      · skip
        have d1 : 1 + (X / 1920 % 50) ≤ BT := (nI_leI (by omega) (by omega)).mp cb93
        refine lv_aload_n hx hb dL_holds_555 rfl (lv_at hl 7 rfl) ?_
        refine lv_bipush (v := 14) hx hb dL_holds_556 (by decide) ?_
        refine lv_iload hx hb dL_holds_558 (lv_at hl 6 rfl) ?_
        refine lv_iconst (v := 0) hx hb dL_holds_560 (by decide) ?_
        refine lv_iconst (v := 0) hx hb dL_holds_561 (by decide) ?_
        have hLF3 : 0 < (hmF (nI (X % N)) 2000 S.2.2.1).1 := Nat.pos_of_ne_zero (fun q => hLF.mp q h8)
        obtain ⟨cc94, k95⟩ : ∃ c, fCall (sRc S cc85) 14 (nI (X % N)) 0 0 = (nI (hmF (nI (X % N)) 2000 S.2.2.1).1, sRc S c) := ⟨_, s_life (sRc S cc85) 0 0 hl0⟩
        refine xw_callEi (va_runS (As := [.ref (av 0), .int 14, .int (nI (X % N)), .int 0, .int 0]) (rest := []) ⟨hx, hb, hml, hown, hts⟩ (c_call l hst D y av ga90 gb91 H.size (sRc S cc85) 14 (nI (X % N)) 0 0 hG.ok) (va_cwS 5 hts gL_holds_L_call rfl rfl rfl hd_L_call ⟨Nat.le_of_ble_eq_true rfl, Nat.le_of_ble_eq_true rfl⟩) (lS hE hXE hLN hXZ hS hA hP hD) rfl rfl hl.1 rfl (lv_room (Nat.le_of_ble_eq_true rfl)) dL_holds_562 ⟨by show _ ≤ 1000; omega, by show _ ≤ 20000; omega⟩) hD hS hA (fun v96 u97 ga99 gb100 H locs h98 hP hD hS => ?_)
        obtain ⟨rfl, rfl⟩ := Prod.mk.inj (k95.symm.trans h98)
        refine lv_if_ne (tgt := 572) hx hb dL_holds_565 (by decide) (fun cb101 => ?_) (fun cb101 => absurd cb101 (fun q => absurd ((nI_eq (a := (hmF (nI (X % N)) 2000 S.2.2.1).1) (b := 0) (by omega) (by omega)).mp q) (by omega)))
        refine lv_iconst (v := 0) hx hb dL_holds_572 (by decide) ?_
        refine lv_iload hx hb dL_holds_573 (lv_at hl 13 rfl) ?_
        refine lv_icmp_ne (tgt := 604) hx hb dL_holds_575 (by decide) (fun cb102 => absurd (by decide) cb102) (fun cb102 => ?_)
        refine lv_aload_n hx hb dL_holds_578 rfl (lv_at hl 7 rfl) ?_
        refine lv_bipush (v := 15) hx hb dL_holds_579 (by decide) ?_
        refine lv_iconst (v := 0) hx hb dL_holds_581 (by decide) ?_
        refine lv_iconst (v := 0) hx hb dL_holds_582 (by decide) ?_
        refine lv_iconst (v := 0) hx hb dL_holds_583 (by decide) ?_
        obtain ⟨jj104, cc103, k105, hj1, hj2⟩ := s_long (sRc S cc94) 0 0 0 hG.gd
        have hj3 : 0 < jj104 := Nat.pos_of_ne_zero (fun q => hj2.mp q h8)
        have k105 : fCall (sRc S cc94) 15 0 0 0 = (nI jj104, sRc S cc103) := k105
        refine xw_callEi (va_runS (As := [.ref (av 0), .int 15, .int 0, .int 0, .int 0]) (rest := []) ⟨hx, hb, hml, hown, hts⟩ (c_call l hst D y av ga99 gb100 H.size (sRc S cc94) 15 0 0 0 hG.ok) (va_cwS 5 hts gL_holds_L_call rfl rfl rfl hd_L_call ⟨Nat.le_of_ble_eq_true rfl, Nat.le_of_ble_eq_true rfl⟩) (lS hE hXE hLN hXZ hS hA hP hD) rfl rfl hl.1 rfl (lv_room (Nat.le_of_ble_eq_true rfl)) dL_holds_584 ⟨by show _ ≤ 1000; omega, by show _ ≤ 20000; omega⟩) hD hS hA (fun v106 u107 ga109 gb110 H locs h108 hP hD hS => ?_)
        obtain ⟨rfl, rfl⟩ := Prod.mk.inj (k105.symm.trans h108)
        refine lv_if_ne (tgt := 594) hx hb dL_holds_587 (by decide) (fun cb111 => ?_) (fun cb111 => absurd cb111 (fun q => absurd ((nI_eq (a := jj104) (b := 0) (by omega) (by omega)).mp q) (by omega)))
        refine lv_iconst (v := 0) hx hb dL_holds_594 (by decide) ?_
        refine lv_iload hx hb dL_holds_595 (lv_at hl 13 rfl) ?_
        refine lv_icmp_ne (tgt := 604) hx hb dL_holds_597 (by decide) (fun cb112 => absurd (by decide) cb112) (fun cb112 => ?_)
        refine lv_iconst (v := 1) hx hb dL_holds_600 (by decide) ?_
        refine lv_goto (tgt := 605) hx hb dL_holds_601 (by decide) ?_
        refine W.widen (k := 1000) (n := 20000) (by omega) (by omega) ?_
        exact W.zret (v := 1) hx hb hr rfl (fun t ht hW => ⟨⟨1, sRc S cc103, rfl, ⟨rfl, _, rfl⟩, ga109, gb110, by rw [ht]; exact hP, hD⟩, hS.F ht⟩) hS.2.2 dL_holds_605
      · skip
        have d1 : BT < 1 + (X / 1920 % 50) := Nat.lt_of_not_le (fun q => cb93 ((nI_leI (by omega) (by omega)).mpr q))
        refine lv_aload_n hx hb dL_holds_528 rfl (lv_at hl 7 rfl) ?_
        refine lv_bipush (v := 16) hx hb dL_holds_529 (by decide) ?_
        refine lv_iload hx hb dL_holds_531 (lv_at hl 6 rfl) ?_
        refine lv_iload hx hb dL_holds_533 (lv_at hl 0 rfl) ?_
        refine lv_iload hx hb dL_holds_535 (lv_at hl 2 rfl) ?_
        obtain ⟨cc113, k114⟩ : ∃ c, fCall (sRc S cc85) 16 (nI (X % N)) (nI (1 + ((X / 1920) % 50))) (nI (1 + ((X / 32) % 60))) = (wE S.2.2.1 (nI (X % N)) (nI (1 + (X / 32 % 60))) (1 + (X / 1920 % 50)), sRc S c) := ⟨_, s_every (sRc S cc85) (e := 1 + (X / 1920 % 50)) (m := 1 + (X / 32 % 60)) hl0 (by omega) (by omega) (by omega) (by omega)⟩
        refine xw_callEi (va_runS (As := [.ref (av 0), .int 16, .int (nI (X % N)), .int (nI (1 + ((X / 1920) % 50))), .int (nI (1 + ((X / 32) % 60)))]) (rest := []) ⟨hx, hb, hml, hown, hts⟩ (c_call l hst D y av ga90 gb91 H.size (sRc S cc85) 16 (nI (X % N)) (nI (1 + ((X / 1920) % 50))) (nI (1 + ((X / 32) % 60))) hG.ok) (va_cwS 5 hts gL_holds_L_call rfl rfl rfl hd_L_call ⟨Nat.le_of_ble_eq_true rfl, Nat.le_of_ble_eq_true rfl⟩) (lS hE hXE hLN hXZ hS hA hP hD) rfl rfl hl.1 rfl (lv_room (Nat.le_of_ble_eq_true rfl)) dL_holds_537 ⟨by show _ ≤ 1000; omega, by show _ ≤ 20000; omega⟩) hD hS hA (fun v115 u116 ga118 gb119 H locs h117 hP hD hS => ?_)
        obtain ⟨rfl, rfl⟩ := Prod.mk.inj (k114.symm.trans h117)
        refine lv_aload_n hx hb dL_holds_540 rfl (lv_at hl 7 rfl) ?_
        refine lv_bipush (v := 16) hx hb dL_holds_541 (by decide) ?_
        refine lv_iload hx hb dL_holds_543 (lv_at hl 6 rfl) ?_
        refine lv_iload hx hb dL_holds_545 (lv_at hl 1 rfl) ?_
        refine lv_iload hx hb dL_holds_547 (lv_at hl 2 rfl) ?_
        obtain ⟨cc120, k121⟩ : ∃ c, fCall (sRc S cc113) 16 (nI (X % N)) (nI BT) (nI (1 + ((X / 32) % 60))) = (wE S.2.2.1 (nI (X % N)) (nI (1 + (X / 32 % 60))) (BT), sRc S c) := ⟨_, s_every (sRc S cc113) (e := BT) (m := 1 + (X / 32 % 60)) hl0 (by omega) (by omega) (by omega) (by omega)⟩
        refine xw_callEi (va_runS (As := [.ref (av 0), .int 16, .int (nI (X % N)), .int (nI BT), .int (nI (1 + ((X / 32) % 60)))]) (rest := [.int (wE S.2.2.1 (nI (X % N)) (nI (1 + (X / 32 % 60))) (1 + (X / 1920 % 50)))]) ⟨hx, hb, hml, hown, hts⟩ (c_call l hst D y av ga118 gb119 H.size (sRc S cc113) 16 (nI (X % N)) (nI BT) (nI (1 + ((X / 32) % 60))) hG.ok) (va_cwS 5 hts gL_holds_L_call rfl rfl rfl hd_L_call ⟨Nat.le_of_ble_eq_true rfl, Nat.le_of_ble_eq_true rfl⟩) (lS hE hXE hLN hXZ hS hA hP hD) rfl rfl hl.1 rfl (lv_room (Nat.le_of_ble_eq_true rfl)) dL_holds_549 ⟨by show _ ≤ 1000; omega, by show _ ≤ 20000; omega⟩) hD hS hA (fun v122 u123 ga125 gb126 H locs h124 hP hD hS => ?_)
        obtain ⟨rfl, rfl⟩ := Prod.mk.inj (k121.symm.trans h124)
        refine lv_icmp_le (tgt := 604) hx hb dL_holds_552 (by decide) (fun cb127 => absurd cb127 (Int32.not_le.mpr ((hBe (1 + (X / 1920 % 50)) (by omega) (by omega)).2 d1))) (fun cb127 => ?_)
        refine lv_aload_n hx hb dL_holds_555 rfl (lv_at hl 7 rfl) ?_
        refine lv_bipush (v := 14) hx hb dL_holds_556 (by decide) ?_
        refine lv_iload hx hb dL_holds_558 (lv_at hl 6 rfl) ?_
        refine lv_iconst (v := 0) hx hb dL_holds_560 (by decide) ?_
        refine lv_iconst (v := 0) hx hb dL_holds_561 (by decide) ?_
        have hLF3 : 0 < (hmF (nI (X % N)) 2000 S.2.2.1).1 := Nat.pos_of_ne_zero (fun q => hLF.mp q h8)
        obtain ⟨cc128, k129⟩ : ∃ c, fCall (sRc S cc120) 14 (nI (X % N)) 0 0 = (nI (hmF (nI (X % N)) 2000 S.2.2.1).1, sRc S c) := ⟨_, s_life (sRc S cc120) 0 0 hl0⟩
        refine xw_callEi (va_runS (As := [.ref (av 0), .int 14, .int (nI (X % N)), .int 0, .int 0]) (rest := []) ⟨hx, hb, hml, hown, hts⟩ (c_call l hst D y av ga125 gb126 H.size (sRc S cc120) 14 (nI (X % N)) 0 0 hG.ok) (va_cwS 5 hts gL_holds_L_call rfl rfl rfl hd_L_call ⟨Nat.le_of_ble_eq_true rfl, Nat.le_of_ble_eq_true rfl⟩) (lS hE hXE hLN hXZ hS hA hP hD) rfl rfl hl.1 rfl (lv_room (Nat.le_of_ble_eq_true rfl)) dL_holds_562 ⟨by show _ ≤ 1000; omega, by show _ ≤ 20000; omega⟩) hD hS hA (fun v130 u131 ga133 gb134 H locs h132 hP hD hS => ?_)
        obtain ⟨rfl, rfl⟩ := Prod.mk.inj (k129.symm.trans h132)
        refine lv_if_ne (tgt := 572) hx hb dL_holds_565 (by decide) (fun cb135 => ?_) (fun cb135 => absurd cb135 (fun q => absurd ((nI_eq (a := (hmF (nI (X % N)) 2000 S.2.2.1).1) (b := 0) (by omega) (by omega)).mp q) (by omega)))
        refine lv_iconst (v := 0) hx hb dL_holds_572 (by decide) ?_
        refine lv_iload hx hb dL_holds_573 (lv_at hl 13 rfl) ?_
        refine lv_icmp_ne (tgt := 604) hx hb dL_holds_575 (by decide) (fun cb136 => absurd (by decide) cb136) (fun cb136 => ?_)
        refine lv_aload_n hx hb dL_holds_578 rfl (lv_at hl 7 rfl) ?_
        refine lv_bipush (v := 15) hx hb dL_holds_579 (by decide) ?_
        refine lv_iconst (v := 0) hx hb dL_holds_581 (by decide) ?_
        refine lv_iconst (v := 0) hx hb dL_holds_582 (by decide) ?_
        refine lv_iconst (v := 0) hx hb dL_holds_583 (by decide) ?_
        obtain ⟨jj138, cc137, k139, hj1, hj2⟩ := s_long (sRc S cc128) 0 0 0 hG.gd
        have hj3 : 0 < jj138 := Nat.pos_of_ne_zero (fun q => hj2.mp q h8)
        have k139 : fCall (sRc S cc128) 15 0 0 0 = (nI jj138, sRc S cc137) := k139
        refine xw_callEi (va_runS (As := [.ref (av 0), .int 15, .int 0, .int 0, .int 0]) (rest := []) ⟨hx, hb, hml, hown, hts⟩ (c_call l hst D y av ga133 gb134 H.size (sRc S cc128) 15 0 0 0 hG.ok) (va_cwS 5 hts gL_holds_L_call rfl rfl rfl hd_L_call ⟨Nat.le_of_ble_eq_true rfl, Nat.le_of_ble_eq_true rfl⟩) (lS hE hXE hLN hXZ hS hA hP hD) rfl rfl hl.1 rfl (lv_room (Nat.le_of_ble_eq_true rfl)) dL_holds_584 ⟨by show _ ≤ 1000; omega, by show _ ≤ 20000; omega⟩) hD hS hA (fun v140 u141 ga143 gb144 H locs h142 hP hD hS => ?_)
        obtain ⟨rfl, rfl⟩ := Prod.mk.inj (k139.symm.trans h142)
        refine lv_if_ne (tgt := 594) hx hb dL_holds_587 (by decide) (fun cb145 => ?_) (fun cb145 => absurd cb145 (fun q => absurd ((nI_eq (a := jj138) (b := 0) (by omega) (by omega)).mp q) (by omega)))
        refine lv_iconst (v := 0) hx hb dL_holds_594 (by decide) ?_
        refine lv_iload hx hb dL_holds_595 (lv_at hl 13 rfl) ?_
        refine lv_icmp_ne (tgt := 604) hx hb dL_holds_597 (by decide) (fun cb146 => absurd (by decide) cb146) (fun cb146 => ?_)
        refine lv_iconst (v := 1) hx hb dL_holds_600 (by decide) ?_
        refine lv_goto (tgt := 605) hx hb dL_holds_601 (by decide) ?_
        refine W.widen (k := 1000) (n := 20000) (by omega) (by omega) ?_
        exact W.zret (v := 1) hx hb hr rfl (fun t ht hW => ⟨⟨1, sRc S cc137, rfl, ⟨rfl, _, rfl⟩, ga143, gb144, by rw [ht]; exact hP, hD⟩, hS.F ht⟩) hS.2.2 dL_holds_605
    have loop : ∀ (d j : Nat), j + d = N + 1 → ∀ (ga gb : Nat → Nat × Nat × Nat) (H : Heap) (locs : List Loc) (ls : Array Slot), va_P D vwCl (oW y av ga gb S) H → va_D A (oW y av ga gb S) → va_S A s.heap H locs → lv_has ls 14 [(0, .ref (av 0)), (1, .int (nI X)), (2, .int (nI N)), (3, .int (nI G)), (4, .int (nI (mxW S.2.2.1 j))), (5, .int (nI (mnW S.2.2.1 j))), (6, .int 0), (7, .int 1), (8, .int (nI j))] → W p l e (headSpec wsL_holds ({ frames := 10, cells := 1000, slots := 20000, locals := 202 })).room s m ([.ref (av 0), .int (nI X)] : List Value).toArray below meth c H locs (100 + 15 * j) (2000 + 276 * j) (MQ below (va_Qi (fun (v : Int32) (u : oS) => v = 1 ∧ ∃ c, u = sRc S c) (fun (u : oS) t => ∃ (g1 g2 : Nat → Nat × Nat × Nat), va_P D vwCl (oW y av g1 g2 u) t.heap ∧ va_D A (oW y av g1 g2 u)) A) ([.ref (av 0), .int (nI X)] : List Value).toArray s 1000 20000 A) (F0 m 176 ls []) := by
      intro d
      induction d with
      | zero =>
        intro j hj ga gb H locs ls hP hD hS hl
        obtain rfl : j = N + 1 := by omega
        refine lv_iload hx hb dL_holds_176 (lv_at hl 8 rfl) ?_
        refine lv_iload_n hx hb dL_holds_178 rfl (lv_at hl 2 rfl) ?_
        refine lv_icmp_gt (tgt := 300) hx hb dL_holds_179 (by decide) (fun cb147 => ?_) (fun cb147 => absurd (nI_lt (a := N) (b := N + 1) (by omega) (by omega)) cb147)
        refine W.widen (k := 600) (n := 12000) (by omega) (by omega) ?_
        exact post ga gb H locs ls hP hD hS hl
      | succ d ih =>
        intro j hj ga gb H locs ls hP hD hS hl
        have w9 := (m_wearN hG.gd.2.1 (j := j) (by omega)).2
        have mx9 := mxW_le hG.gd.2.1 j (by omega)
        have mn9 := mnW_le (r := S.2.2.1) j
        by_cases hjg : j = G
        · skip
          by_cases hc1 : mxW S.2.2.1 j < nN (S.2.2.1 (45 + j))
          · have m4 : mxW S.2.2.1 (j + 1) = nN (S.2.2.1 (45 + j)) := if_pos hc1
            by_cases hc2 : nN (S.2.2.1 (45 + j)) < mnW S.2.2.1 j
            · have m5 : mnW S.2.2.1 (j + 1) = nN (S.2.2.1 (45 + j)) := if_pos hc2
              refine lv_iload hx hb dL_holds_176 (lv_at hl 8 rfl) ?_
              refine lv_iload_n hx hb dL_holds_178 rfl (lv_at hl 2 rfl) ?_
              refine lv_icmp_gt (tgt := 300) hx hb dL_holds_179 (by decide) (fun cb148 => absurd cb148 (nI_nlt (a := N) (b := j) (by omega) (by omega))) (fun cb148 => ?_)
              refine lv_iload hx hb dL_holds_182 (lv_at hl 7 rfl) ?_
              refine lv_if_eq (tgt := 300) hx hb dL_holds_184 (by decide) (fun cb149 => absurd cb149 (by decide)) (fun cb149 => ?_)
              refine lv_aload_n hx hb dL_holds_187 rfl (lv_at hl 0 rfl) ?_
              refine lv_iconst (v := 5) hx hb dL_holds_188 (by decide) ?_
              refine lv_iload hx hb dL_holds_189 (lv_at hl 8 rfl) ?_
              refine lv_iconst (v := 0) hx hb dL_holds_191 (by decide) ?_
              refine lv_iconst (v := 0) hx hb dL_holds_192 (by decide) ?_
              have k150 : fCall S 5 (nI j) 0 0 = ((-1), S) := (s_line S 0 0 hG.gd (by omega)).trans (by rw [hjg, ← e3, m_lineGap])
              refine xw_callEi (va_runS (As := [.ref (av 0), .int 5, .int (nI j), .int 0, .int 0]) (rest := []) ⟨hx, hb, hml, hown, hts⟩ (c_call l hst D y av ga gb H.size S 5 (nI j) 0 0 hG.ok) (va_cwS 5 hts gL_holds_L_call rfl rfl rfl hd_L_call ⟨Nat.le_of_ble_eq_true rfl, Nat.le_of_ble_eq_true rfl⟩) (lS hE hXE hLN hXZ hS hA hP hD) rfl rfl hl.1 rfl (lv_room (Nat.le_of_ble_eq_true rfl)) dL_holds_193 ⟨by show _ ≤ 1000; omega, by show _ ≤ 20000; omega⟩) hD hS hA (fun v151 u152 ga154 gb155 H locs h153 hP hD hS => ?_)
              obtain ⟨rfl, rfl⟩ := Prod.mk.inj (k150.symm.trans h153)
              refine lv_istore (lv' := [(9, .int (-1)), (0, .ref (av 0)), (1, .int (nI X)), (2, .int (nI N)), (3, .int (nI G)), (4, .int (nI (mxW S.2.2.1 j))), (5, .int (nI (mnW S.2.2.1 j))), (6, .int 0), (7, .int 1), (8, .int (nI j))]) hx hb dL_holds_196 hl (by decide) rfl (fun ls hl => ?_)
              refine lv_aload_n hx hb dL_holds_198 rfl (lv_at hl 1 rfl) ?_
              refine lv_bipush (v := 6) hx hb dL_holds_199 (by decide) ?_
              refine lv_iload hx hb dL_holds_201 (lv_at hl 9 rfl) ?_
              refine lv_iconst (v := 0) hx hb dL_holds_203 (by decide) ?_
              refine lv_iconst (v := 0) hx hb dL_holds_204 (by decide) ?_
              have k156 : fCall S 6 (nI j) 0 0 = (nI (nN (S.2.2.1 (45 + j))), S) := s_wear S 0 0 hG.gd (by omega)
              refine xw_callEi (va_runS (As := [.ref (av 0), .int 6, .int (nI j), .int 0, .int 0]) (rest := []) ⟨hx, hb, hml, hown, hts⟩ (c_call l hst D y av ga154 gb155 H.size S 6 (nI j) 0 0 hG.ok) (va_cwS 5 hts gL_holds_L_call rfl rfl rfl hd_L_call ⟨Nat.le_of_ble_eq_true rfl, Nat.le_of_ble_eq_true rfl⟩) (lS hE hXE hLN hXZ hS hA hP hD) rfl rfl hl.1 rfl (lv_room (Nat.le_of_ble_eq_true rfl)) dL_holds_205 ⟨by show _ ≤ 1000; omega, by show _ ≤ 20000; omega⟩) hD hS hA (fun v157 u158 ga160 gb161 H locs h159 hP hD hS => ?_)
              obtain ⟨rfl, rfl⟩ := Prod.mk.inj (k156.symm.trans h159)
              refine lv_istore (lv' := [(10, .int (nI (nN (S.2.2.1 (45 + j))))), (9, .int (-1)), (0, .ref (av 0)), (1, .int (nI X)), (2, .int (nI N)), (3, .int (nI G)), (4, .int (nI (mxW S.2.2.1 j))), (5, .int (nI (mnW S.2.2.1 j))), (6, .int 0), (7, .int 1), (8, .int (nI j))]) hx hb dL_holds_208 hl (by decide) rfl (fun ls hl => ?_)
              refine lv_iload hx hb dL_holds_210 (lv_at hl 0 rfl) ?_
              refine lv_iload hx hb dL_holds_212 (lv_at hl 6 rfl) ?_
              refine lv_icmp_le (tgt := 222) hx hb dL_holds_214 (by decide) (fun cb162 => absurd cb162 (nI_ge (a := mxW S.2.2.1 j) (b := nN (S.2.2.1 (45 + j))) (by omega) (by omega))) (fun cb162 => ?_)
              refine lv_iload hx hb dL_holds_217 (lv_at hl 0 rfl) ?_
              refine lv_goto (tgt := 224) hx hb dL_holds_219 (by decide) ?_
              refine lv_istore (lv' := [(4, .int (nI (nN (S.2.2.1 (45 + j))))), (10, .int (nI (nN (S.2.2.1 (45 + j))))), (9, .int (-1)), (0, .ref (av 0)), (1, .int (nI X)), (2, .int (nI N)), (3, .int (nI G)), (5, .int (nI (mnW S.2.2.1 j))), (6, .int 0), (7, .int 1), (8, .int (nI j))]) hx hb dL_holds_224 hl (by decide) rfl (fun ls hl => ?_)
              refine lv_iload hx hb dL_holds_226 (lv_at hl 1 rfl) ?_
              refine lv_iload hx hb dL_holds_228 (lv_at hl 7 rfl) ?_
              refine lv_icmp_ge (tgt := 238) hx hb dL_holds_230 (by decide) (fun cb163 => absurd cb163 (nI_ge (a := nN (S.2.2.1 (45 + j))) (b := mnW S.2.2.1 j) (by omega) (by omega))) (fun cb163 => ?_)
              refine lv_iload hx hb dL_holds_233 (lv_at hl 1 rfl) ?_
              refine lv_goto (tgt := 240) hx hb dL_holds_235 (by decide) ?_
              refine lv_istore (lv' := [(5, .int (nI (nN (S.2.2.1 (45 + j))))), (4, .int (nI (nN (S.2.2.1 (45 + j))))), (10, .int (nI (nN (S.2.2.1 (45 + j))))), (9, .int (-1)), (0, .ref (av 0)), (1, .int (nI X)), (2, .int (nI N)), (3, .int (nI G)), (6, .int 0), (7, .int 1), (8, .int (nI j))]) hx hb dL_holds_240 hl (by decide) rfl (fun ls hl => ?_)
              refine lv_iload hx hb dL_holds_242 (lv_at hl 2 rfl) ?_
              refine lv_if_lt (tgt := 291) hx hb dL_holds_244 (by decide) (fun cb164 => absurd cb164 (nI_nlt (a := nN (S.2.2.1 (45 + j))) (b := 0) (by omega) (by omega))) (fun cb164 => ?_)
              refine lv_iload hx hb dL_holds_247 (lv_at hl 10 rfl) ?_
              refine lv_iload_n hx hb dL_holds_249 rfl (lv_at hl 7 rfl) ?_
              refine lv_icmp_ne (tgt := 262) hx hb dL_holds_250 (by decide) (fun cb165 => absurd (congrArg nI (show j = G by omega)) cb165) (fun cb165 => ?_)
              refine lv_iload hx hb dL_holds_253 (lv_at hl 3 rfl) ?_
              refine lv_iconst (v := (-1)) hx hb dL_holds_255 (by decide) ?_
              refine lv_icmp_ne (tgt := 291) hx hb dL_holds_256 (by decide) (fun cb166 => absurd (by decide) cb166) (fun cb166 => ?_)
              refine lv_goto (tgt := 287) hx hb dL_holds_259 (by decide) ?_
              refine lv_iconst (v := 1) hx hb dL_holds_287 (by decide) ?_
              refine lv_goto (tgt := 292) hx hb dL_holds_288 (by decide) ?_
              refine lv_istore (lv' := [(7, .int 1), (5, .int (nI (nN (S.2.2.1 (45 + j))))), (4, .int (nI (nN (S.2.2.1 (45 + j))))), (10, .int (nI (nN (S.2.2.1 (45 + j))))), (9, .int (-1)), (0, .ref (av 0)), (1, .int (nI X)), (2, .int (nI N)), (3, .int (nI G)), (6, .int 0), (8, .int (nI j))]) hx hb dL_holds_292 hl (by decide) rfl (fun ls hl => ?_)
              refine lv_iinc (v := nI (j + 1)) (lv' := [(8, .int (nI (j + 1))), (7, .int 1), (5, .int (nI (nN (S.2.2.1 (45 + j))))), (4, .int (nI (nN (S.2.2.1 (45 + j))))), (10, .int (nI (nN (S.2.2.1 (45 + j))))), (9, .int (-1)), (0, .ref (av 0)), (1, .int (nI X)), (2, .int (nI N)), (3, .int (nI G)), (6, .int 0)]) hx hb dL_holds_294 hl (k := 10) rfl (nI_add j 1) (by decide) rfl (fun ls hl => ?_)
              refine lv_goto (tgt := 176) hx hb dL_holds_297 (by decide) ?_
              refine W.widen (k := 100 + 15 * (j + 1)) (n := 2000 + 276 * (j + 1)) (by omega) (by omega) ?_
              exact ih (j + 1) (by omega) ga160 gb161 H locs ls hP hD hS (by rw [m4, m5]; exact lv_sub hl [6, 7, 8, 9, 3, 2, 10, 1, 0] rfl)
            · have m5 : mnW S.2.2.1 (j + 1) = mnW S.2.2.1 j := if_neg hc2
              refine lv_iload hx hb dL_holds_176 (lv_at hl 8 rfl) ?_
              refine lv_iload_n hx hb dL_holds_178 rfl (lv_at hl 2 rfl) ?_
              refine lv_icmp_gt (tgt := 300) hx hb dL_holds_179 (by decide) (fun cb167 => absurd cb167 (nI_nlt (a := N) (b := j) (by omega) (by omega))) (fun cb167 => ?_)
              refine lv_iload hx hb dL_holds_182 (lv_at hl 7 rfl) ?_
              refine lv_if_eq (tgt := 300) hx hb dL_holds_184 (by decide) (fun cb168 => absurd cb168 (by decide)) (fun cb168 => ?_)
              refine lv_aload_n hx hb dL_holds_187 rfl (lv_at hl 0 rfl) ?_
              refine lv_iconst (v := 5) hx hb dL_holds_188 (by decide) ?_
              refine lv_iload hx hb dL_holds_189 (lv_at hl 8 rfl) ?_
              refine lv_iconst (v := 0) hx hb dL_holds_191 (by decide) ?_
              refine lv_iconst (v := 0) hx hb dL_holds_192 (by decide) ?_
              have k169 : fCall S 5 (nI j) 0 0 = ((-1), S) := (s_line S 0 0 hG.gd (by omega)).trans (by rw [hjg, ← e3, m_lineGap])
              refine xw_callEi (va_runS (As := [.ref (av 0), .int 5, .int (nI j), .int 0, .int 0]) (rest := []) ⟨hx, hb, hml, hown, hts⟩ (c_call l hst D y av ga gb H.size S 5 (nI j) 0 0 hG.ok) (va_cwS 5 hts gL_holds_L_call rfl rfl rfl hd_L_call ⟨Nat.le_of_ble_eq_true rfl, Nat.le_of_ble_eq_true rfl⟩) (lS hE hXE hLN hXZ hS hA hP hD) rfl rfl hl.1 rfl (lv_room (Nat.le_of_ble_eq_true rfl)) dL_holds_193 ⟨by show _ ≤ 1000; omega, by show _ ≤ 20000; omega⟩) hD hS hA (fun v170 u171 ga173 gb174 H locs h172 hP hD hS => ?_)
              obtain ⟨rfl, rfl⟩ := Prod.mk.inj (k169.symm.trans h172)
              refine lv_istore (lv' := [(9, .int (-1)), (0, .ref (av 0)), (1, .int (nI X)), (2, .int (nI N)), (3, .int (nI G)), (4, .int (nI (mxW S.2.2.1 j))), (5, .int (nI (mnW S.2.2.1 j))), (6, .int 0), (7, .int 1), (8, .int (nI j))]) hx hb dL_holds_196 hl (by decide) rfl (fun ls hl => ?_)
              refine lv_aload_n hx hb dL_holds_198 rfl (lv_at hl 1 rfl) ?_
              refine lv_bipush (v := 6) hx hb dL_holds_199 (by decide) ?_
              refine lv_iload hx hb dL_holds_201 (lv_at hl 9 rfl) ?_
              refine lv_iconst (v := 0) hx hb dL_holds_203 (by decide) ?_
              refine lv_iconst (v := 0) hx hb dL_holds_204 (by decide) ?_
              have k175 : fCall S 6 (nI j) 0 0 = (nI (nN (S.2.2.1 (45 + j))), S) := s_wear S 0 0 hG.gd (by omega)
              refine xw_callEi (va_runS (As := [.ref (av 0), .int 6, .int (nI j), .int 0, .int 0]) (rest := []) ⟨hx, hb, hml, hown, hts⟩ (c_call l hst D y av ga173 gb174 H.size S 6 (nI j) 0 0 hG.ok) (va_cwS 5 hts gL_holds_L_call rfl rfl rfl hd_L_call ⟨Nat.le_of_ble_eq_true rfl, Nat.le_of_ble_eq_true rfl⟩) (lS hE hXE hLN hXZ hS hA hP hD) rfl rfl hl.1 rfl (lv_room (Nat.le_of_ble_eq_true rfl)) dL_holds_205 ⟨by show _ ≤ 1000; omega, by show _ ≤ 20000; omega⟩) hD hS hA (fun v176 u177 ga179 gb180 H locs h178 hP hD hS => ?_)
              obtain ⟨rfl, rfl⟩ := Prod.mk.inj (k175.symm.trans h178)
              refine lv_istore (lv' := [(10, .int (nI (nN (S.2.2.1 (45 + j))))), (9, .int (-1)), (0, .ref (av 0)), (1, .int (nI X)), (2, .int (nI N)), (3, .int (nI G)), (4, .int (nI (mxW S.2.2.1 j))), (5, .int (nI (mnW S.2.2.1 j))), (6, .int 0), (7, .int 1), (8, .int (nI j))]) hx hb dL_holds_208 hl (by decide) rfl (fun ls hl => ?_)
              refine lv_iload hx hb dL_holds_210 (lv_at hl 0 rfl) ?_
              refine lv_iload hx hb dL_holds_212 (lv_at hl 6 rfl) ?_
              refine lv_icmp_le (tgt := 222) hx hb dL_holds_214 (by decide) (fun cb181 => absurd cb181 (nI_ge (a := mxW S.2.2.1 j) (b := nN (S.2.2.1 (45 + j))) (by omega) (by omega))) (fun cb181 => ?_)
              refine lv_iload hx hb dL_holds_217 (lv_at hl 0 rfl) ?_
              refine lv_goto (tgt := 224) hx hb dL_holds_219 (by decide) ?_
              refine lv_istore (lv' := [(4, .int (nI (nN (S.2.2.1 (45 + j))))), (10, .int (nI (nN (S.2.2.1 (45 + j))))), (9, .int (-1)), (0, .ref (av 0)), (1, .int (nI X)), (2, .int (nI N)), (3, .int (nI G)), (5, .int (nI (mnW S.2.2.1 j))), (6, .int 0), (7, .int 1), (8, .int (nI j))]) hx hb dL_holds_224 hl (by decide) rfl (fun ls hl => ?_)
              refine lv_iload hx hb dL_holds_226 (lv_at hl 1 rfl) ?_
              refine lv_iload hx hb dL_holds_228 (lv_at hl 7 rfl) ?_
              refine lv_icmp_ge (tgt := 238) hx hb dL_holds_230 (by decide) (fun cb182 => ?_) (fun cb182 => absurd (nI_le (a := mnW S.2.2.1 j) (b := nN (S.2.2.1 (45 + j))) (by omega) (by omega)) cb182)
              refine lv_iload hx hb dL_holds_238 (lv_at hl 7 rfl) ?_
              refine lv_istore (lv' := [(5, .int (nI (mnW S.2.2.1 j))), (4, .int (nI (nN (S.2.2.1 (45 + j))))), (10, .int (nI (nN (S.2.2.1 (45 + j))))), (9, .int (-1)), (0, .ref (av 0)), (1, .int (nI X)), (2, .int (nI N)), (3, .int (nI G)), (6, .int 0), (7, .int 1), (8, .int (nI j))]) hx hb dL_holds_240 hl (by decide) rfl (fun ls hl => ?_)
              refine lv_iload hx hb dL_holds_242 (lv_at hl 2 rfl) ?_
              refine lv_if_lt (tgt := 291) hx hb dL_holds_244 (by decide) (fun cb183 => absurd cb183 (nI_nlt (a := nN (S.2.2.1 (45 + j))) (b := 0) (by omega) (by omega))) (fun cb183 => ?_)
              refine lv_iload hx hb dL_holds_247 (lv_at hl 10 rfl) ?_
              refine lv_iload_n hx hb dL_holds_249 rfl (lv_at hl 7 rfl) ?_
              refine lv_icmp_ne (tgt := 262) hx hb dL_holds_250 (by decide) (fun cb184 => absurd (congrArg nI (show j = G by omega)) cb184) (fun cb184 => ?_)
              refine lv_iload hx hb dL_holds_253 (lv_at hl 3 rfl) ?_
              refine lv_iconst (v := (-1)) hx hb dL_holds_255 (by decide) ?_
              refine lv_icmp_ne (tgt := 291) hx hb dL_holds_256 (by decide) (fun cb185 => absurd (by decide) cb185) (fun cb185 => ?_)
              refine lv_goto (tgt := 287) hx hb dL_holds_259 (by decide) ?_
              refine lv_iconst (v := 1) hx hb dL_holds_287 (by decide) ?_
              refine lv_goto (tgt := 292) hx hb dL_holds_288 (by decide) ?_
              refine lv_istore (lv' := [(7, .int 1), (5, .int (nI (mnW S.2.2.1 j))), (4, .int (nI (nN (S.2.2.1 (45 + j))))), (10, .int (nI (nN (S.2.2.1 (45 + j))))), (9, .int (-1)), (0, .ref (av 0)), (1, .int (nI X)), (2, .int (nI N)), (3, .int (nI G)), (6, .int 0), (8, .int (nI j))]) hx hb dL_holds_292 hl (by decide) rfl (fun ls hl => ?_)
              refine lv_iinc (v := nI (j + 1)) (lv' := [(8, .int (nI (j + 1))), (7, .int 1), (5, .int (nI (mnW S.2.2.1 j))), (4, .int (nI (nN (S.2.2.1 (45 + j))))), (10, .int (nI (nN (S.2.2.1 (45 + j))))), (9, .int (-1)), (0, .ref (av 0)), (1, .int (nI X)), (2, .int (nI N)), (3, .int (nI G)), (6, .int 0)]) hx hb dL_holds_294 hl (k := 10) rfl (nI_add j 1) (by decide) rfl (fun ls hl => ?_)
              refine lv_goto (tgt := 176) hx hb dL_holds_297 (by decide) ?_
              refine W.widen (k := 100 + 15 * (j + 1)) (n := 2000 + 276 * (j + 1)) (by omega) (by omega) ?_
              exact ih (j + 1) (by omega) ga179 gb180 H locs ls hP hD hS (by rw [m4, m5]; exact lv_sub hl [6, 7, 8, 9, 3, 2, 10, 1, 0] rfl)
          · have m4 : mxW S.2.2.1 (j + 1) = mxW S.2.2.1 j := if_neg hc1
            by_cases hc2 : nN (S.2.2.1 (45 + j)) < mnW S.2.2.1 j
            · have m5 : mnW S.2.2.1 (j + 1) = nN (S.2.2.1 (45 + j)) := if_pos hc2
              refine lv_iload hx hb dL_holds_176 (lv_at hl 8 rfl) ?_
              refine lv_iload_n hx hb dL_holds_178 rfl (lv_at hl 2 rfl) ?_
              refine lv_icmp_gt (tgt := 300) hx hb dL_holds_179 (by decide) (fun cb186 => absurd cb186 (nI_nlt (a := N) (b := j) (by omega) (by omega))) (fun cb186 => ?_)
              refine lv_iload hx hb dL_holds_182 (lv_at hl 7 rfl) ?_
              refine lv_if_eq (tgt := 300) hx hb dL_holds_184 (by decide) (fun cb187 => absurd cb187 (by decide)) (fun cb187 => ?_)
              refine lv_aload_n hx hb dL_holds_187 rfl (lv_at hl 0 rfl) ?_
              refine lv_iconst (v := 5) hx hb dL_holds_188 (by decide) ?_
              refine lv_iload hx hb dL_holds_189 (lv_at hl 8 rfl) ?_
              refine lv_iconst (v := 0) hx hb dL_holds_191 (by decide) ?_
              refine lv_iconst (v := 0) hx hb dL_holds_192 (by decide) ?_
              have k188 : fCall S 5 (nI j) 0 0 = ((-1), S) := (s_line S 0 0 hG.gd (by omega)).trans (by rw [hjg, ← e3, m_lineGap])
              refine xw_callEi (va_runS (As := [.ref (av 0), .int 5, .int (nI j), .int 0, .int 0]) (rest := []) ⟨hx, hb, hml, hown, hts⟩ (c_call l hst D y av ga gb H.size S 5 (nI j) 0 0 hG.ok) (va_cwS 5 hts gL_holds_L_call rfl rfl rfl hd_L_call ⟨Nat.le_of_ble_eq_true rfl, Nat.le_of_ble_eq_true rfl⟩) (lS hE hXE hLN hXZ hS hA hP hD) rfl rfl hl.1 rfl (lv_room (Nat.le_of_ble_eq_true rfl)) dL_holds_193 ⟨by show _ ≤ 1000; omega, by show _ ≤ 20000; omega⟩) hD hS hA (fun v189 u190 ga192 gb193 H locs h191 hP hD hS => ?_)
              obtain ⟨rfl, rfl⟩ := Prod.mk.inj (k188.symm.trans h191)
              refine lv_istore (lv' := [(9, .int (-1)), (0, .ref (av 0)), (1, .int (nI X)), (2, .int (nI N)), (3, .int (nI G)), (4, .int (nI (mxW S.2.2.1 j))), (5, .int (nI (mnW S.2.2.1 j))), (6, .int 0), (7, .int 1), (8, .int (nI j))]) hx hb dL_holds_196 hl (by decide) rfl (fun ls hl => ?_)
              refine lv_aload_n hx hb dL_holds_198 rfl (lv_at hl 1 rfl) ?_
              refine lv_bipush (v := 6) hx hb dL_holds_199 (by decide) ?_
              refine lv_iload hx hb dL_holds_201 (lv_at hl 9 rfl) ?_
              refine lv_iconst (v := 0) hx hb dL_holds_203 (by decide) ?_
              refine lv_iconst (v := 0) hx hb dL_holds_204 (by decide) ?_
              have k194 : fCall S 6 (nI j) 0 0 = (nI (nN (S.2.2.1 (45 + j))), S) := s_wear S 0 0 hG.gd (by omega)
              refine xw_callEi (va_runS (As := [.ref (av 0), .int 6, .int (nI j), .int 0, .int 0]) (rest := []) ⟨hx, hb, hml, hown, hts⟩ (c_call l hst D y av ga192 gb193 H.size S 6 (nI j) 0 0 hG.ok) (va_cwS 5 hts gL_holds_L_call rfl rfl rfl hd_L_call ⟨Nat.le_of_ble_eq_true rfl, Nat.le_of_ble_eq_true rfl⟩) (lS hE hXE hLN hXZ hS hA hP hD) rfl rfl hl.1 rfl (lv_room (Nat.le_of_ble_eq_true rfl)) dL_holds_205 ⟨by show _ ≤ 1000; omega, by show _ ≤ 20000; omega⟩) hD hS hA (fun v195 u196 ga198 gb199 H locs h197 hP hD hS => ?_)
              obtain ⟨rfl, rfl⟩ := Prod.mk.inj (k194.symm.trans h197)
              refine lv_istore (lv' := [(10, .int (nI (nN (S.2.2.1 (45 + j))))), (9, .int (-1)), (0, .ref (av 0)), (1, .int (nI X)), (2, .int (nI N)), (3, .int (nI G)), (4, .int (nI (mxW S.2.2.1 j))), (5, .int (nI (mnW S.2.2.1 j))), (6, .int 0), (7, .int 1), (8, .int (nI j))]) hx hb dL_holds_208 hl (by decide) rfl (fun ls hl => ?_)
              refine lv_iload hx hb dL_holds_210 (lv_at hl 0 rfl) ?_
              refine lv_iload hx hb dL_holds_212 (lv_at hl 6 rfl) ?_
              refine lv_icmp_le (tgt := 222) hx hb dL_holds_214 (by decide) (fun cb200 => ?_) (fun cb200 => absurd (nI_le (a := nN (S.2.2.1 (45 + j))) (b := mxW S.2.2.1 j) (by omega) (by omega)) cb200)
              refine lv_iload hx hb dL_holds_222 (lv_at hl 6 rfl) ?_
              refine lv_istore (lv' := [(4, .int (nI (mxW S.2.2.1 j))), (10, .int (nI (nN (S.2.2.1 (45 + j))))), (9, .int (-1)), (0, .ref (av 0)), (1, .int (nI X)), (2, .int (nI N)), (3, .int (nI G)), (5, .int (nI (mnW S.2.2.1 j))), (6, .int 0), (7, .int 1), (8, .int (nI j))]) hx hb dL_holds_224 hl (by decide) rfl (fun ls hl => ?_)
              refine lv_iload hx hb dL_holds_226 (lv_at hl 1 rfl) ?_
              refine lv_iload hx hb dL_holds_228 (lv_at hl 7 rfl) ?_
              refine lv_icmp_ge (tgt := 238) hx hb dL_holds_230 (by decide) (fun cb201 => absurd cb201 (nI_ge (a := nN (S.2.2.1 (45 + j))) (b := mnW S.2.2.1 j) (by omega) (by omega))) (fun cb201 => ?_)
              refine lv_iload hx hb dL_holds_233 (lv_at hl 1 rfl) ?_
              refine lv_goto (tgt := 240) hx hb dL_holds_235 (by decide) ?_
              refine lv_istore (lv' := [(5, .int (nI (nN (S.2.2.1 (45 + j))))), (4, .int (nI (mxW S.2.2.1 j))), (10, .int (nI (nN (S.2.2.1 (45 + j))))), (9, .int (-1)), (0, .ref (av 0)), (1, .int (nI X)), (2, .int (nI N)), (3, .int (nI G)), (6, .int 0), (7, .int 1), (8, .int (nI j))]) hx hb dL_holds_240 hl (by decide) rfl (fun ls hl => ?_)
              refine lv_iload hx hb dL_holds_242 (lv_at hl 2 rfl) ?_
              refine lv_if_lt (tgt := 291) hx hb dL_holds_244 (by decide) (fun cb202 => absurd cb202 (nI_nlt (a := nN (S.2.2.1 (45 + j))) (b := 0) (by omega) (by omega))) (fun cb202 => ?_)
              refine lv_iload hx hb dL_holds_247 (lv_at hl 10 rfl) ?_
              refine lv_iload_n hx hb dL_holds_249 rfl (lv_at hl 7 rfl) ?_
              refine lv_icmp_ne (tgt := 262) hx hb dL_holds_250 (by decide) (fun cb203 => absurd (congrArg nI (show j = G by omega)) cb203) (fun cb203 => ?_)
              refine lv_iload hx hb dL_holds_253 (lv_at hl 3 rfl) ?_
              refine lv_iconst (v := (-1)) hx hb dL_holds_255 (by decide) ?_
              refine lv_icmp_ne (tgt := 291) hx hb dL_holds_256 (by decide) (fun cb204 => absurd (by decide) cb204) (fun cb204 => ?_)
              refine lv_goto (tgt := 287) hx hb dL_holds_259 (by decide) ?_
              refine lv_iconst (v := 1) hx hb dL_holds_287 (by decide) ?_
              refine lv_goto (tgt := 292) hx hb dL_holds_288 (by decide) ?_
              refine lv_istore (lv' := [(7, .int 1), (5, .int (nI (nN (S.2.2.1 (45 + j))))), (4, .int (nI (mxW S.2.2.1 j))), (10, .int (nI (nN (S.2.2.1 (45 + j))))), (9, .int (-1)), (0, .ref (av 0)), (1, .int (nI X)), (2, .int (nI N)), (3, .int (nI G)), (6, .int 0), (8, .int (nI j))]) hx hb dL_holds_292 hl (by decide) rfl (fun ls hl => ?_)
              refine lv_iinc (v := nI (j + 1)) (lv' := [(8, .int (nI (j + 1))), (7, .int 1), (5, .int (nI (nN (S.2.2.1 (45 + j))))), (4, .int (nI (mxW S.2.2.1 j))), (10, .int (nI (nN (S.2.2.1 (45 + j))))), (9, .int (-1)), (0, .ref (av 0)), (1, .int (nI X)), (2, .int (nI N)), (3, .int (nI G)), (6, .int 0)]) hx hb dL_holds_294 hl (k := 10) rfl (nI_add j 1) (by decide) rfl (fun ls hl => ?_)
              refine lv_goto (tgt := 176) hx hb dL_holds_297 (by decide) ?_
              refine W.widen (k := 100 + 15 * (j + 1)) (n := 2000 + 276 * (j + 1)) (by omega) (by omega) ?_
              exact ih (j + 1) (by omega) ga198 gb199 H locs ls hP hD hS (by rw [m4, m5]; exact lv_sub hl [6, 7, 8, 9, 3, 2, 10, 1, 0] rfl)
            · have m5 : mnW S.2.2.1 (j + 1) = mnW S.2.2.1 j := if_neg hc2
              refine lv_iload hx hb dL_holds_176 (lv_at hl 8 rfl) ?_
              refine lv_iload_n hx hb dL_holds_178 rfl (lv_at hl 2 rfl) ?_
              refine lv_icmp_gt (tgt := 300) hx hb dL_holds_179 (by decide) (fun cb205 => absurd cb205 (nI_nlt (a := N) (b := j) (by omega) (by omega))) (fun cb205 => ?_)
              refine lv_iload hx hb dL_holds_182 (lv_at hl 7 rfl) ?_
              refine lv_if_eq (tgt := 300) hx hb dL_holds_184 (by decide) (fun cb206 => absurd cb206 (by decide)) (fun cb206 => ?_)
              refine lv_aload_n hx hb dL_holds_187 rfl (lv_at hl 0 rfl) ?_
              refine lv_iconst (v := 5) hx hb dL_holds_188 (by decide) ?_
              refine lv_iload hx hb dL_holds_189 (lv_at hl 8 rfl) ?_
              refine lv_iconst (v := 0) hx hb dL_holds_191 (by decide) ?_
              refine lv_iconst (v := 0) hx hb dL_holds_192 (by decide) ?_
              have k207 : fCall S 5 (nI j) 0 0 = ((-1), S) := (s_line S 0 0 hG.gd (by omega)).trans (by rw [hjg, ← e3, m_lineGap])
              refine xw_callEi (va_runS (As := [.ref (av 0), .int 5, .int (nI j), .int 0, .int 0]) (rest := []) ⟨hx, hb, hml, hown, hts⟩ (c_call l hst D y av ga gb H.size S 5 (nI j) 0 0 hG.ok) (va_cwS 5 hts gL_holds_L_call rfl rfl rfl hd_L_call ⟨Nat.le_of_ble_eq_true rfl, Nat.le_of_ble_eq_true rfl⟩) (lS hE hXE hLN hXZ hS hA hP hD) rfl rfl hl.1 rfl (lv_room (Nat.le_of_ble_eq_true rfl)) dL_holds_193 ⟨by show _ ≤ 1000; omega, by show _ ≤ 20000; omega⟩) hD hS hA (fun v208 u209 ga211 gb212 H locs h210 hP hD hS => ?_)
              obtain ⟨rfl, rfl⟩ := Prod.mk.inj (k207.symm.trans h210)
              refine lv_istore (lv' := [(9, .int (-1)), (0, .ref (av 0)), (1, .int (nI X)), (2, .int (nI N)), (3, .int (nI G)), (4, .int (nI (mxW S.2.2.1 j))), (5, .int (nI (mnW S.2.2.1 j))), (6, .int 0), (7, .int 1), (8, .int (nI j))]) hx hb dL_holds_196 hl (by decide) rfl (fun ls hl => ?_)
              refine lv_aload_n hx hb dL_holds_198 rfl (lv_at hl 1 rfl) ?_
              refine lv_bipush (v := 6) hx hb dL_holds_199 (by decide) ?_
              refine lv_iload hx hb dL_holds_201 (lv_at hl 9 rfl) ?_
              refine lv_iconst (v := 0) hx hb dL_holds_203 (by decide) ?_
              refine lv_iconst (v := 0) hx hb dL_holds_204 (by decide) ?_
              have k213 : fCall S 6 (nI j) 0 0 = (nI (nN (S.2.2.1 (45 + j))), S) := s_wear S 0 0 hG.gd (by omega)
              refine xw_callEi (va_runS (As := [.ref (av 0), .int 6, .int (nI j), .int 0, .int 0]) (rest := []) ⟨hx, hb, hml, hown, hts⟩ (c_call l hst D y av ga211 gb212 H.size S 6 (nI j) 0 0 hG.ok) (va_cwS 5 hts gL_holds_L_call rfl rfl rfl hd_L_call ⟨Nat.le_of_ble_eq_true rfl, Nat.le_of_ble_eq_true rfl⟩) (lS hE hXE hLN hXZ hS hA hP hD) rfl rfl hl.1 rfl (lv_room (Nat.le_of_ble_eq_true rfl)) dL_holds_205 ⟨by show _ ≤ 1000; omega, by show _ ≤ 20000; omega⟩) hD hS hA (fun v214 u215 ga217 gb218 H locs h216 hP hD hS => ?_)
              obtain ⟨rfl, rfl⟩ := Prod.mk.inj (k213.symm.trans h216)
              refine lv_istore (lv' := [(10, .int (nI (nN (S.2.2.1 (45 + j))))), (9, .int (-1)), (0, .ref (av 0)), (1, .int (nI X)), (2, .int (nI N)), (3, .int (nI G)), (4, .int (nI (mxW S.2.2.1 j))), (5, .int (nI (mnW S.2.2.1 j))), (6, .int 0), (7, .int 1), (8, .int (nI j))]) hx hb dL_holds_208 hl (by decide) rfl (fun ls hl => ?_)
              refine lv_iload hx hb dL_holds_210 (lv_at hl 0 rfl) ?_
              refine lv_iload hx hb dL_holds_212 (lv_at hl 6 rfl) ?_
              refine lv_icmp_le (tgt := 222) hx hb dL_holds_214 (by decide) (fun cb219 => ?_) (fun cb219 => absurd (nI_le (a := nN (S.2.2.1 (45 + j))) (b := mxW S.2.2.1 j) (by omega) (by omega)) cb219)
              refine lv_iload hx hb dL_holds_222 (lv_at hl 6 rfl) ?_
              refine lv_istore (lv' := [(4, .int (nI (mxW S.2.2.1 j))), (10, .int (nI (nN (S.2.2.1 (45 + j))))), (9, .int (-1)), (0, .ref (av 0)), (1, .int (nI X)), (2, .int (nI N)), (3, .int (nI G)), (5, .int (nI (mnW S.2.2.1 j))), (6, .int 0), (7, .int 1), (8, .int (nI j))]) hx hb dL_holds_224 hl (by decide) rfl (fun ls hl => ?_)
              refine lv_iload hx hb dL_holds_226 (lv_at hl 1 rfl) ?_
              refine lv_iload hx hb dL_holds_228 (lv_at hl 7 rfl) ?_
              refine lv_icmp_ge (tgt := 238) hx hb dL_holds_230 (by decide) (fun cb220 => ?_) (fun cb220 => absurd (nI_le (a := mnW S.2.2.1 j) (b := nN (S.2.2.1 (45 + j))) (by omega) (by omega)) cb220)
              refine lv_iload hx hb dL_holds_238 (lv_at hl 7 rfl) ?_
              refine lv_istore (lv' := [(5, .int (nI (mnW S.2.2.1 j))), (4, .int (nI (mxW S.2.2.1 j))), (10, .int (nI (nN (S.2.2.1 (45 + j))))), (9, .int (-1)), (0, .ref (av 0)), (1, .int (nI X)), (2, .int (nI N)), (3, .int (nI G)), (6, .int 0), (7, .int 1), (8, .int (nI j))]) hx hb dL_holds_240 hl (by decide) rfl (fun ls hl => ?_)
              refine lv_iload hx hb dL_holds_242 (lv_at hl 2 rfl) ?_
              refine lv_if_lt (tgt := 291) hx hb dL_holds_244 (by decide) (fun cb221 => absurd cb221 (nI_nlt (a := nN (S.2.2.1 (45 + j))) (b := 0) (by omega) (by omega))) (fun cb221 => ?_)
              refine lv_iload hx hb dL_holds_247 (lv_at hl 10 rfl) ?_
              refine lv_iload_n hx hb dL_holds_249 rfl (lv_at hl 7 rfl) ?_
              refine lv_icmp_ne (tgt := 262) hx hb dL_holds_250 (by decide) (fun cb222 => absurd (congrArg nI (show j = G by omega)) cb222) (fun cb222 => ?_)
              refine lv_iload hx hb dL_holds_253 (lv_at hl 3 rfl) ?_
              refine lv_iconst (v := (-1)) hx hb dL_holds_255 (by decide) ?_
              refine lv_icmp_ne (tgt := 291) hx hb dL_holds_256 (by decide) (fun cb223 => absurd (by decide) cb223) (fun cb223 => ?_)
              refine lv_goto (tgt := 287) hx hb dL_holds_259 (by decide) ?_
              refine lv_iconst (v := 1) hx hb dL_holds_287 (by decide) ?_
              refine lv_goto (tgt := 292) hx hb dL_holds_288 (by decide) ?_
              refine lv_istore (lv' := [(7, .int 1), (5, .int (nI (mnW S.2.2.1 j))), (4, .int (nI (mxW S.2.2.1 j))), (10, .int (nI (nN (S.2.2.1 (45 + j))))), (9, .int (-1)), (0, .ref (av 0)), (1, .int (nI X)), (2, .int (nI N)), (3, .int (nI G)), (6, .int 0), (8, .int (nI j))]) hx hb dL_holds_292 hl (by decide) rfl (fun ls hl => ?_)
              refine lv_iinc (v := nI (j + 1)) (lv' := [(8, .int (nI (j + 1))), (7, .int 1), (5, .int (nI (mnW S.2.2.1 j))), (4, .int (nI (mxW S.2.2.1 j))), (10, .int (nI (nN (S.2.2.1 (45 + j))))), (9, .int (-1)), (0, .ref (av 0)), (1, .int (nI X)), (2, .int (nI N)), (3, .int (nI G)), (6, .int 0)]) hx hb dL_holds_294 hl (k := 10) rfl (nI_add j 1) (by decide) rfl (fun ls hl => ?_)
              refine lv_goto (tgt := 176) hx hb dL_holds_297 (by decide) ?_
              refine W.widen (k := 100 + 15 * (j + 1)) (n := 2000 + 276 * (j + 1)) (by omega) (by omega) ?_
              exact ih (j + 1) (by omega) ga217 gb218 H locs ls hP hD hS (by rw [m4, m5]; exact lv_sub hl [6, 7, 8, 9, 3, 2, 10, 1, 0] rfl)
        · skip
          obtain ⟨LN, hLN0, hLN1, hLN2⟩ := m_lineAt hG.gd (P := j) (by omega) (by omega)
          by_cases hc1 : mxW S.2.2.1 j < nN (S.2.2.1 (45 + j))
          · have m4 : mxW S.2.2.1 (j + 1) = nN (S.2.2.1 (45 + j)) := if_pos hc1
            by_cases hc2 : nN (S.2.2.1 (45 + j)) < mnW S.2.2.1 j
            · have m5 : mnW S.2.2.1 (j + 1) = nN (S.2.2.1 (45 + j)) := if_pos hc2
              refine lv_iload hx hb dL_holds_176 (lv_at hl 8 rfl) ?_
              refine lv_iload_n hx hb dL_holds_178 rfl (lv_at hl 2 rfl) ?_
              refine lv_icmp_gt (tgt := 300) hx hb dL_holds_179 (by decide) (fun cb224 => absurd cb224 (nI_nlt (a := N) (b := j) (by omega) (by omega))) (fun cb224 => ?_)
              refine lv_iload hx hb dL_holds_182 (lv_at hl 7 rfl) ?_
              refine lv_if_eq (tgt := 300) hx hb dL_holds_184 (by decide) (fun cb225 => absurd cb225 (by decide)) (fun cb225 => ?_)
              refine lv_aload_n hx hb dL_holds_187 rfl (lv_at hl 0 rfl) ?_
              refine lv_iconst (v := 5) hx hb dL_holds_188 (by decide) ?_
              refine lv_iload hx hb dL_holds_189 (lv_at hl 8 rfl) ?_
              refine lv_iconst (v := 0) hx hb dL_holds_191 (by decide) ?_
              refine lv_iconst (v := 0) hx hb dL_holds_192 (by decide) ?_
              have k226 : fCall S 5 (nI j) 0 0 = (nI LN, S) := (s_line S 0 0 hG.gd (by omega)).trans (by rw [hLN1])
              refine xw_callEi (va_runS (As := [.ref (av 0), .int 5, .int (nI j), .int 0, .int 0]) (rest := []) ⟨hx, hb, hml, hown, hts⟩ (c_call l hst D y av ga gb H.size S 5 (nI j) 0 0 hG.ok) (va_cwS 5 hts gL_holds_L_call rfl rfl rfl hd_L_call ⟨Nat.le_of_ble_eq_true rfl, Nat.le_of_ble_eq_true rfl⟩) (lS hE hXE hLN hXZ hS hA hP hD) rfl rfl hl.1 rfl (lv_room (Nat.le_of_ble_eq_true rfl)) dL_holds_193 ⟨by show _ ≤ 1000; omega, by show _ ≤ 20000; omega⟩) hD hS hA (fun v227 u228 ga230 gb231 H locs h229 hP hD hS => ?_)
              obtain ⟨rfl, rfl⟩ := Prod.mk.inj (k226.symm.trans h229)
              refine lv_istore (lv' := [(9, .int (nI LN)), (0, .ref (av 0)), (1, .int (nI X)), (2, .int (nI N)), (3, .int (nI G)), (4, .int (nI (mxW S.2.2.1 j))), (5, .int (nI (mnW S.2.2.1 j))), (6, .int 0), (7, .int 1), (8, .int (nI j))]) hx hb dL_holds_196 hl (by decide) rfl (fun ls hl => ?_)
              refine lv_aload_n hx hb dL_holds_198 rfl (lv_at hl 1 rfl) ?_
              refine lv_bipush (v := 6) hx hb dL_holds_199 (by decide) ?_
              refine lv_iload hx hb dL_holds_201 (lv_at hl 9 rfl) ?_
              refine lv_iconst (v := 0) hx hb dL_holds_203 (by decide) ?_
              refine lv_iconst (v := 0) hx hb dL_holds_204 (by decide) ?_
              have k232 : fCall S 6 (nI j) 0 0 = (nI (nN (S.2.2.1 (45 + j))), S) := s_wear S 0 0 hG.gd (by omega)
              refine xw_callEi (va_runS (As := [.ref (av 0), .int 6, .int (nI j), .int 0, .int 0]) (rest := []) ⟨hx, hb, hml, hown, hts⟩ (c_call l hst D y av ga230 gb231 H.size S 6 (nI j) 0 0 hG.ok) (va_cwS 5 hts gL_holds_L_call rfl rfl rfl hd_L_call ⟨Nat.le_of_ble_eq_true rfl, Nat.le_of_ble_eq_true rfl⟩) (lS hE hXE hLN hXZ hS hA hP hD) rfl rfl hl.1 rfl (lv_room (Nat.le_of_ble_eq_true rfl)) dL_holds_205 ⟨by show _ ≤ 1000; omega, by show _ ≤ 20000; omega⟩) hD hS hA (fun v233 u234 ga236 gb237 H locs h235 hP hD hS => ?_)
              obtain ⟨rfl, rfl⟩ := Prod.mk.inj (k232.symm.trans h235)
              refine lv_istore (lv' := [(10, .int (nI (nN (S.2.2.1 (45 + j))))), (9, .int (nI LN)), (0, .ref (av 0)), (1, .int (nI X)), (2, .int (nI N)), (3, .int (nI G)), (4, .int (nI (mxW S.2.2.1 j))), (5, .int (nI (mnW S.2.2.1 j))), (6, .int 0), (7, .int 1), (8, .int (nI j))]) hx hb dL_holds_208 hl (by decide) rfl (fun ls hl => ?_)
              refine lv_iload hx hb dL_holds_210 (lv_at hl 0 rfl) ?_
              refine lv_iload hx hb dL_holds_212 (lv_at hl 6 rfl) ?_
              refine lv_icmp_le (tgt := 222) hx hb dL_holds_214 (by decide) (fun cb238 => absurd cb238 (nI_ge (a := mxW S.2.2.1 j) (b := nN (S.2.2.1 (45 + j))) (by omega) (by omega))) (fun cb238 => ?_)
              refine lv_iload hx hb dL_holds_217 (lv_at hl 0 rfl) ?_
              refine lv_goto (tgt := 224) hx hb dL_holds_219 (by decide) ?_
              refine lv_istore (lv' := [(4, .int (nI (nN (S.2.2.1 (45 + j))))), (10, .int (nI (nN (S.2.2.1 (45 + j))))), (9, .int (nI LN)), (0, .ref (av 0)), (1, .int (nI X)), (2, .int (nI N)), (3, .int (nI G)), (5, .int (nI (mnW S.2.2.1 j))), (6, .int 0), (7, .int 1), (8, .int (nI j))]) hx hb dL_holds_224 hl (by decide) rfl (fun ls hl => ?_)
              refine lv_iload hx hb dL_holds_226 (lv_at hl 1 rfl) ?_
              refine lv_iload hx hb dL_holds_228 (lv_at hl 7 rfl) ?_
              refine lv_icmp_ge (tgt := 238) hx hb dL_holds_230 (by decide) (fun cb239 => absurd cb239 (nI_ge (a := nN (S.2.2.1 (45 + j))) (b := mnW S.2.2.1 j) (by omega) (by omega))) (fun cb239 => ?_)
              refine lv_iload hx hb dL_holds_233 (lv_at hl 1 rfl) ?_
              refine lv_goto (tgt := 240) hx hb dL_holds_235 (by decide) ?_
              refine lv_istore (lv' := [(5, .int (nI (nN (S.2.2.1 (45 + j))))), (4, .int (nI (nN (S.2.2.1 (45 + j))))), (10, .int (nI (nN (S.2.2.1 (45 + j))))), (9, .int (nI LN)), (0, .ref (av 0)), (1, .int (nI X)), (2, .int (nI N)), (3, .int (nI G)), (6, .int 0), (7, .int 1), (8, .int (nI j))]) hx hb dL_holds_240 hl (by decide) rfl (fun ls hl => ?_)
              refine lv_iload hx hb dL_holds_242 (lv_at hl 2 rfl) ?_
              refine lv_if_lt (tgt := 291) hx hb dL_holds_244 (by decide) (fun cb240 => absurd cb240 (nI_nlt (a := nN (S.2.2.1 (45 + j))) (b := 0) (by omega) (by omega))) (fun cb240 => ?_)
              refine lv_iload hx hb dL_holds_247 (lv_at hl 10 rfl) ?_
              refine lv_iload_n hx hb dL_holds_249 rfl (lv_at hl 7 rfl) ?_
              refine lv_icmp_ne (tgt := 262) hx hb dL_holds_250 (by decide) (fun cb241 => ?_) (fun cb241 => absurd cb241 (fun q => absurd ((nI_eq (a := j) (b := G) (by omega) (by omega)).mp q) (by omega)))
              refine lv_iload hx hb dL_holds_262 (lv_at hl 3 rfl) ?_
              refine lv_if_lt (tgt := 291) hx hb dL_holds_264 (by decide) (fun cb242 => absurd cb242 (nI_nlt (a := LN) (b := 0) (by omega) (by omega))) (fun cb242 => ?_)
              refine lv_iload hx hb dL_holds_267 (lv_at hl 3 rfl) ?_
              refine lv_iload_n hx hb dL_holds_269 rfl (lv_at hl 6 rfl) ?_
              refine lv_icmp_ge (tgt := 291) hx hb dL_holds_270 (by decide) (fun cb243 => absurd cb243 (nI_ge (a := LN) (b := N) (by omega) (by omega))) (fun cb243 => ?_)
              refine lv_aload_n hx hb dL_holds_273 rfl (lv_at hl 4 rfl) ?_
              refine lv_iconst (v := 4) hx hb dL_holds_274 (by decide) ?_
              refine lv_iload hx hb dL_holds_275 (lv_at hl 3 rfl) ?_
              refine lv_iconst (v := 0) hx hb dL_holds_277 (by decide) ?_
              refine lv_iconst (v := 0) hx hb dL_holds_278 (by decide) ?_
              have k244 : fCall S 4 (nI LN) 0 0 = (nI j, S) := (s_place S 0 0 hG.gd (okL_nI hG.gd (by omega))).trans (by rw [nN_nI (by omega), hLN2])
              refine xw_callEi (va_runS (As := [.ref (av 0), .int 4, .int (nI LN), .int 0, .int 0]) (rest := []) ⟨hx, hb, hml, hown, hts⟩ (c_call l hst D y av ga236 gb237 H.size S 4 (nI LN) 0 0 hG.ok) (va_cwS 5 hts gL_holds_L_call rfl rfl rfl hd_L_call ⟨Nat.le_of_ble_eq_true rfl, Nat.le_of_ble_eq_true rfl⟩) (lS hE hXE hLN hXZ hS hA hP hD) rfl rfl hl.1 rfl (lv_room (Nat.le_of_ble_eq_true rfl)) dL_holds_279 ⟨by show _ ≤ 1000; omega, by show _ ≤ 20000; omega⟩) hD hS hA (fun v245 u246 ga248 gb249 H locs h247 hP hD hS => ?_)
              obtain ⟨rfl, rfl⟩ := Prod.mk.inj (k244.symm.trans h247)
              refine lv_iload hx hb dL_holds_282 (lv_at hl 10 rfl) ?_
              refine lv_icmp_ne (tgt := 291) hx hb dL_holds_284 (by decide) (fun cb250 => absurd (congrArg nI (show j = j by omega)) cb250) (fun cb250 => ?_)
              refine lv_iconst (v := 1) hx hb dL_holds_287 (by decide) ?_
              refine lv_goto (tgt := 292) hx hb dL_holds_288 (by decide) ?_
              refine lv_istore (lv' := [(7, .int 1), (5, .int (nI (nN (S.2.2.1 (45 + j))))), (4, .int (nI (nN (S.2.2.1 (45 + j))))), (10, .int (nI (nN (S.2.2.1 (45 + j))))), (9, .int (nI LN)), (0, .ref (av 0)), (1, .int (nI X)), (2, .int (nI N)), (3, .int (nI G)), (6, .int 0), (8, .int (nI j))]) hx hb dL_holds_292 hl (by decide) rfl (fun ls hl => ?_)
              refine lv_iinc (v := nI (j + 1)) (lv' := [(8, .int (nI (j + 1))), (7, .int 1), (5, .int (nI (nN (S.2.2.1 (45 + j))))), (4, .int (nI (nN (S.2.2.1 (45 + j))))), (10, .int (nI (nN (S.2.2.1 (45 + j))))), (9, .int (nI LN)), (0, .ref (av 0)), (1, .int (nI X)), (2, .int (nI N)), (3, .int (nI G)), (6, .int 0)]) hx hb dL_holds_294 hl (k := 10) rfl (nI_add j 1) (by decide) rfl (fun ls hl => ?_)
              refine lv_goto (tgt := 176) hx hb dL_holds_297 (by decide) ?_
              refine W.widen (k := 100 + 15 * (j + 1)) (n := 2000 + 276 * (j + 1)) (by omega) (by omega) ?_
              exact ih (j + 1) (by omega) ga248 gb249 H locs ls hP hD hS (by rw [m4, m5]; exact lv_sub hl [6, 7, 8, 9, 3, 2, 10, 1, 0] rfl)
            · have m5 : mnW S.2.2.1 (j + 1) = mnW S.2.2.1 j := if_neg hc2
              refine lv_iload hx hb dL_holds_176 (lv_at hl 8 rfl) ?_
              refine lv_iload_n hx hb dL_holds_178 rfl (lv_at hl 2 rfl) ?_
              refine lv_icmp_gt (tgt := 300) hx hb dL_holds_179 (by decide) (fun cb251 => absurd cb251 (nI_nlt (a := N) (b := j) (by omega) (by omega))) (fun cb251 => ?_)
              refine lv_iload hx hb dL_holds_182 (lv_at hl 7 rfl) ?_
              refine lv_if_eq (tgt := 300) hx hb dL_holds_184 (by decide) (fun cb252 => absurd cb252 (by decide)) (fun cb252 => ?_)
              refine lv_aload_n hx hb dL_holds_187 rfl (lv_at hl 0 rfl) ?_
              refine lv_iconst (v := 5) hx hb dL_holds_188 (by decide) ?_
              refine lv_iload hx hb dL_holds_189 (lv_at hl 8 rfl) ?_
              refine lv_iconst (v := 0) hx hb dL_holds_191 (by decide) ?_
              refine lv_iconst (v := 0) hx hb dL_holds_192 (by decide) ?_
              have k253 : fCall S 5 (nI j) 0 0 = (nI LN, S) := (s_line S 0 0 hG.gd (by omega)).trans (by rw [hLN1])
              refine xw_callEi (va_runS (As := [.ref (av 0), .int 5, .int (nI j), .int 0, .int 0]) (rest := []) ⟨hx, hb, hml, hown, hts⟩ (c_call l hst D y av ga gb H.size S 5 (nI j) 0 0 hG.ok) (va_cwS 5 hts gL_holds_L_call rfl rfl rfl hd_L_call ⟨Nat.le_of_ble_eq_true rfl, Nat.le_of_ble_eq_true rfl⟩) (lS hE hXE hLN hXZ hS hA hP hD) rfl rfl hl.1 rfl (lv_room (Nat.le_of_ble_eq_true rfl)) dL_holds_193 ⟨by show _ ≤ 1000; omega, by show _ ≤ 20000; omega⟩) hD hS hA (fun v254 u255 ga257 gb258 H locs h256 hP hD hS => ?_)
              obtain ⟨rfl, rfl⟩ := Prod.mk.inj (k253.symm.trans h256)
              refine lv_istore (lv' := [(9, .int (nI LN)), (0, .ref (av 0)), (1, .int (nI X)), (2, .int (nI N)), (3, .int (nI G)), (4, .int (nI (mxW S.2.2.1 j))), (5, .int (nI (mnW S.2.2.1 j))), (6, .int 0), (7, .int 1), (8, .int (nI j))]) hx hb dL_holds_196 hl (by decide) rfl (fun ls hl => ?_)
              refine lv_aload_n hx hb dL_holds_198 rfl (lv_at hl 1 rfl) ?_
              refine lv_bipush (v := 6) hx hb dL_holds_199 (by decide) ?_
              refine lv_iload hx hb dL_holds_201 (lv_at hl 9 rfl) ?_
              refine lv_iconst (v := 0) hx hb dL_holds_203 (by decide) ?_
              refine lv_iconst (v := 0) hx hb dL_holds_204 (by decide) ?_
              have k259 : fCall S 6 (nI j) 0 0 = (nI (nN (S.2.2.1 (45 + j))), S) := s_wear S 0 0 hG.gd (by omega)
              refine xw_callEi (va_runS (As := [.ref (av 0), .int 6, .int (nI j), .int 0, .int 0]) (rest := []) ⟨hx, hb, hml, hown, hts⟩ (c_call l hst D y av ga257 gb258 H.size S 6 (nI j) 0 0 hG.ok) (va_cwS 5 hts gL_holds_L_call rfl rfl rfl hd_L_call ⟨Nat.le_of_ble_eq_true rfl, Nat.le_of_ble_eq_true rfl⟩) (lS hE hXE hLN hXZ hS hA hP hD) rfl rfl hl.1 rfl (lv_room (Nat.le_of_ble_eq_true rfl)) dL_holds_205 ⟨by show _ ≤ 1000; omega, by show _ ≤ 20000; omega⟩) hD hS hA (fun v260 u261 ga263 gb264 H locs h262 hP hD hS => ?_)
              obtain ⟨rfl, rfl⟩ := Prod.mk.inj (k259.symm.trans h262)
              refine lv_istore (lv' := [(10, .int (nI (nN (S.2.2.1 (45 + j))))), (9, .int (nI LN)), (0, .ref (av 0)), (1, .int (nI X)), (2, .int (nI N)), (3, .int (nI G)), (4, .int (nI (mxW S.2.2.1 j))), (5, .int (nI (mnW S.2.2.1 j))), (6, .int 0), (7, .int 1), (8, .int (nI j))]) hx hb dL_holds_208 hl (by decide) rfl (fun ls hl => ?_)
              refine lv_iload hx hb dL_holds_210 (lv_at hl 0 rfl) ?_
              refine lv_iload hx hb dL_holds_212 (lv_at hl 6 rfl) ?_
              refine lv_icmp_le (tgt := 222) hx hb dL_holds_214 (by decide) (fun cb265 => absurd cb265 (nI_ge (a := mxW S.2.2.1 j) (b := nN (S.2.2.1 (45 + j))) (by omega) (by omega))) (fun cb265 => ?_)
              refine lv_iload hx hb dL_holds_217 (lv_at hl 0 rfl) ?_
              refine lv_goto (tgt := 224) hx hb dL_holds_219 (by decide) ?_
              refine lv_istore (lv' := [(4, .int (nI (nN (S.2.2.1 (45 + j))))), (10, .int (nI (nN (S.2.2.1 (45 + j))))), (9, .int (nI LN)), (0, .ref (av 0)), (1, .int (nI X)), (2, .int (nI N)), (3, .int (nI G)), (5, .int (nI (mnW S.2.2.1 j))), (6, .int 0), (7, .int 1), (8, .int (nI j))]) hx hb dL_holds_224 hl (by decide) rfl (fun ls hl => ?_)
              refine lv_iload hx hb dL_holds_226 (lv_at hl 1 rfl) ?_
              refine lv_iload hx hb dL_holds_228 (lv_at hl 7 rfl) ?_
              refine lv_icmp_ge (tgt := 238) hx hb dL_holds_230 (by decide) (fun cb266 => ?_) (fun cb266 => absurd (nI_le (a := mnW S.2.2.1 j) (b := nN (S.2.2.1 (45 + j))) (by omega) (by omega)) cb266)
              refine lv_iload hx hb dL_holds_238 (lv_at hl 7 rfl) ?_
              refine lv_istore (lv' := [(5, .int (nI (mnW S.2.2.1 j))), (4, .int (nI (nN (S.2.2.1 (45 + j))))), (10, .int (nI (nN (S.2.2.1 (45 + j))))), (9, .int (nI LN)), (0, .ref (av 0)), (1, .int (nI X)), (2, .int (nI N)), (3, .int (nI G)), (6, .int 0), (7, .int 1), (8, .int (nI j))]) hx hb dL_holds_240 hl (by decide) rfl (fun ls hl => ?_)
              refine lv_iload hx hb dL_holds_242 (lv_at hl 2 rfl) ?_
              refine lv_if_lt (tgt := 291) hx hb dL_holds_244 (by decide) (fun cb267 => absurd cb267 (nI_nlt (a := nN (S.2.2.1 (45 + j))) (b := 0) (by omega) (by omega))) (fun cb267 => ?_)
              refine lv_iload hx hb dL_holds_247 (lv_at hl 10 rfl) ?_
              refine lv_iload_n hx hb dL_holds_249 rfl (lv_at hl 7 rfl) ?_
              refine lv_icmp_ne (tgt := 262) hx hb dL_holds_250 (by decide) (fun cb268 => ?_) (fun cb268 => absurd cb268 (fun q => absurd ((nI_eq (a := j) (b := G) (by omega) (by omega)).mp q) (by omega)))
              refine lv_iload hx hb dL_holds_262 (lv_at hl 3 rfl) ?_
              refine lv_if_lt (tgt := 291) hx hb dL_holds_264 (by decide) (fun cb269 => absurd cb269 (nI_nlt (a := LN) (b := 0) (by omega) (by omega))) (fun cb269 => ?_)
              refine lv_iload hx hb dL_holds_267 (lv_at hl 3 rfl) ?_
              refine lv_iload_n hx hb dL_holds_269 rfl (lv_at hl 6 rfl) ?_
              refine lv_icmp_ge (tgt := 291) hx hb dL_holds_270 (by decide) (fun cb270 => absurd cb270 (nI_ge (a := LN) (b := N) (by omega) (by omega))) (fun cb270 => ?_)
              refine lv_aload_n hx hb dL_holds_273 rfl (lv_at hl 4 rfl) ?_
              refine lv_iconst (v := 4) hx hb dL_holds_274 (by decide) ?_
              refine lv_iload hx hb dL_holds_275 (lv_at hl 3 rfl) ?_
              refine lv_iconst (v := 0) hx hb dL_holds_277 (by decide) ?_
              refine lv_iconst (v := 0) hx hb dL_holds_278 (by decide) ?_
              have k271 : fCall S 4 (nI LN) 0 0 = (nI j, S) := (s_place S 0 0 hG.gd (okL_nI hG.gd (by omega))).trans (by rw [nN_nI (by omega), hLN2])
              refine xw_callEi (va_runS (As := [.ref (av 0), .int 4, .int (nI LN), .int 0, .int 0]) (rest := []) ⟨hx, hb, hml, hown, hts⟩ (c_call l hst D y av ga263 gb264 H.size S 4 (nI LN) 0 0 hG.ok) (va_cwS 5 hts gL_holds_L_call rfl rfl rfl hd_L_call ⟨Nat.le_of_ble_eq_true rfl, Nat.le_of_ble_eq_true rfl⟩) (lS hE hXE hLN hXZ hS hA hP hD) rfl rfl hl.1 rfl (lv_room (Nat.le_of_ble_eq_true rfl)) dL_holds_279 ⟨by show _ ≤ 1000; omega, by show _ ≤ 20000; omega⟩) hD hS hA (fun v272 u273 ga275 gb276 H locs h274 hP hD hS => ?_)
              obtain ⟨rfl, rfl⟩ := Prod.mk.inj (k271.symm.trans h274)
              refine lv_iload hx hb dL_holds_282 (lv_at hl 10 rfl) ?_
              refine lv_icmp_ne (tgt := 291) hx hb dL_holds_284 (by decide) (fun cb277 => absurd (congrArg nI (show j = j by omega)) cb277) (fun cb277 => ?_)
              refine lv_iconst (v := 1) hx hb dL_holds_287 (by decide) ?_
              refine lv_goto (tgt := 292) hx hb dL_holds_288 (by decide) ?_
              refine lv_istore (lv' := [(7, .int 1), (5, .int (nI (mnW S.2.2.1 j))), (4, .int (nI (nN (S.2.2.1 (45 + j))))), (10, .int (nI (nN (S.2.2.1 (45 + j))))), (9, .int (nI LN)), (0, .ref (av 0)), (1, .int (nI X)), (2, .int (nI N)), (3, .int (nI G)), (6, .int 0), (8, .int (nI j))]) hx hb dL_holds_292 hl (by decide) rfl (fun ls hl => ?_)
              refine lv_iinc (v := nI (j + 1)) (lv' := [(8, .int (nI (j + 1))), (7, .int 1), (5, .int (nI (mnW S.2.2.1 j))), (4, .int (nI (nN (S.2.2.1 (45 + j))))), (10, .int (nI (nN (S.2.2.1 (45 + j))))), (9, .int (nI LN)), (0, .ref (av 0)), (1, .int (nI X)), (2, .int (nI N)), (3, .int (nI G)), (6, .int 0)]) hx hb dL_holds_294 hl (k := 10) rfl (nI_add j 1) (by decide) rfl (fun ls hl => ?_)
              refine lv_goto (tgt := 176) hx hb dL_holds_297 (by decide) ?_
              refine W.widen (k := 100 + 15 * (j + 1)) (n := 2000 + 276 * (j + 1)) (by omega) (by omega) ?_
              exact ih (j + 1) (by omega) ga275 gb276 H locs ls hP hD hS (by rw [m4, m5]; exact lv_sub hl [6, 7, 8, 9, 3, 2, 10, 1, 0] rfl)
          · have m4 : mxW S.2.2.1 (j + 1) = mxW S.2.2.1 j := if_neg hc1
            by_cases hc2 : nN (S.2.2.1 (45 + j)) < mnW S.2.2.1 j
            · have m5 : mnW S.2.2.1 (j + 1) = nN (S.2.2.1 (45 + j)) := if_pos hc2
              refine lv_iload hx hb dL_holds_176 (lv_at hl 8 rfl) ?_
              refine lv_iload_n hx hb dL_holds_178 rfl (lv_at hl 2 rfl) ?_
              refine lv_icmp_gt (tgt := 300) hx hb dL_holds_179 (by decide) (fun cb278 => absurd cb278 (nI_nlt (a := N) (b := j) (by omega) (by omega))) (fun cb278 => ?_)
              refine lv_iload hx hb dL_holds_182 (lv_at hl 7 rfl) ?_
              refine lv_if_eq (tgt := 300) hx hb dL_holds_184 (by decide) (fun cb279 => absurd cb279 (by decide)) (fun cb279 => ?_)
              refine lv_aload_n hx hb dL_holds_187 rfl (lv_at hl 0 rfl) ?_
              refine lv_iconst (v := 5) hx hb dL_holds_188 (by decide) ?_
              refine lv_iload hx hb dL_holds_189 (lv_at hl 8 rfl) ?_
              refine lv_iconst (v := 0) hx hb dL_holds_191 (by decide) ?_
              refine lv_iconst (v := 0) hx hb dL_holds_192 (by decide) ?_
              have k280 : fCall S 5 (nI j) 0 0 = (nI LN, S) := (s_line S 0 0 hG.gd (by omega)).trans (by rw [hLN1])
              refine xw_callEi (va_runS (As := [.ref (av 0), .int 5, .int (nI j), .int 0, .int 0]) (rest := []) ⟨hx, hb, hml, hown, hts⟩ (c_call l hst D y av ga gb H.size S 5 (nI j) 0 0 hG.ok) (va_cwS 5 hts gL_holds_L_call rfl rfl rfl hd_L_call ⟨Nat.le_of_ble_eq_true rfl, Nat.le_of_ble_eq_true rfl⟩) (lS hE hXE hLN hXZ hS hA hP hD) rfl rfl hl.1 rfl (lv_room (Nat.le_of_ble_eq_true rfl)) dL_holds_193 ⟨by show _ ≤ 1000; omega, by show _ ≤ 20000; omega⟩) hD hS hA (fun v281 u282 ga284 gb285 H locs h283 hP hD hS => ?_)
              obtain ⟨rfl, rfl⟩ := Prod.mk.inj (k280.symm.trans h283)
              refine lv_istore (lv' := [(9, .int (nI LN)), (0, .ref (av 0)), (1, .int (nI X)), (2, .int (nI N)), (3, .int (nI G)), (4, .int (nI (mxW S.2.2.1 j))), (5, .int (nI (mnW S.2.2.1 j))), (6, .int 0), (7, .int 1), (8, .int (nI j))]) hx hb dL_holds_196 hl (by decide) rfl (fun ls hl => ?_)
              refine lv_aload_n hx hb dL_holds_198 rfl (lv_at hl 1 rfl) ?_
              refine lv_bipush (v := 6) hx hb dL_holds_199 (by decide) ?_
              refine lv_iload hx hb dL_holds_201 (lv_at hl 9 rfl) ?_
              refine lv_iconst (v := 0) hx hb dL_holds_203 (by decide) ?_
              refine lv_iconst (v := 0) hx hb dL_holds_204 (by decide) ?_
              have k286 : fCall S 6 (nI j) 0 0 = (nI (nN (S.2.2.1 (45 + j))), S) := s_wear S 0 0 hG.gd (by omega)
              refine xw_callEi (va_runS (As := [.ref (av 0), .int 6, .int (nI j), .int 0, .int 0]) (rest := []) ⟨hx, hb, hml, hown, hts⟩ (c_call l hst D y av ga284 gb285 H.size S 6 (nI j) 0 0 hG.ok) (va_cwS 5 hts gL_holds_L_call rfl rfl rfl hd_L_call ⟨Nat.le_of_ble_eq_true rfl, Nat.le_of_ble_eq_true rfl⟩) (lS hE hXE hLN hXZ hS hA hP hD) rfl rfl hl.1 rfl (lv_room (Nat.le_of_ble_eq_true rfl)) dL_holds_205 ⟨by show _ ≤ 1000; omega, by show _ ≤ 20000; omega⟩) hD hS hA (fun v287 u288 ga290 gb291 H locs h289 hP hD hS => ?_)
              obtain ⟨rfl, rfl⟩ := Prod.mk.inj (k286.symm.trans h289)
              refine lv_istore (lv' := [(10, .int (nI (nN (S.2.2.1 (45 + j))))), (9, .int (nI LN)), (0, .ref (av 0)), (1, .int (nI X)), (2, .int (nI N)), (3, .int (nI G)), (4, .int (nI (mxW S.2.2.1 j))), (5, .int (nI (mnW S.2.2.1 j))), (6, .int 0), (7, .int 1), (8, .int (nI j))]) hx hb dL_holds_208 hl (by decide) rfl (fun ls hl => ?_)
              refine lv_iload hx hb dL_holds_210 (lv_at hl 0 rfl) ?_
              refine lv_iload hx hb dL_holds_212 (lv_at hl 6 rfl) ?_
              refine lv_icmp_le (tgt := 222) hx hb dL_holds_214 (by decide) (fun cb292 => ?_) (fun cb292 => absurd (nI_le (a := nN (S.2.2.1 (45 + j))) (b := mxW S.2.2.1 j) (by omega) (by omega)) cb292)
              refine lv_iload hx hb dL_holds_222 (lv_at hl 6 rfl) ?_
              refine lv_istore (lv' := [(4, .int (nI (mxW S.2.2.1 j))), (10, .int (nI (nN (S.2.2.1 (45 + j))))), (9, .int (nI LN)), (0, .ref (av 0)), (1, .int (nI X)), (2, .int (nI N)), (3, .int (nI G)), (5, .int (nI (mnW S.2.2.1 j))), (6, .int 0), (7, .int 1), (8, .int (nI j))]) hx hb dL_holds_224 hl (by decide) rfl (fun ls hl => ?_)
              refine lv_iload hx hb dL_holds_226 (lv_at hl 1 rfl) ?_
              refine lv_iload hx hb dL_holds_228 (lv_at hl 7 rfl) ?_
              refine lv_icmp_ge (tgt := 238) hx hb dL_holds_230 (by decide) (fun cb293 => absurd cb293 (nI_ge (a := nN (S.2.2.1 (45 + j))) (b := mnW S.2.2.1 j) (by omega) (by omega))) (fun cb293 => ?_)
              refine lv_iload hx hb dL_holds_233 (lv_at hl 1 rfl) ?_
              refine lv_goto (tgt := 240) hx hb dL_holds_235 (by decide) ?_
              refine lv_istore (lv' := [(5, .int (nI (nN (S.2.2.1 (45 + j))))), (4, .int (nI (mxW S.2.2.1 j))), (10, .int (nI (nN (S.2.2.1 (45 + j))))), (9, .int (nI LN)), (0, .ref (av 0)), (1, .int (nI X)), (2, .int (nI N)), (3, .int (nI G)), (6, .int 0), (7, .int 1), (8, .int (nI j))]) hx hb dL_holds_240 hl (by decide) rfl (fun ls hl => ?_)
              refine lv_iload hx hb dL_holds_242 (lv_at hl 2 rfl) ?_
              refine lv_if_lt (tgt := 291) hx hb dL_holds_244 (by decide) (fun cb294 => absurd cb294 (nI_nlt (a := nN (S.2.2.1 (45 + j))) (b := 0) (by omega) (by omega))) (fun cb294 => ?_)
              refine lv_iload hx hb dL_holds_247 (lv_at hl 10 rfl) ?_
              refine lv_iload_n hx hb dL_holds_249 rfl (lv_at hl 7 rfl) ?_
              refine lv_icmp_ne (tgt := 262) hx hb dL_holds_250 (by decide) (fun cb295 => ?_) (fun cb295 => absurd cb295 (fun q => absurd ((nI_eq (a := j) (b := G) (by omega) (by omega)).mp q) (by omega)))
              refine lv_iload hx hb dL_holds_262 (lv_at hl 3 rfl) ?_
              refine lv_if_lt (tgt := 291) hx hb dL_holds_264 (by decide) (fun cb296 => absurd cb296 (nI_nlt (a := LN) (b := 0) (by omega) (by omega))) (fun cb296 => ?_)
              refine lv_iload hx hb dL_holds_267 (lv_at hl 3 rfl) ?_
              refine lv_iload_n hx hb dL_holds_269 rfl (lv_at hl 6 rfl) ?_
              refine lv_icmp_ge (tgt := 291) hx hb dL_holds_270 (by decide) (fun cb297 => absurd cb297 (nI_ge (a := LN) (b := N) (by omega) (by omega))) (fun cb297 => ?_)
              refine lv_aload_n hx hb dL_holds_273 rfl (lv_at hl 4 rfl) ?_
              refine lv_iconst (v := 4) hx hb dL_holds_274 (by decide) ?_
              refine lv_iload hx hb dL_holds_275 (lv_at hl 3 rfl) ?_
              refine lv_iconst (v := 0) hx hb dL_holds_277 (by decide) ?_
              refine lv_iconst (v := 0) hx hb dL_holds_278 (by decide) ?_
              have k298 : fCall S 4 (nI LN) 0 0 = (nI j, S) := (s_place S 0 0 hG.gd (okL_nI hG.gd (by omega))).trans (by rw [nN_nI (by omega), hLN2])
              refine xw_callEi (va_runS (As := [.ref (av 0), .int 4, .int (nI LN), .int 0, .int 0]) (rest := []) ⟨hx, hb, hml, hown, hts⟩ (c_call l hst D y av ga290 gb291 H.size S 4 (nI LN) 0 0 hG.ok) (va_cwS 5 hts gL_holds_L_call rfl rfl rfl hd_L_call ⟨Nat.le_of_ble_eq_true rfl, Nat.le_of_ble_eq_true rfl⟩) (lS hE hXE hLN hXZ hS hA hP hD) rfl rfl hl.1 rfl (lv_room (Nat.le_of_ble_eq_true rfl)) dL_holds_279 ⟨by show _ ≤ 1000; omega, by show _ ≤ 20000; omega⟩) hD hS hA (fun v299 u300 ga302 gb303 H locs h301 hP hD hS => ?_)
              obtain ⟨rfl, rfl⟩ := Prod.mk.inj (k298.symm.trans h301)
              refine lv_iload hx hb dL_holds_282 (lv_at hl 10 rfl) ?_
              refine lv_icmp_ne (tgt := 291) hx hb dL_holds_284 (by decide) (fun cb304 => absurd (congrArg nI (show j = j by omega)) cb304) (fun cb304 => ?_)
              refine lv_iconst (v := 1) hx hb dL_holds_287 (by decide) ?_
              refine lv_goto (tgt := 292) hx hb dL_holds_288 (by decide) ?_
              refine lv_istore (lv' := [(7, .int 1), (5, .int (nI (nN (S.2.2.1 (45 + j))))), (4, .int (nI (mxW S.2.2.1 j))), (10, .int (nI (nN (S.2.2.1 (45 + j))))), (9, .int (nI LN)), (0, .ref (av 0)), (1, .int (nI X)), (2, .int (nI N)), (3, .int (nI G)), (6, .int 0), (8, .int (nI j))]) hx hb dL_holds_292 hl (by decide) rfl (fun ls hl => ?_)
              refine lv_iinc (v := nI (j + 1)) (lv' := [(8, .int (nI (j + 1))), (7, .int 1), (5, .int (nI (nN (S.2.2.1 (45 + j))))), (4, .int (nI (mxW S.2.2.1 j))), (10, .int (nI (nN (S.2.2.1 (45 + j))))), (9, .int (nI LN)), (0, .ref (av 0)), (1, .int (nI X)), (2, .int (nI N)), (3, .int (nI G)), (6, .int 0)]) hx hb dL_holds_294 hl (k := 10) rfl (nI_add j 1) (by decide) rfl (fun ls hl => ?_)
              refine lv_goto (tgt := 176) hx hb dL_holds_297 (by decide) ?_
              refine W.widen (k := 100 + 15 * (j + 1)) (n := 2000 + 276 * (j + 1)) (by omega) (by omega) ?_
              exact ih (j + 1) (by omega) ga302 gb303 H locs ls hP hD hS (by rw [m4, m5]; exact lv_sub hl [6, 7, 8, 9, 3, 2, 10, 1, 0] rfl)
            · have m5 : mnW S.2.2.1 (j + 1) = mnW S.2.2.1 j := if_neg hc2
              refine lv_iload hx hb dL_holds_176 (lv_at hl 8 rfl) ?_
              refine lv_iload_n hx hb dL_holds_178 rfl (lv_at hl 2 rfl) ?_
              refine lv_icmp_gt (tgt := 300) hx hb dL_holds_179 (by decide) (fun cb305 => absurd cb305 (nI_nlt (a := N) (b := j) (by omega) (by omega))) (fun cb305 => ?_)
              refine lv_iload hx hb dL_holds_182 (lv_at hl 7 rfl) ?_
              refine lv_if_eq (tgt := 300) hx hb dL_holds_184 (by decide) (fun cb306 => absurd cb306 (by decide)) (fun cb306 => ?_)
              refine lv_aload_n hx hb dL_holds_187 rfl (lv_at hl 0 rfl) ?_
              refine lv_iconst (v := 5) hx hb dL_holds_188 (by decide) ?_
              refine lv_iload hx hb dL_holds_189 (lv_at hl 8 rfl) ?_
              refine lv_iconst (v := 0) hx hb dL_holds_191 (by decide) ?_
              refine lv_iconst (v := 0) hx hb dL_holds_192 (by decide) ?_
              have k307 : fCall S 5 (nI j) 0 0 = (nI LN, S) := (s_line S 0 0 hG.gd (by omega)).trans (by rw [hLN1])
              refine xw_callEi (va_runS (As := [.ref (av 0), .int 5, .int (nI j), .int 0, .int 0]) (rest := []) ⟨hx, hb, hml, hown, hts⟩ (c_call l hst D y av ga gb H.size S 5 (nI j) 0 0 hG.ok) (va_cwS 5 hts gL_holds_L_call rfl rfl rfl hd_L_call ⟨Nat.le_of_ble_eq_true rfl, Nat.le_of_ble_eq_true rfl⟩) (lS hE hXE hLN hXZ hS hA hP hD) rfl rfl hl.1 rfl (lv_room (Nat.le_of_ble_eq_true rfl)) dL_holds_193 ⟨by show _ ≤ 1000; omega, by show _ ≤ 20000; omega⟩) hD hS hA (fun v308 u309 ga311 gb312 H locs h310 hP hD hS => ?_)
              obtain ⟨rfl, rfl⟩ := Prod.mk.inj (k307.symm.trans h310)
              refine lv_istore (lv' := [(9, .int (nI LN)), (0, .ref (av 0)), (1, .int (nI X)), (2, .int (nI N)), (3, .int (nI G)), (4, .int (nI (mxW S.2.2.1 j))), (5, .int (nI (mnW S.2.2.1 j))), (6, .int 0), (7, .int 1), (8, .int (nI j))]) hx hb dL_holds_196 hl (by decide) rfl (fun ls hl => ?_)
              refine lv_aload_n hx hb dL_holds_198 rfl (lv_at hl 1 rfl) ?_
              refine lv_bipush (v := 6) hx hb dL_holds_199 (by decide) ?_
              refine lv_iload hx hb dL_holds_201 (lv_at hl 9 rfl) ?_
              refine lv_iconst (v := 0) hx hb dL_holds_203 (by decide) ?_
              refine lv_iconst (v := 0) hx hb dL_holds_204 (by decide) ?_
              have k313 : fCall S 6 (nI j) 0 0 = (nI (nN (S.2.2.1 (45 + j))), S) := s_wear S 0 0 hG.gd (by omega)
              refine xw_callEi (va_runS (As := [.ref (av 0), .int 6, .int (nI j), .int 0, .int 0]) (rest := []) ⟨hx, hb, hml, hown, hts⟩ (c_call l hst D y av ga311 gb312 H.size S 6 (nI j) 0 0 hG.ok) (va_cwS 5 hts gL_holds_L_call rfl rfl rfl hd_L_call ⟨Nat.le_of_ble_eq_true rfl, Nat.le_of_ble_eq_true rfl⟩) (lS hE hXE hLN hXZ hS hA hP hD) rfl rfl hl.1 rfl (lv_room (Nat.le_of_ble_eq_true rfl)) dL_holds_205 ⟨by show _ ≤ 1000; omega, by show _ ≤ 20000; omega⟩) hD hS hA (fun v314 u315 ga317 gb318 H locs h316 hP hD hS => ?_)
              obtain ⟨rfl, rfl⟩ := Prod.mk.inj (k313.symm.trans h316)
              refine lv_istore (lv' := [(10, .int (nI (nN (S.2.2.1 (45 + j))))), (9, .int (nI LN)), (0, .ref (av 0)), (1, .int (nI X)), (2, .int (nI N)), (3, .int (nI G)), (4, .int (nI (mxW S.2.2.1 j))), (5, .int (nI (mnW S.2.2.1 j))), (6, .int 0), (7, .int 1), (8, .int (nI j))]) hx hb dL_holds_208 hl (by decide) rfl (fun ls hl => ?_)
              refine lv_iload hx hb dL_holds_210 (lv_at hl 0 rfl) ?_
              refine lv_iload hx hb dL_holds_212 (lv_at hl 6 rfl) ?_
              refine lv_icmp_le (tgt := 222) hx hb dL_holds_214 (by decide) (fun cb319 => ?_) (fun cb319 => absurd (nI_le (a := nN (S.2.2.1 (45 + j))) (b := mxW S.2.2.1 j) (by omega) (by omega)) cb319)
              refine lv_iload hx hb dL_holds_222 (lv_at hl 6 rfl) ?_
              refine lv_istore (lv' := [(4, .int (nI (mxW S.2.2.1 j))), (10, .int (nI (nN (S.2.2.1 (45 + j))))), (9, .int (nI LN)), (0, .ref (av 0)), (1, .int (nI X)), (2, .int (nI N)), (3, .int (nI G)), (5, .int (nI (mnW S.2.2.1 j))), (6, .int 0), (7, .int 1), (8, .int (nI j))]) hx hb dL_holds_224 hl (by decide) rfl (fun ls hl => ?_)
              refine lv_iload hx hb dL_holds_226 (lv_at hl 1 rfl) ?_
              refine lv_iload hx hb dL_holds_228 (lv_at hl 7 rfl) ?_
              refine lv_icmp_ge (tgt := 238) hx hb dL_holds_230 (by decide) (fun cb320 => ?_) (fun cb320 => absurd (nI_le (a := mnW S.2.2.1 j) (b := nN (S.2.2.1 (45 + j))) (by omega) (by omega)) cb320)
              refine lv_iload hx hb dL_holds_238 (lv_at hl 7 rfl) ?_
              refine lv_istore (lv' := [(5, .int (nI (mnW S.2.2.1 j))), (4, .int (nI (mxW S.2.2.1 j))), (10, .int (nI (nN (S.2.2.1 (45 + j))))), (9, .int (nI LN)), (0, .ref (av 0)), (1, .int (nI X)), (2, .int (nI N)), (3, .int (nI G)), (6, .int 0), (7, .int 1), (8, .int (nI j))]) hx hb dL_holds_240 hl (by decide) rfl (fun ls hl => ?_)
              refine lv_iload hx hb dL_holds_242 (lv_at hl 2 rfl) ?_
              refine lv_if_lt (tgt := 291) hx hb dL_holds_244 (by decide) (fun cb321 => absurd cb321 (nI_nlt (a := nN (S.2.2.1 (45 + j))) (b := 0) (by omega) (by omega))) (fun cb321 => ?_)
              refine lv_iload hx hb dL_holds_247 (lv_at hl 10 rfl) ?_
              refine lv_iload_n hx hb dL_holds_249 rfl (lv_at hl 7 rfl) ?_
              refine lv_icmp_ne (tgt := 262) hx hb dL_holds_250 (by decide) (fun cb322 => ?_) (fun cb322 => absurd cb322 (fun q => absurd ((nI_eq (a := j) (b := G) (by omega) (by omega)).mp q) (by omega)))
              refine lv_iload hx hb dL_holds_262 (lv_at hl 3 rfl) ?_
              refine lv_if_lt (tgt := 291) hx hb dL_holds_264 (by decide) (fun cb323 => absurd cb323 (nI_nlt (a := LN) (b := 0) (by omega) (by omega))) (fun cb323 => ?_)
              refine lv_iload hx hb dL_holds_267 (lv_at hl 3 rfl) ?_
              refine lv_iload_n hx hb dL_holds_269 rfl (lv_at hl 6 rfl) ?_
              refine lv_icmp_ge (tgt := 291) hx hb dL_holds_270 (by decide) (fun cb324 => absurd cb324 (nI_ge (a := LN) (b := N) (by omega) (by omega))) (fun cb324 => ?_)
              refine lv_aload_n hx hb dL_holds_273 rfl (lv_at hl 4 rfl) ?_
              refine lv_iconst (v := 4) hx hb dL_holds_274 (by decide) ?_
              refine lv_iload hx hb dL_holds_275 (lv_at hl 3 rfl) ?_
              refine lv_iconst (v := 0) hx hb dL_holds_277 (by decide) ?_
              refine lv_iconst (v := 0) hx hb dL_holds_278 (by decide) ?_
              have k325 : fCall S 4 (nI LN) 0 0 = (nI j, S) := (s_place S 0 0 hG.gd (okL_nI hG.gd (by omega))).trans (by rw [nN_nI (by omega), hLN2])
              refine xw_callEi (va_runS (As := [.ref (av 0), .int 4, .int (nI LN), .int 0, .int 0]) (rest := []) ⟨hx, hb, hml, hown, hts⟩ (c_call l hst D y av ga317 gb318 H.size S 4 (nI LN) 0 0 hG.ok) (va_cwS 5 hts gL_holds_L_call rfl rfl rfl hd_L_call ⟨Nat.le_of_ble_eq_true rfl, Nat.le_of_ble_eq_true rfl⟩) (lS hE hXE hLN hXZ hS hA hP hD) rfl rfl hl.1 rfl (lv_room (Nat.le_of_ble_eq_true rfl)) dL_holds_279 ⟨by show _ ≤ 1000; omega, by show _ ≤ 20000; omega⟩) hD hS hA (fun v326 u327 ga329 gb330 H locs h328 hP hD hS => ?_)
              obtain ⟨rfl, rfl⟩ := Prod.mk.inj (k325.symm.trans h328)
              refine lv_iload hx hb dL_holds_282 (lv_at hl 10 rfl) ?_
              refine lv_icmp_ne (tgt := 291) hx hb dL_holds_284 (by decide) (fun cb331 => absurd (congrArg nI (show j = j by omega)) cb331) (fun cb331 => ?_)
              refine lv_iconst (v := 1) hx hb dL_holds_287 (by decide) ?_
              refine lv_goto (tgt := 292) hx hb dL_holds_288 (by decide) ?_
              refine lv_istore (lv' := [(7, .int 1), (5, .int (nI (mnW S.2.2.1 j))), (4, .int (nI (mxW S.2.2.1 j))), (10, .int (nI (nN (S.2.2.1 (45 + j))))), (9, .int (nI LN)), (0, .ref (av 0)), (1, .int (nI X)), (2, .int (nI N)), (3, .int (nI G)), (6, .int 0), (8, .int (nI j))]) hx hb dL_holds_292 hl (by decide) rfl (fun ls hl => ?_)
              refine lv_iinc (v := nI (j + 1)) (lv' := [(8, .int (nI (j + 1))), (7, .int 1), (5, .int (nI (mnW S.2.2.1 j))), (4, .int (nI (mxW S.2.2.1 j))), (10, .int (nI (nN (S.2.2.1 (45 + j))))), (9, .int (nI LN)), (0, .ref (av 0)), (1, .int (nI X)), (2, .int (nI N)), (3, .int (nI G)), (6, .int 0)]) hx hb dL_holds_294 hl (k := 10) rfl (nI_add j 1) (by decide) rfl (fun ls hl => ?_)
              refine lv_goto (tgt := 176) hx hb dL_holds_297 (by decide) ?_
              refine W.widen (k := 100 + 15 * (j + 1)) (n := 2000 + 276 * (j + 1)) (by omega) (by omega) ?_
              exact ih (j + 1) (by omega) ga329 gb330 H locs ls hP hD hS (by rw [m4, m5]; exact lv_sub hl [6, 7, 8, 9, 3, 2, 10, 1, 0] rfl)
    refine lv_aload_n hx hb dL_holds_0 rfl (lv_at hl 0 rfl) ?_
    refine lv_iconst (v := 2) hx hb dL_holds_1 (by decide) ?_
    refine lv_iconst (v := 0) hx hb dL_holds_2 (by decide) ?_
    refine lv_iconst (v := 0) hx hb dL_holds_3 (by decide) ?_
    refine lv_iconst (v := 0) hx hb dL_holds_4 (by decide) ?_
    have k332 : fCall S 2 0 0 0 = (nI N, S) := (s_ab0 S 0 0).trans (by rw [e0])
    refine xw_callEi (va_runS (As := [.ref (av 0), .int 2, .int 0, .int 0, .int 0]) (rest := []) ⟨hx, hb, hml, hown, hts⟩ (c_call l hst D y av ga gb s.heap.size S 2 0 0 0 hG.ok) (va_cwS 5 hts gL_holds_L_call rfl rfl rfl hd_L_call ⟨Nat.le_of_ble_eq_true rfl, Nat.le_of_ble_eq_true rfl⟩) (lS hE hXE hLN hXZ hS hA hP hD) rfl rfl hl.1 rfl (lv_room (Nat.le_of_ble_eq_true rfl)) dL_holds_5 ⟨Nat.le_of_ble_eq_true rfl, Nat.le_of_ble_eq_true rfl⟩) hD hS hA (fun v333 u334 ga336 gb337 H locs h335 hP hD hS => ?_)
    obtain ⟨rfl, rfl⟩ := Prod.mk.inj (k332.symm.trans h335)
    refine lv_istore_n (lv' := [(2, .int (nI N)), (0, .ref (av 0)), (1, .int (nI X))]) hx hb dL_holds_8 rfl hl (by decide) rfl (fun ls hl => ?_)
    refine lv_aload_n hx hb dL_holds_9 rfl (lv_at hl 1 rfl) ?_
    refine lv_iconst (v := 2) hx hb dL_holds_10 (by decide) ?_
    refine lv_iconst (v := 2) hx hb dL_holds_11 (by decide) ?_
    refine lv_iconst (v := 0) hx hb dL_holds_12 (by decide) ?_
    refine lv_iconst (v := 0) hx hb dL_holds_13 (by decide) ?_
    have k338 : fCall S 2 2 0 0 = (nI G, S) := (s_ab2 S 0 0).trans (by rw [e3])
    refine xw_callEi (va_runS (As := [.ref (av 0), .int 2, .int 2, .int 0, .int 0]) (rest := []) ⟨hx, hb, hml, hown, hts⟩ (c_call l hst D y av ga336 gb337 H.size S 2 2 0 0 hG.ok) (va_cwS 5 hts gL_holds_L_call rfl rfl rfl hd_L_call ⟨Nat.le_of_ble_eq_true rfl, Nat.le_of_ble_eq_true rfl⟩) (lS hE hXE hLN hXZ hS hA hP hD) rfl rfl hl.1 rfl (lv_room (Nat.le_of_ble_eq_true rfl)) dL_holds_14 ⟨Nat.le_of_ble_eq_true rfl, Nat.le_of_ble_eq_true rfl⟩) hD hS hA (fun v339 u340 ga342 gb343 H locs h341 hP hD hS => ?_)
    obtain ⟨rfl, rfl⟩ := Prod.mk.inj (k338.symm.trans h341)
    refine lv_istore_n (lv' := [(3, .int (nI G)), (2, .int (nI N)), (0, .ref (av 0)), (1, .int (nI X))]) hx hb dL_holds_17 rfl hl (by decide) rfl (fun ls hl => ?_)
    refine lv_iconst (v := 0) hx hb dL_holds_18 (by decide) ?_
    refine lv_istore (lv' := [(4, .int 0), (3, .int (nI G)), (2, .int (nI N)), (0, .ref (av 0)), (1, .int (nI X))]) hx hb dL_holds_19 hl (by decide) rfl (fun ls hl => ?_)
    refine lv_ldc (v := 1000000) hx hb hown w_0 dL_holds_21 ?_
    refine lv_istore (lv' := [(5, .int 1000000), (4, .int 0), (3, .int (nI G)), (2, .int (nI N)), (0, .ref (av 0)), (1, .int (nI X))]) hx hb dL_holds_23 hl (by decide) rfl (fun ls hl => ?_)
    refine lv_aload_n hx hb dL_holds_25 rfl (lv_at hl 4 rfl) ?_
    refine lv_iconst (v := 2) hx hb dL_holds_26 (by decide) ?_
    refine lv_bipush (v := 9) hx hb dL_holds_27 (by decide) ?_
    refine lv_iconst (v := 0) hx hb dL_holds_29 (by decide) ?_
    refine lv_iconst (v := 0) hx hb dL_holds_30 (by decide) ?_
    have k344 : fCall S 2 9 0 0 = (0, S) := (s_ab9 S 0 0 (Or.inl h8)).trans (by rw [h8])
    refine xw_callEi (va_runS (As := [.ref (av 0), .int 2, .int 9, .int 0, .int 0]) (rest := []) ⟨hx, hb, hml, hown, hts⟩ (c_call l hst D y av ga342 gb343 H.size S 2 9 0 0 hG.ok) (va_cwS 5 hts gL_holds_L_call rfl rfl rfl hd_L_call ⟨Nat.le_of_ble_eq_true rfl, Nat.le_of_ble_eq_true rfl⟩) (lS hE hXE hLN hXZ hS hA hP hD) rfl rfl hl.1 rfl (lv_room (Nat.le_of_ble_eq_true rfl)) dL_holds_31 ⟨Nat.le_of_ble_eq_true rfl, Nat.le_of_ble_eq_true rfl⟩) hD hS hA (fun v345 u346 ga348 gb349 H locs h347 hP hD hS => ?_)
    obtain ⟨rfl, rfl⟩ := Prod.mk.inj (k344.symm.trans h347)
    refine lv_iconst (v := 1) hx hb dL_holds_34 (by decide) ?_
    refine lv_icmp_ne (tgt := 42) hx hb dL_holds_35 (by decide) (fun cb350 => ?_) (fun cb350 => absurd cb350 (by decide))
    refine lv_iconst (v := 0) hx hb dL_holds_42 (by decide) ?_
    refine lv_istore (lv' := [(6, .int 0), (5, .int 1000000), (4, .int 0), (3, .int (nI G)), (2, .int (nI N)), (0, .ref (av 0)), (1, .int (nI X))]) hx hb dL_holds_43 hl (by decide) rfl (fun ls hl => ?_)
    refine lv_iload_n hx hb dL_holds_45 rfl (lv_at hl 4 rfl) ?_
    refine lv_iconst (v := 4) hx hb dL_holds_46 (by decide) ?_
    refine lv_icmp_lt (tgt := 170) hx hb dL_holds_47 (by decide) (fun cb351 => absurd cb351 (nI_nlt (a := N) (b := 4) (by omega) (by omega))) (fun cb351 => ?_)
    refine lv_iload_n hx hb dL_holds_50 rfl (lv_at hl 4 rfl) ?_
    refine lv_bipush (v := 32) hx hb dL_holds_51 (by decide) ?_
    refine lv_icmp_gt (tgt := 170) hx hb dL_holds_53 (by decide) (fun cb352 => absurd cb352 (nI_nlt (a := 32) (b := N) (by omega) (by omega))) (fun cb352 => ?_)
    refine lv_iload_n hx hb dL_holds_56 rfl (lv_at hl 3 rfl) ?_
    refine lv_if_lt (tgt := 170) hx hb dL_holds_57 (by decide) (fun cb353 => absurd cb353 (nI_nlt (a := G) (b := 0) (by omega) (by omega))) (fun cb353 => ?_)
    refine lv_iload_n hx hb dL_holds_60 rfl (lv_at hl 3 rfl) ?_
    refine lv_iload_n hx hb dL_holds_61 rfl (lv_at hl 4 rfl) ?_
    refine lv_icmp_gt (tgt := 170) hx hb dL_holds_62 (by decide) (fun cb354 => absurd cb354 (nI_nlt (a := N) (b := G) (by omega) (by omega))) (fun cb354 => ?_)
    refine lv_aload_n hx hb dL_holds_65 rfl (lv_at hl 5 rfl) ?_
    refine lv_iconst (v := 2) hx hb dL_holds_66 (by decide) ?_
    refine lv_iconst (v := 1) hx hb dL_holds_67 (by decide) ?_
    refine lv_iconst (v := 0) hx hb dL_holds_68 (by decide) ?_
    refine lv_iconst (v := 0) hx hb dL_holds_69 (by decide) ?_
    have k355 : fCall S 2 1 0 0 = (nI (nN (S.2.2.1 2)), S) := (s_ab1 S 0 0).trans (by rw [← e2])
    refine xw_callEi (va_runS (As := [.ref (av 0), .int 2, .int 1, .int 0, .int 0]) (rest := []) ⟨hx, hb, hml, hown, hts⟩ (c_call l hst D y av ga348 gb349 H.size S 2 1 0 0 hG.ok) (va_cwS 5 hts gL_holds_L_call rfl rfl rfl hd_L_call ⟨Nat.le_of_ble_eq_true rfl, Nat.le_of_ble_eq_true rfl⟩) (lS hE hXE hLN hXZ hS hA hP hD) rfl rfl hl.1 rfl (lv_room (Nat.le_of_ble_eq_true rfl)) dL_holds_70 ⟨Nat.le_of_ble_eq_true rfl, Nat.le_of_ble_eq_true rfl⟩) hD hS hA (fun v356 u357 ga359 gb360 H locs h358 hP hD hS => ?_)
    obtain ⟨rfl, rfl⟩ := Prod.mk.inj (k355.symm.trans h358)
    refine lv_iload_n hx hb dL_holds_73 rfl (lv_at hl 4 rfl) ?_
    refine lv_icmp_ge (tgt := 170) hx hb dL_holds_74 (by decide) (fun cb361 => absurd cb361 (nI_ge (a := nN (S.2.2.1 2)) (b := N) (by omega) (by omega))) (fun cb361 => ?_)
    refine lv_aload_n hx hb dL_holds_77 rfl (lv_at hl 5 rfl) ?_
    refine lv_iconst (v := 5) hx hb dL_holds_78 (by decide) ?_
    refine lv_iload_n hx hb dL_holds_79 rfl (lv_at hl 3 rfl) ?_
    refine lv_iconst (v := 0) hx hb dL_holds_80 (by decide) ?_
    refine lv_iconst (v := 0) hx hb dL_holds_81 (by decide) ?_
    have k362 : fCall S 5 (nI G) 0 0 = ((-1), S) := (s_line S 0 0 hG.gd (by omega)).trans (by rw [← e3, m_lineGap])
    refine xw_callEi (va_runS (As := [.ref (av 0), .int 5, .int (nI G), .int 0, .int 0]) (rest := []) ⟨hx, hb, hml, hown, hts⟩ (c_call l hst D y av ga359 gb360 H.size S 5 (nI G) 0 0 hG.ok) (va_cwS 5 hts gL_holds_L_call rfl rfl rfl hd_L_call ⟨Nat.le_of_ble_eq_true rfl, Nat.le_of_ble_eq_true rfl⟩) (lS hE hXE hLN hXZ hS hA hP hD) rfl rfl hl.1 rfl (lv_room (Nat.le_of_ble_eq_true rfl)) dL_holds_82 ⟨Nat.le_of_ble_eq_true rfl, Nat.le_of_ble_eq_true rfl⟩) hD hS hA (fun v363 u364 ga366 gb367 H locs h365 hP hD hS => ?_)
    obtain ⟨rfl, rfl⟩ := Prod.mk.inj (k362.symm.trans h365)
    refine lv_iconst (v := (-1)) hx hb dL_holds_85 (by decide) ?_
    refine lv_icmp_ne (tgt := 170) hx hb dL_holds_86 (by decide) (fun cb368 => absurd (by decide) cb368) (fun cb368 => ?_)
    refine lv_aload_n hx hb dL_holds_89 rfl (lv_at hl 5 rfl) ?_
    refine lv_iconst (v := 2) hx hb dL_holds_90 (by decide) ?_
    refine lv_iconst (v := 3) hx hb dL_holds_91 (by decide) ?_
    refine lv_iconst (v := 0) hx hb dL_holds_92 (by decide) ?_
    refine lv_iconst (v := 0) hx hb dL_holds_93 (by decide) ?_
    have k369 : fCall S 2 3 0 0 = ((S.2.2.1 4), S) := s_ab3 S 0 0
    refine xw_callEi (va_runS (As := [.ref (av 0), .int 2, .int 3, .int 0, .int 0]) (rest := []) ⟨hx, hb, hml, hown, hts⟩ (c_call l hst D y av ga366 gb367 H.size S 2 3 0 0 hG.ok) (va_cwS 5 hts gL_holds_L_call rfl rfl rfl hd_L_call ⟨Nat.le_of_ble_eq_true rfl, Nat.le_of_ble_eq_true rfl⟩) (lS hE hXE hLN hXZ hS hA hP hD) rfl rfl hl.1 rfl (lv_room (Nat.le_of_ble_eq_true rfl)) dL_holds_94 ⟨Nat.le_of_ble_eq_true rfl, Nat.le_of_ble_eq_true rfl⟩) hD hS hA (fun v370 u371 ga373 gb374 H locs h372 hP hD hS => ?_)
    obtain ⟨rfl, rfl⟩ := Prod.mk.inj (k369.symm.trans h372)
    refine lv_aload_n hx hb dL_holds_97 rfl (lv_at hl 5 rfl) ?_
    refine lv_iconst (v := 2) hx hb dL_holds_98 (by decide) ?_
    refine lv_bipush (v := 10) hx hb dL_holds_99 (by decide) ?_
    refine lv_iconst (v := 0) hx hb dL_holds_101 (by decide) ?_
    refine lv_iconst (v := 0) hx hb dL_holds_102 (by decide) ?_
    have k375 : fCall S 2 10 0 0 = ((S.2.2.1 9), S) := s_ab10 S 0 0
    refine xw_callEi (va_runS (As := [.ref (av 0), .int 2, .int 10, .int 0, .int 0]) (rest := [.int (S.2.2.1 4)]) ⟨hx, hb, hml, hown, hts⟩ (c_call l hst D y av ga373 gb374 H.size S 2 10 0 0 hG.ok) (va_cwS 5 hts gL_holds_L_call rfl rfl rfl hd_L_call ⟨Nat.le_of_ble_eq_true rfl, Nat.le_of_ble_eq_true rfl⟩) (lS hE hXE hLN hXZ hS hA hP hD) rfl rfl hl.1 rfl (lv_room (Nat.le_of_ble_eq_true rfl)) dL_holds_103 ⟨Nat.le_of_ble_eq_true rfl, Nat.le_of_ble_eq_true rfl⟩) hD hS hA (fun v376 u377 ga379 gb380 H locs h378 hP hD hS => ?_)
    obtain ⟨rfl, rfl⟩ := Prod.mk.inj (k375.symm.trans h378)
    refine lv_iadd hx hb dL_holds_106 ?_
    refine lv_iconst (v := 4) hx hb dL_holds_107 (by decide) ?_
    refine lv_icmp_gt (tgt := 170) hx hb dL_holds_108 (by decide) (fun cb381 => absurd cb381 hs4) (fun cb381 => ?_)
    refine lv_aload_n hx hb dL_holds_111 rfl (lv_at hl 5 rfl) ?_
    refine lv_iconst (v := 2) hx hb dL_holds_112 (by decide) ?_
    refine lv_bipush (v := 11) hx hb dL_holds_113 (by decide) ?_
    refine lv_iconst (v := 0) hx hb dL_holds_115 (by decide) ?_
    refine lv_iconst (v := 0) hx hb dL_holds_116 (by decide) ?_
    have k382 : fCall S 2 11 0 0 = ((S.2.2.1 10), S) := s_ab11 S 0 0
    refine xw_callEi (va_runS (As := [.ref (av 0), .int 2, .int 11, .int 0, .int 0]) (rest := []) ⟨hx, hb, hml, hown, hts⟩ (c_call l hst D y av ga379 gb380 H.size S 2 11 0 0 hG.ok) (va_cwS 5 hts gL_holds_L_call rfl rfl rfl hd_L_call ⟨Nat.le_of_ble_eq_true rfl, Nat.le_of_ble_eq_true rfl⟩) (lS hE hXE hLN hXZ hS hA hP hD) rfl rfl hl.1 rfl (lv_room (Nat.le_of_ble_eq_true rfl)) dL_holds_117 ⟨Nat.le_of_ble_eq_true rfl, Nat.le_of_ble_eq_true rfl⟩) hD hS hA (fun v383 u384 ga386 gb387 H locs h385 hP hD hS => ?_)
    obtain ⟨rfl, rfl⟩ := Prod.mk.inj (k382.symm.trans h385)
    refine lv_aload_n hx hb dL_holds_120 rfl (lv_at hl 5 rfl) ?_
    refine lv_iconst (v := 2) hx hb dL_holds_121 (by decide) ?_
    refine lv_iconst (v := 4) hx hb dL_holds_122 (by decide) ?_
    refine lv_iconst (v := 0) hx hb dL_holds_123 (by decide) ?_
    refine lv_iconst (v := 0) hx hb dL_holds_124 (by decide) ?_
    have k388 : fCall S 2 4 0 0 = ((S.2.2.1 5), S) := s_ab4 S 0 0
    refine xw_callEi (va_runS (As := [.ref (av 0), .int 2, .int 4, .int 0, .int 0]) (rest := [.int (S.2.2.1 10)]) ⟨hx, hb, hml, hown, hts⟩ (c_call l hst D y av ga386 gb387 H.size S 2 4 0 0 hG.ok) (va_cwS 5 hts gL_holds_L_call rfl rfl rfl hd_L_call ⟨Nat.le_of_ble_eq_true rfl, Nat.le_of_ble_eq_true rfl⟩) (lS hE hXE hLN hXZ hS hA hP hD) rfl rfl hl.1 rfl (lv_room (Nat.le_of_ble_eq_true rfl)) dL_holds_125 ⟨Nat.le_of_ble_eq_true rfl, Nat.le_of_ble_eq_true rfl⟩) hD hS hA (fun v389 u390 ga392 gb393 H locs h391 hP hD hS => ?_)
    obtain ⟨rfl, rfl⟩ := Prod.mk.inj (k388.symm.trans h391)
    refine lv_aload_n hx hb dL_holds_128 rfl (lv_at hl 5 rfl) ?_
    refine lv_iconst (v := 2) hx hb dL_holds_129 (by decide) ?_
    refine lv_iconst (v := 5) hx hb dL_holds_130 (by decide) ?_
    refine lv_iconst (v := 0) hx hb dL_holds_131 (by decide) ?_
    refine lv_iconst (v := 0) hx hb dL_holds_132 (by decide) ?_
    have k394 : fCall S 2 5 0 0 = ((S.2.2.1 6), S) := s_ab5 S 0 0
    refine xw_callEi (va_runS (As := [.ref (av 0), .int 2, .int 5, .int 0, .int 0]) (rest := [.int (S.2.2.1 5), .int (S.2.2.1 10)]) ⟨hx, hb, hml, hown, hts⟩ (c_call l hst D y av ga392 gb393 H.size S 2 5 0 0 hG.ok) (va_cwS 5 hts gL_holds_L_call rfl rfl rfl hd_L_call ⟨Nat.le_of_ble_eq_true rfl, Nat.le_of_ble_eq_true rfl⟩) (lS hE hXE hLN hXZ hS hA hP hD) rfl rfl hl.1 rfl (lv_room (Nat.le_of_ble_eq_true rfl)) dL_holds_133 ⟨Nat.le_of_ble_eq_true rfl, Nat.le_of_ble_eq_true rfl⟩) hD hS hA (fun v395 u396 ga398 gb399 H locs h397 hP hD hS => ?_)
    obtain ⟨rfl, rfl⟩ := Prod.mk.inj (k394.symm.trans h397)
    refine lv_iadd hx hb dL_holds_136 ?_
    refine lv_aload_n hx hb dL_holds_137 rfl (lv_at hl 5 rfl) ?_
    refine lv_iconst (v := 2) hx hb dL_holds_138 (by decide) ?_
    refine lv_bipush (v := 10) hx hb dL_holds_139 (by decide) ?_
    refine lv_iconst (v := 0) hx hb dL_holds_141 (by decide) ?_
    refine lv_iconst (v := 0) hx hb dL_holds_142 (by decide) ?_
    have k400 : fCall S 2 10 0 0 = ((S.2.2.1 9), S) := s_ab10 S 0 0
    refine xw_callEi (va_runS (As := [.ref (av 0), .int 2, .int 10, .int 0, .int 0]) (rest := [.int ((S.2.2.1 5) + (S.2.2.1 6)), .int (S.2.2.1 10)]) ⟨hx, hb, hml, hown, hts⟩ (c_call l hst D y av ga398 gb399 H.size S 2 10 0 0 hG.ok) (va_cwS 5 hts gL_holds_L_call rfl rfl rfl hd_L_call ⟨Nat.le_of_ble_eq_true rfl, Nat.le_of_ble_eq_true rfl⟩) (lS hE hXE hLN hXZ hS hA hP hD) rfl rfl hl.1 rfl (lv_room (Nat.le_of_ble_eq_true rfl)) dL_holds_143 ⟨Nat.le_of_ble_eq_true rfl, Nat.le_of_ble_eq_true rfl⟩) hD hS hA (fun v401 u402 ga404 gb405 H locs h403 hP hD hS => ?_)
    obtain ⟨rfl, rfl⟩ := Prod.mk.inj (k400.symm.trans h403)
    refine lv_iadd hx hb dL_holds_146 ?_
    refine lv_icmp_ne (tgt := 170) hx hb dL_holds_147 (by decide) (fun cb406 => absurd hG.gd.2.2.2.2.1 cb406) (fun cb406 => ?_)
    refine lv_iload hx hb dL_holds_150 (lv_at hl 0 rfl) ?_
    refine lv_if_eq (tgt := 166) hx hb dL_holds_152 (by decide) (fun cb407 => ?_) (fun cb407 => absurd (by decide) cb407)
    refine lv_iconst (v := 1) hx hb dL_holds_166 (by decide) ?_
    refine lv_goto (tgt := 171) hx hb dL_holds_167 (by decide) ?_
    refine lv_istore (lv' := [(7, .int 1), (6, .int 0), (5, .int 1000000), (4, .int 0), (3, .int (nI G)), (2, .int (nI N)), (0, .ref (av 0)), (1, .int (nI X))]) hx hb dL_holds_171 hl (by decide) rfl (fun ls hl => ?_)
    refine lv_iconst (v := 0) hx hb dL_holds_173 (by decide) ?_
    refine lv_istore (lv' := [(8, .int 0), (7, .int 1), (6, .int 0), (5, .int 1000000), (4, .int 0), (3, .int (nI G)), (2, .int (nI N)), (0, .ref (av 0)), (1, .int (nI X))]) hx hb dL_holds_174 hl (by decide) rfl (fun ls hl => ?_)
    refine W.widen (k := 100 + 15 * 0) (n := 2000 + 276 * 0) (by omega) (by omega) ?_
    exact loop (N + 1) 0 (by omega) ga404 gb405 H locs ls hP hD hS (lv_sub hl [7, 8, 6, 5, 4, 3, 2, 1, 0] rfl)
  · skip
    have post : ∀ (ga gb : Nat → Nat × Nat × Nat) (H : Heap) (locs : List Loc) (ls : Array Slot), va_P D vwCl (oW y av ga gb S) H → va_D A (oW y av ga gb S) → va_S A s.heap H locs → lv_has ls 14 [(0, .ref (av 0)), (1, .int (nI X)), (2, .int (nI N)), (3, .int (nI G)), (4, .int (nI (mxW S.2.2.1 (N + 1)))), (5, .int (nI (mnW S.2.2.1 (N + 1)))), (6, .int 1), (7, .int 1), (8, .int (nI (N + 1)))] → W p l e (headSpec wsL_holds ({ frames := 10, cells := 1000, slots := 20000, locals := 202 })).room s m ([.ref (av 0), .int (nI X)] : List Value).toArray below meth c H locs (600) (12000) (MQ below (va_Qi (fun (v : Int32) (u : oS) => v = 1 ∧ ∃ c, u = sRc S c) (fun (u : oS) t => ∃ (g1 g2 : Nat → Nat × Nat × Nat), va_P D vwCl (oW y av g1 g2 u) t.heap ∧ va_D A (oW y av g1 g2 u)) A) ([.ref (av 0), .int (nI X)] : List Value).toArray s 1000 20000 A) (F0 m 300 ls []) := by
      intro ga gb H locs ls hP hD hS hl
      refine lv_iload_n hx hb dL_holds_300 rfl (lv_at hl 1 rfl) ?_
      refine lv_iload_n hx hb dL_holds_301 rfl (lv_at hl 2 rfl) ?_
      refine lv_irem hx hb dL_holds_302 (nI_ne0 (n := N) (by omega) (by omega)) ?_
      refine lv_topi (fun z408 ez408 => ?_)
      obtain rfl : z408 = nI (X % N) := ez408.trans ((pk_rem (a := X) (d := N) (by omega) (by omega) (by omega) : nI X - nI X / nI N * nI N = _))
      refine lv_istore (lv' := [(8, .int (nI (X % N))), (0, .ref (av 0)), (1, .int (nI X)), (2, .int (nI N)), (3, .int (nI G)), (4, .int (nI (mxW S.2.2.1 (N + 1)))), (5, .int (nI (mnW S.2.2.1 (N + 1)))), (6, .int 1), (7, .int 1)]) hx hb dL_holds_303 hl (by decide) rfl (fun ls hl => ?_)
      refine lv_aload_n hx hb dL_holds_305 rfl (lv_at hl 1 rfl) ?_
      refine lv_bipush (v := 18) hx hb dL_holds_306 (by decide) ?_
      refine lv_iload hx hb dL_holds_308 (lv_at hl 0 rfl) ?_
      refine lv_iconst (v := 0) hx hb dL_holds_310 (by decide) ?_
      refine lv_iconst (v := 0) hx hb dL_holds_311 (by decide) ?_
      have k409 : fCall S 18 (nI (X % N)) 0 0 = (nI MK, S) := (s_moves S 0 0 hG.gd hl0).trans (by rw [hMK])
      refine xw_callEi (va_runS (As := [.ref (av 0), .int 18, .int (nI (X % N)), .int 0, .int 0]) (rest := []) ⟨hx, hb, hml, hown, hts⟩ (c_call l hst D y av ga gb H.size S 18 (nI (X % N)) 0 0 hG.ok) (va_cwS 5 hts gL_holds_L_call rfl rfl rfl hd_L_call ⟨Nat.le_of_ble_eq_true rfl, Nat.le_of_ble_eq_true rfl⟩) (lS hE hXE hLN hXZ hS hA hP hD) rfl rfl hl.1 rfl (lv_room (Nat.le_of_ble_eq_true rfl)) dL_holds_312 ⟨by show _ ≤ 1000; omega, by show _ ≤ 20000; omega⟩) hD hS hA (fun v410 u411 ga413 gb414 H locs h412 hP hD hS => ?_)
      obtain ⟨rfl, rfl⟩ := Prod.mk.inj (k409.symm.trans h412)
      refine lv_istore (lv' := [(9, .int (nI MK)), (8, .int (nI (X % N))), (0, .ref (av 0)), (1, .int (nI X)), (2, .int (nI N)), (3, .int (nI G)), (4, .int (nI (mxW S.2.2.1 (N + 1)))), (5, .int (nI (mnW S.2.2.1 (N + 1)))), (6, .int 1), (7, .int 1)]) hx hb dL_holds_315 hl (by decide) rfl (fun ls hl => ?_)
      refine lv_aload_n hx hb dL_holds_317 rfl (lv_at hl 2 rfl) ?_
      refine lv_iconst (v := 4) hx hb dL_holds_318 (by decide) ?_
      refine lv_iload hx hb dL_holds_319 (lv_at hl 1 rfl) ?_
      refine lv_iconst (v := 0) hx hb dL_holds_321 (by decide) ?_
      refine lv_iconst (v := 0) hx hb dL_holds_322 (by decide) ?_
      have k415 : fCall S 4 (nI (X % N)) 0 0 = (nI PL, S) := (s_place S 0 0 hG.gd hl0).trans (by rw [hN, hPL])
      refine xw_callEi (va_runS (As := [.ref (av 0), .int 4, .int (nI (X % N)), .int 0, .int 0]) (rest := []) ⟨hx, hb, hml, hown, hts⟩ (c_call l hst D y av ga413 gb414 H.size S 4 (nI (X % N)) 0 0 hG.ok) (va_cwS 5 hts gL_holds_L_call rfl rfl rfl hd_L_call ⟨Nat.le_of_ble_eq_true rfl, Nat.le_of_ble_eq_true rfl⟩) (lS hE hXE hLN hXZ hS hA hP hD) rfl rfl hl.1 rfl (lv_room (Nat.le_of_ble_eq_true rfl)) dL_holds_323 ⟨by show _ ≤ 1000; omega, by show _ ≤ 20000; omega⟩) hD hS hA (fun v416 u417 ga419 gb420 H locs h418 hP hD hS => ?_)
      obtain ⟨rfl, rfl⟩ := Prod.mk.inj (k415.symm.trans h418)
      refine lv_istore (lv' := [(10, .int (nI PL)), (9, .int (nI MK)), (8, .int (nI (X % N))), (0, .ref (av 0)), (1, .int (nI X)), (2, .int (nI N)), (3, .int (nI G)), (4, .int (nI (mxW S.2.2.1 (N + 1)))), (5, .int (nI (mnW S.2.2.1 (N + 1)))), (6, .int 1), (7, .int 1)]) hx hb dL_holds_326 hl (by decide) rfl (fun ls hl => ?_)
      refine lv_iload hx hb dL_holds_328 (lv_at hl 10 rfl) ?_
      refine lv_if_eq (tgt := 450) hx hb dL_holds_330 (by decide) (fun cb421 => absurd cb421 (by decide)) (fun cb421 => ?_)
      refine lv_aload_n hx hb dL_holds_333 rfl (lv_at hl 3 rfl) ?_
      refine lv_iconst (v := 2) hx hb dL_holds_334 (by decide) ?_
      refine lv_bipush (v := 6) hx hb dL_holds_335 (by decide) ?_
      refine lv_iconst (v := 0) hx hb dL_holds_337 (by decide) ?_
      refine lv_iconst (v := 0) hx hb dL_holds_338 (by decide) ?_
      have k422 : fCall S 2 6 0 0 = (nI (mxW S.2.2.1 (N + 1)), S) := (s_ab6 S 0 0 hG.gd).trans (by rw [hN])
      refine xw_callEi (va_runS (As := [.ref (av 0), .int 2, .int 6, .int 0, .int 0]) (rest := []) ⟨hx, hb, hml, hown, hts⟩ (c_call l hst D y av ga419 gb420 H.size S 2 6 0 0 hG.ok) (va_cwS 5 hts gL_holds_L_call rfl rfl rfl hd_L_call ⟨Nat.le_of_ble_eq_true rfl, Nat.le_of_ble_eq_true rfl⟩) (lS hE hXE hLN hXZ hS hA hP hD) rfl rfl hl.1 rfl (lv_room (Nat.le_of_ble_eq_true rfl)) dL_holds_339 ⟨by show _ ≤ 1000; omega, by show _ ≤ 20000; omega⟩) hD hS hA (fun v423 u424 ga426 gb427 H locs h425 hP hD hS => ?_)
      obtain ⟨rfl, rfl⟩ := Prod.mk.inj (k422.symm.trans h425)
      refine lv_iload hx hb dL_holds_342 (lv_at hl 7 rfl) ?_
      refine lv_icmp_ne (tgt := 450) hx hb dL_holds_344 (by decide) (fun cb428 => absurd (congrArg nI (show (mxW S.2.2.1 (N + 1)) = (mxW S.2.2.1 (N + 1)) by omega)) cb428) (fun cb428 => ?_)
      refine lv_aload_n hx hb dL_holds_347 rfl (lv_at hl 3 rfl) ?_
      refine lv_iconst (v := 2) hx hb dL_holds_348 (by decide) ?_
      refine lv_bipush (v := 7) hx hb dL_holds_349 (by decide) ?_
      refine lv_iconst (v := 0) hx hb dL_holds_351 (by decide) ?_
      refine lv_iconst (v := 0) hx hb dL_holds_352 (by decide) ?_
      have k429 : fCall S 2 7 0 0 = (nI (mnW S.2.2.1 (N + 1)), S) := (s_ab7 S 0 0 hG.gd).trans (by rw [hN])
      refine xw_callEi (va_runS (As := [.ref (av 0), .int 2, .int 7, .int 0, .int 0]) (rest := []) ⟨hx, hb, hml, hown, hts⟩ (c_call l hst D y av ga426 gb427 H.size S 2 7 0 0 hG.ok) (va_cwS 5 hts gL_holds_L_call rfl rfl rfl hd_L_call ⟨Nat.le_of_ble_eq_true rfl, Nat.le_of_ble_eq_true rfl⟩) (lS hE hXE hLN hXZ hS hA hP hD) rfl rfl hl.1 rfl (lv_room (Nat.le_of_ble_eq_true rfl)) dL_holds_353 ⟨by show _ ≤ 1000; omega, by show _ ≤ 20000; omega⟩) hD hS hA (fun v430 u431 ga433 gb434 H locs h432 hP hD hS => ?_)
      obtain ⟨rfl, rfl⟩ := Prod.mk.inj (k429.symm.trans h432)
      refine lv_iload hx hb dL_holds_356 (lv_at hl 8 rfl) ?_
      refine lv_icmp_ne (tgt := 450) hx hb dL_holds_358 (by decide) (fun cb435 => absurd (congrArg nI (show (mnW S.2.2.1 (N + 1)) = (mnW S.2.2.1 (N + 1)) by omega)) cb435) (fun cb435 => ?_)
      refine lv_iload hx hb dL_holds_361 (lv_at hl 1 rfl) ?_
      refine lv_if_le (tgt := 450) hx hb dL_holds_363 (by decide) (fun cb436 => absurd cb436 (nI_ge (a := 0) (b := MK) (by omega) (by omega))) (fun cb436 => ?_)
      refine lv_iload hx hb dL_holds_366 (lv_at hl 1 rfl) ?_
      refine lv_iload_n hx hb dL_holds_368 rfl (lv_at hl 5 rfl) ?_
      refine lv_icmp_gt (tgt := 450) hx hb dL_holds_369 (by decide) (fun cb437 => absurd cb437 (nI_nlt (a := N) (b := MK) (by omega) (by omega))) (fun cb437 => ?_)
      refine lv_aload_n hx hb dL_holds_372 rfl (lv_at hl 3 rfl) ?_
      refine lv_bipush (v := 19) hx hb dL_holds_373 (by decide) ?_
      refine lv_iload hx hb dL_holds_375 (lv_at hl 2 rfl) ?_
      refine lv_iconst (v := 0) hx hb dL_holds_377 (by decide) ?_
      refine lv_iconst (v := 0) hx hb dL_holds_378 (by decide) ?_
      have k438 : fCall S 19 (nI (X % N)) 0 0 = (nI PL, S) := (s_behind S (m := 0) 0 hG.gd hl0 (by omega)).trans (by rw [hN, hb0])
      refine xw_callEi (va_runS (As := [.ref (av 0), .int 19, .int (nI (X % N)), .int 0, .int 0]) (rest := []) ⟨hx, hb, hml, hown, hts⟩ (c_call l hst D y av ga433 gb434 H.size S 19 (nI (X % N)) 0 0 hG.ok) (va_cwS 5 hts gL_holds_L_call rfl rfl rfl hd_L_call ⟨Nat.le_of_ble_eq_true rfl, Nat.le_of_ble_eq_true rfl⟩) (lS hE hXE hLN hXZ hS hA hP hD) rfl rfl hl.1 rfl (lv_room (Nat.le_of_ble_eq_true rfl)) dL_holds_379 ⟨by show _ ≤ 1000; omega, by show _ ≤ 20000; omega⟩) hD hS hA (fun v439 u440 ga442 gb443 H locs h441 hP hD hS => ?_)
      obtain ⟨rfl, rfl⟩ := Prod.mk.inj (k438.symm.trans h441)
      refine lv_iload hx hb dL_holds_382 (lv_at hl 0 rfl) ?_
      refine lv_icmp_ne (tgt := 450) hx hb dL_holds_384 (by decide) (fun cb444 => absurd (congrArg nI (show PL = PL by omega)) cb444) (fun cb444 => ?_)
      refine lv_aload_n hx hb dL_holds_387 rfl (lv_at hl 3 rfl) ?_
      refine lv_bipush (v := 19) hx hb dL_holds_388 (by decide) ?_
      refine lv_iload hx hb dL_holds_390 (lv_at hl 2 rfl) ?_
      refine lv_iload hx hb dL_holds_392 (lv_at hl 1 rfl) ?_
      refine lv_iconst (v := 1) hx hb dL_holds_394 (by decide) ?_
      refine lv_isub hx hb dL_holds_395 ?_
      refine lv_topi (fun z445 ez445 => ?_)
      obtain rfl : z445 = nI (MK - 1) := ez445.trans ((pk_sub (a := MK) (b := 1) (by omega) : nI MK - nI 1 = _))
      refine lv_iconst (v := 0) hx hb dL_holds_396 (by decide) ?_
      have k446 : fCall S 19 (nI (X % N)) (nI (MK - 1)) 0 = (nI PL, S) := (s_behind S (m := MK - 1) 0 hG.gd hl0 (by omega)).trans (by rw [hN, hb1])
      refine xw_callEi (va_runS (As := [.ref (av 0), .int 19, .int (nI (X % N)), .int (nI (MK - 1)), .int 0]) (rest := []) ⟨hx, hb, hml, hown, hts⟩ (c_call l hst D y av ga442 gb443 H.size S 19 (nI (X % N)) (nI (MK - 1)) 0 hG.ok) (va_cwS 5 hts gL_holds_L_call rfl rfl rfl hd_L_call ⟨Nat.le_of_ble_eq_true rfl, Nat.le_of_ble_eq_true rfl⟩) (lS hE hXE hLN hXZ hS hA hP hD) rfl rfl hl.1 rfl (lv_room (Nat.le_of_ble_eq_true rfl)) dL_holds_397 ⟨by show _ ≤ 1000; omega, by show _ ≤ 20000; omega⟩) hD hS hA (fun v447 u448 ga450 gb451 H locs h449 hP hD hS => ?_)
      obtain ⟨rfl, rfl⟩ := Prod.mk.inj (k446.symm.trans h449)
      refine lv_iload hx hb dL_holds_400 (lv_at hl 0 rfl) ?_
      refine lv_icmp_ne (tgt := 450) hx hb dL_holds_402 (by decide) (fun cb452 => absurd (congrArg nI (show PL = PL by omega)) cb452) (fun cb452 => ?_)
      refine lv_aload_n hx hb dL_holds_405 rfl (lv_at hl 3 rfl) ?_
      refine lv_bipush (v := 19) hx hb dL_holds_406 (by decide) ?_
      refine lv_iload hx hb dL_holds_408 (lv_at hl 2 rfl) ?_
      refine lv_iload hx hb dL_holds_410 (lv_at hl 1 rfl) ?_
      refine lv_iconst (v := 0) hx hb dL_holds_412 (by decide) ?_
      have k453 : fCall S 19 (nI (X % N)) (nI MK) 0 = (nI ((PL + 1) % (N + 1)), S) := (s_behind S (m := MK) 0 hG.gd hl0 (by omega)).trans (by rw [hN, hb2])
      refine xw_callEi (va_runS (As := [.ref (av 0), .int 19, .int (nI (X % N)), .int (nI MK), .int 0]) (rest := []) ⟨hx, hb, hml, hown, hts⟩ (c_call l hst D y av ga450 gb451 H.size S 19 (nI (X % N)) (nI MK) 0 hG.ok) (va_cwS 5 hts gL_holds_L_call rfl rfl rfl hd_L_call ⟨Nat.le_of_ble_eq_true rfl, Nat.le_of_ble_eq_true rfl⟩) (lS hE hXE hLN hXZ hS hA hP hD) rfl rfl hl.1 rfl (lv_room (Nat.le_of_ble_eq_true rfl)) dL_holds_413 ⟨by show _ ≤ 1000; omega, by show _ ≤ 20000; omega⟩) hD hS hA (fun v454 u455 ga457 gb458 H locs h456 hP hD hS => ?_)
      obtain ⟨rfl, rfl⟩ := Prod.mk.inj (k453.symm.trans h456)
      refine lv_iload hx hb dL_holds_416 (lv_at hl 0 rfl) ?_
      refine lv_iconst (v := 1) hx hb dL_holds_418 (by decide) ?_
      refine lv_iadd hx hb dL_holds_419 ?_
      refine lv_topi (fun z459 ez459 => ?_)
      obtain rfl : z459 = nI (PL + 1) := ez459.trans ((nI_add PL 1 : nI PL + nI 1 = _))
      refine lv_iload_n hx hb dL_holds_420 rfl (lv_at hl 5 rfl) ?_
      refine lv_iconst (v := 1) hx hb dL_holds_421 (by decide) ?_
      refine lv_iadd hx hb dL_holds_422 ?_
      refine lv_topi (fun z460 ez460 => ?_)
      obtain rfl : z460 = nI (N + 1) := ez460.trans ((nI_add N 1 : nI N + nI 1 = _))
      refine lv_irem hx hb dL_holds_423 (nI_ne0 (n := N + 1) (by omega) (by omega)) ?_
      refine lv_topi (fun z461 ez461 => ?_)
      obtain rfl : z461 = nI ((PL + 1) % (N + 1)) := ez461.trans ((pk_rem (a := PL + 1) (d := N + 1) (by omega) (by omega) (by omega) : nI (PL + 1) - nI (PL + 1) / nI (N + 1) * nI (N + 1) = _))
      refine lv_icmp_ne (tgt := 450) hx hb dL_holds_424 (by decide) (fun cb462 => absurd (congrArg nI (show ((PL + 1) % (N + 1)) = ((PL + 1) % (N + 1)) by omega)) cb462) (fun cb462 => ?_)
      refine lv_aload_n hx hb dL_holds_427 rfl (lv_at hl 3 rfl) ?_
      refine lv_bipush (v := 19) hx hb dL_holds_428 (by decide) ?_
      refine lv_iload hx hb dL_holds_430 (lv_at hl 2 rfl) ?_
      refine lv_iload_n hx hb dL_holds_432 rfl (lv_at hl 5 rfl) ?_
      refine lv_iload_n hx hb dL_holds_433 rfl (lv_at hl 5 rfl) ?_
      refine lv_iconst (v := 1) hx hb dL_holds_434 (by decide) ?_
      refine lv_iadd hx hb dL_holds_435 ?_
      refine lv_topi (fun z463 ez463 => ?_)
      obtain rfl : z463 = nI (N + 1) := ez463.trans ((nI_add N 1 : nI N + nI 1 = _))
      refine lv_imul hx hb dL_holds_436 ?_
      refine lv_topi (fun z464 ez464 => ?_)
      obtain rfl : z464 = nI (N * (N + 1)) := ez464.trans ((pk_mul N (N + 1) : nI N * nI (N + 1) = _))
      refine lv_iconst (v := 0) hx hb dL_holds_437 (by decide) ?_
      have k465 : fCall S 19 (nI (X % N)) (nI (N * (N + 1))) 0 = (nI PL, S) := (s_behind S (m := N * (N + 1)) 0 hG.gd hl0 (by omega)).trans (by rw [hN, hb3])
      refine xw_callEi (va_runS (As := [.ref (av 0), .int 19, .int (nI (X % N)), .int (nI (N * (N + 1))), .int 0]) (rest := []) ⟨hx, hb, hml, hown, hts⟩ (c_call l hst D y av ga457 gb458 H.size S 19 (nI (X % N)) (nI (N * (N + 1))) 0 hG.ok) (va_cwS 5 hts gL_holds_L_call rfl rfl rfl hd_L_call ⟨Nat.le_of_ble_eq_true rfl, Nat.le_of_ble_eq_true rfl⟩) (lS hE hXE hLN hXZ hS hA hP hD) rfl rfl hl.1 rfl (lv_room (Nat.le_of_ble_eq_true rfl)) dL_holds_438 ⟨by show _ ≤ 1000; omega, by show _ ≤ 20000; omega⟩) hD hS hA (fun v466 u467 ga469 gb470 H locs h468 hP hD hS => ?_)
      obtain ⟨rfl, rfl⟩ := Prod.mk.inj (k465.symm.trans h468)
      refine lv_iload hx hb dL_holds_441 (lv_at hl 0 rfl) ?_
      refine lv_icmp_ne (tgt := 450) hx hb dL_holds_443 (by decide) (fun cb471 => absurd (congrArg nI (show PL = PL by omega)) cb471) (fun cb471 => ?_)
      refine lv_iconst (v := 1) hx hb dL_holds_446 (by decide) ?_
      refine lv_goto (tgt := 451) hx hb dL_holds_447 (by decide) ?_
      refine lv_istore (lv' := [(7, .int 1), (10, .int (nI PL)), (9, .int (nI MK)), (8, .int (nI (X % N))), (0, .ref (av 0)), (1, .int (nI X)), (2, .int (nI N)), (3, .int (nI G)), (4, .int (nI (mxW S.2.2.1 (N + 1)))), (5, .int (nI (mnW S.2.2.1 (N + 1)))), (6, .int 1)]) hx hb dL_holds_451 hl (by decide) rfl (fun ls hl => ?_)
      refine lv_iconst (v := 1) hx hb dL_holds_453 (by decide) ?_
      refine lv_iload_n hx hb dL_holds_454 rfl (lv_at hl 5 rfl) ?_
      refine lv_bipush (v := 32) hx hb dL_holds_455 (by decide) ?_
      refine lv_idiv hx hb dL_holds_457 (by decide) ?_
      refine lv_topi (fun z472 ez472 => ?_)
      obtain rfl : z472 = nI (X / 32) := ez472.trans ((pk_div (a := X) (d := 32) (by omega) (by omega) (by omega) : nI X / nI 32 = _))
      refine lv_bipush (v := 60) hx hb dL_holds_458 (by decide) ?_
      refine lv_irem hx hb dL_holds_460 (by decide) ?_
      refine lv_topi (fun z473 ez473 => ?_)
      obtain rfl : z473 = nI ((X / 32) % 60) := ez473.trans ((pk_rem (a := X / 32) (d := 60) (by omega) (by omega) (by omega) : nI (X / 32) - nI (X / 32) / nI 60 * nI 60 = _))
      refine lv_iadd hx hb dL_holds_461 ?_
      refine lv_topi (fun z474 ez474 => ?_)
      obtain rfl : z474 = nI (1 + ((X / 32) % 60)) := ez474.trans ((nI_add 1 ((X / 32) % 60) : nI 1 + nI ((X / 32) % 60) = _))
      refine lv_istore (lv' := [(11, .int (nI (1 + ((X / 32) % 60)))), (7, .int 1), (10, .int (nI PL)), (9, .int (nI MK)), (8, .int (nI (X % N))), (0, .ref (av 0)), (1, .int (nI X)), (2, .int (nI N)), (3, .int (nI G)), (4, .int (nI (mxW S.2.2.1 (N + 1)))), (5, .int (nI (mnW S.2.2.1 (N + 1)))), (6, .int 1)]) hx hb dL_holds_462 hl (by decide) rfl (fun ls hl => ?_)
      refine lv_aload_n hx hb dL_holds_464 rfl (lv_at hl 5 rfl) ?_
      refine lv_bipush (v := 17) hx hb dL_holds_465 (by decide) ?_
      refine lv_iload hx hb dL_holds_467 (lv_at hl 4 rfl) ?_
      refine lv_iload hx hb dL_holds_469 (lv_at hl 0 rfl) ?_
      refine lv_iconst (v := 0) hx hb dL_holds_471 (by decide) ?_
      obtain ⟨BT, cc1, k475, hB1, hB2, hBe⟩ := s_best S (m := 1 + (X / 32 % 60)) 0 hl0 (by omega) (by omega)
      refine xw_callEi (va_runS (As := [.ref (av 0), .int 17, .int (nI (X % N)), .int (nI (1 + ((X / 32) % 60))), .int 0]) (rest := []) ⟨hx, hb, hml, hown, hts⟩ (c_call l hst D y av ga469 gb470 H.size S 17 (nI (X % N)) (nI (1 + ((X / 32) % 60))) 0 hG.ok) (va_cwS 5 hts gL_holds_L_call rfl rfl rfl hd_L_call ⟨Nat.le_of_ble_eq_true rfl, Nat.le_of_ble_eq_true rfl⟩) (lS hE hXE hLN hXZ hS hA hP hD) rfl rfl hl.1 rfl (lv_room (Nat.le_of_ble_eq_true rfl)) dL_holds_472 ⟨by show _ ≤ 1000; omega, by show _ ≤ 20000; omega⟩) hD hS hA (fun v476 u477 ga479 gb480 H locs h478 hP hD hS => ?_)
      obtain ⟨rfl, rfl⟩ := Prod.mk.inj (k475.symm.trans h478)
      refine lv_istore (lv' := [(12, .int (nI BT)), (11, .int (nI (1 + ((X / 32) % 60)))), (7, .int 1), (10, .int (nI PL)), (9, .int (nI MK)), (8, .int (nI (X % N))), (0, .ref (av 0)), (1, .int (nI X)), (2, .int (nI N)), (3, .int (nI G)), (4, .int (nI (mxW S.2.2.1 (N + 1)))), (5, .int (nI (mnW S.2.2.1 (N + 1)))), (6, .int 1)]) hx hb dL_holds_475 hl (by decide) rfl (fun ls hl => ?_)
      refine lv_iconst (v := 1) hx hb dL_holds_477 (by decide) ?_
      refine lv_iload_n hx hb dL_holds_478 rfl (lv_at hl 7 rfl) ?_
      refine lv_sipush (v := 1920) hx hb dL_holds_479 (by decide) ?_
      refine lv_idiv hx hb dL_holds_482 (by decide) ?_
      refine lv_topi (fun z481 ez481 => ?_)
      obtain rfl : z481 = nI (X / 1920) := ez481.trans ((pk_div (a := X) (d := 1920) (by omega) (by omega) (by omega) : nI X / nI 1920 = _))
      refine lv_bipush (v := 50) hx hb dL_holds_483 (by decide) ?_
      refine lv_irem hx hb dL_holds_485 (by decide) ?_
      refine lv_topi (fun z482 ez482 => ?_)
      obtain rfl : z482 = nI ((X / 1920) % 50) := ez482.trans ((pk_rem (a := X / 1920) (d := 50) (by omega) (by omega) (by omega) : nI (X / 1920) - nI (X / 1920) / nI 50 * nI 50 = _))
      refine lv_iadd hx hb dL_holds_486 ?_
      refine lv_topi (fun z483 ez483 => ?_)
      obtain rfl : z483 = nI (1 + ((X / 1920) % 50)) := ez483.trans ((nI_add 1 ((X / 1920) % 50) : nI 1 + nI ((X / 1920) % 50) = _))
      refine lv_istore (lv' := [(13, .int (nI (1 + ((X / 1920) % 50)))), (12, .int (nI BT)), (11, .int (nI (1 + ((X / 32) % 60)))), (7, .int 1), (10, .int (nI PL)), (9, .int (nI MK)), (8, .int (nI (X % N))), (0, .ref (av 0)), (1, .int (nI X)), (2, .int (nI N)), (3, .int (nI G)), (4, .int (nI (mxW S.2.2.1 (N + 1)))), (5, .int (nI (mnW S.2.2.1 (N + 1)))), (6, .int 1)]) hx hb dL_holds_487 hl (by decide) rfl (fun ls hl => ?_)
      refine lv_iload hx hb dL_holds_489 (lv_at hl 3 rfl) ?_
      refine lv_if_eq (tgt := 604) hx hb dL_holds_491 (by decide) (fun cb484 => absurd cb484 (by decide)) (fun cb484 => ?_)
      refine lv_aload_n hx hb dL_holds_494 rfl (lv_at hl 7 rfl) ?_
      refine lv_bipush (v := 16) hx hb dL_holds_495 (by decide) ?_
      refine lv_iload hx hb dL_holds_497 (lv_at hl 6 rfl) ?_
      refine lv_iload hx hb dL_holds_499 (lv_at hl 1 rfl) ?_
      refine lv_iload hx hb dL_holds_501 (lv_at hl 2 rfl) ?_
      obtain ⟨cc485, k486⟩ : ∃ c, fCall (sRc S cc1) 16 (nI (X % N)) (nI BT) (nI (1 + ((X / 32) % 60))) = (wE S.2.2.1 (nI (X % N)) (nI (1 + (X / 32 % 60))) (BT), sRc S c) := ⟨_, s_every (sRc S cc1) (e := BT) (m := 1 + (X / 32 % 60)) hl0 (by omega) (by omega) (by omega) (by omega)⟩
      refine xw_callEi (va_runS (As := [.ref (av 0), .int 16, .int (nI (X % N)), .int (nI BT), .int (nI (1 + ((X / 32) % 60)))]) (rest := []) ⟨hx, hb, hml, hown, hts⟩ (c_call l hst D y av ga479 gb480 H.size (sRc S cc1) 16 (nI (X % N)) (nI BT) (nI (1 + ((X / 32) % 60))) hG.ok) (va_cwS 5 hts gL_holds_L_call rfl rfl rfl hd_L_call ⟨Nat.le_of_ble_eq_true rfl, Nat.le_of_ble_eq_true rfl⟩) (lS hE hXE hLN hXZ hS hA hP hD) rfl rfl hl.1 rfl (lv_room (Nat.le_of_ble_eq_true rfl)) dL_holds_503 ⟨by show _ ≤ 1000; omega, by show _ ≤ 20000; omega⟩) hD hS hA (fun v487 u488 ga490 gb491 H locs h489 hP hD hS => ?_)
      obtain ⟨rfl, rfl⟩ := Prod.mk.inj (k486.symm.trans h489)
      refine lv_aload_n hx hb dL_holds_506 rfl (lv_at hl 7 rfl) ?_
      refine lv_bipush (v := 16) hx hb dL_holds_507 (by decide) ?_
      refine lv_iload hx hb dL_holds_509 (lv_at hl 6 rfl) ?_
      refine lv_iload hx hb dL_holds_511 (lv_at hl 0 rfl) ?_
      refine lv_iload hx hb dL_holds_513 (lv_at hl 2 rfl) ?_
      obtain ⟨cc492, k493⟩ : ∃ c, fCall (sRc S cc485) 16 (nI (X % N)) (nI (1 + ((X / 1920) % 50))) (nI (1 + ((X / 32) % 60))) = (wE S.2.2.1 (nI (X % N)) (nI (1 + (X / 32 % 60))) (1 + (X / 1920 % 50)), sRc S c) := ⟨_, s_every (sRc S cc485) (e := 1 + (X / 1920 % 50)) (m := 1 + (X / 32 % 60)) hl0 (by omega) (by omega) (by omega) (by omega)⟩
      refine xw_callEi (va_runS (As := [.ref (av 0), .int 16, .int (nI (X % N)), .int (nI (1 + ((X / 1920) % 50))), .int (nI (1 + ((X / 32) % 60)))]) (rest := [.int (wE S.2.2.1 (nI (X % N)) (nI (1 + (X / 32 % 60))) (BT))]) ⟨hx, hb, hml, hown, hts⟩ (c_call l hst D y av ga490 gb491 H.size (sRc S cc485) 16 (nI (X % N)) (nI (1 + ((X / 1920) % 50))) (nI (1 + ((X / 32) % 60))) hG.ok) (va_cwS 5 hts gL_holds_L_call rfl rfl rfl hd_L_call ⟨Nat.le_of_ble_eq_true rfl, Nat.le_of_ble_eq_true rfl⟩) (lS hE hXE hLN hXZ hS hA hP hD) rfl rfl hl.1 rfl (lv_room (Nat.le_of_ble_eq_true rfl)) dL_holds_515 ⟨by show _ ≤ 1000; omega, by show _ ≤ 20000; omega⟩) hD hS hA (fun v494 u495 ga497 gb498 H locs h496 hP hD hS => ?_)
      obtain ⟨rfl, rfl⟩ := Prod.mk.inj (k493.symm.trans h496)
      refine lv_icmp_gt (tgt := 604) hx hb dL_holds_518 (by decide) (fun cb499 => absurd cb499 (Int32.not_lt.mpr (hBe (1 + (X / 1920 % 50)) (by omega) (by omega)).1)) (fun cb499 => ?_)
      refine lv_iload hx hb dL_holds_521 (lv_at hl 0 rfl) ?_
      refine lv_iload hx hb dL_holds_523 (lv_at hl 1 rfl) ?_
      refine lv_icmp_le (tgt := 555) hx hb dL_holds_525 (by decide) (fun cb500 => ?_) (fun cb500 => ?_)
      · skip
        have d1 : 1 + (X / 1920 % 50) ≤ BT := (nI_leI (by omega) (by omega)).mp cb500
        refine lv_aload_n hx hb dL_holds_555 rfl (lv_at hl 7 rfl) ?_
        refine lv_bipush (v := 14) hx hb dL_holds_556 (by decide) ?_
        refine lv_iload hx hb dL_holds_558 (lv_at hl 6 rfl) ?_
        refine lv_iconst (v := 0) hx hb dL_holds_560 (by decide) ?_
        refine lv_iconst (v := 0) hx hb dL_holds_561 (by decide) ?_
        obtain ⟨cc501, k502⟩ : ∃ c, fCall (sRc S cc492) 14 (nI (X % N)) 0 0 = (0, sRc S c) := ⟨_, (s_life (sRc S cc492) 0 0 hl0).trans (congrArg (fun z => (nI z, sRc (sRc S cc492) (hmF (nI (X % N)) 2000 S.2.2.1).2)) (hLF.mpr (by rw [h8]; decide)))⟩
        refine xw_callEi (va_runS (As := [.ref (av 0), .int 14, .int (nI (X % N)), .int 0, .int 0]) (rest := []) ⟨hx, hb, hml, hown, hts⟩ (c_call l hst D y av ga497 gb498 H.size (sRc S cc492) 14 (nI (X % N)) 0 0 hG.ok) (va_cwS 5 hts gL_holds_L_call rfl rfl rfl hd_L_call ⟨Nat.le_of_ble_eq_true rfl, Nat.le_of_ble_eq_true rfl⟩) (lS hE hXE hLN hXZ hS hA hP hD) rfl rfl hl.1 rfl (lv_room (Nat.le_of_ble_eq_true rfl)) dL_holds_562 ⟨by show _ ≤ 1000; omega, by show _ ≤ 20000; omega⟩) hD hS hA (fun v503 u504 ga506 gb507 H locs h505 hP hD hS => ?_)
        obtain ⟨rfl, rfl⟩ := Prod.mk.inj (k502.symm.trans h505)
        refine lv_if_ne (tgt := 572) hx hb dL_holds_565 (by decide) (fun cb508 => absurd (by decide) cb508) (fun cb508 => ?_)
        refine lv_iconst (v := 1) hx hb dL_holds_568 (by decide) ?_
        refine lv_goto (tgt := 573) hx hb dL_holds_569 (by decide) ?_
        refine lv_iload hx hb dL_holds_573 (lv_at hl 13 rfl) ?_
        refine lv_icmp_ne (tgt := 604) hx hb dL_holds_575 (by decide) (fun cb509 => absurd (by decide) cb509) (fun cb509 => ?_)
        refine lv_aload_n hx hb dL_holds_578 rfl (lv_at hl 7 rfl) ?_
        refine lv_bipush (v := 15) hx hb dL_holds_579 (by decide) ?_
        refine lv_iconst (v := 0) hx hb dL_holds_581 (by decide) ?_
        refine lv_iconst (v := 0) hx hb dL_holds_582 (by decide) ?_
        refine lv_iconst (v := 0) hx hb dL_holds_583 (by decide) ?_
        obtain ⟨jj511, cc510, k512, hj1, hj2⟩ := s_long (sRc S cc501) 0 0 0 hG.gd
        obtain rfl : jj511 = 0 := hj2.mpr (by show ¬ S.2.2.1 8 = 0; rw [h8]; decide)
        have k512 : fCall (sRc S cc501) 15 0 0 0 = (0, sRc S cc510) := k512
        refine xw_callEi (va_runS (As := [.ref (av 0), .int 15, .int 0, .int 0, .int 0]) (rest := []) ⟨hx, hb, hml, hown, hts⟩ (c_call l hst D y av ga506 gb507 H.size (sRc S cc501) 15 0 0 0 hG.ok) (va_cwS 5 hts gL_holds_L_call rfl rfl rfl hd_L_call ⟨Nat.le_of_ble_eq_true rfl, Nat.le_of_ble_eq_true rfl⟩) (lS hE hXE hLN hXZ hS hA hP hD) rfl rfl hl.1 rfl (lv_room (Nat.le_of_ble_eq_true rfl)) dL_holds_584 ⟨by show _ ≤ 1000; omega, by show _ ≤ 20000; omega⟩) hD hS hA (fun v513 u514 ga516 gb517 H locs h515 hP hD hS => ?_)
        obtain ⟨rfl, rfl⟩ := Prod.mk.inj (k512.symm.trans h515)
        refine lv_if_ne (tgt := 594) hx hb dL_holds_587 (by decide) (fun cb518 => absurd (by decide) cb518) (fun cb518 => ?_)
        refine lv_iconst (v := 1) hx hb dL_holds_590 (by decide) ?_
        refine lv_goto (tgt := 595) hx hb dL_holds_591 (by decide) ?_
        refine lv_iload hx hb dL_holds_595 (lv_at hl 13 rfl) ?_
        refine lv_icmp_ne (tgt := 604) hx hb dL_holds_597 (by decide) (fun cb519 => absurd (by decide) cb519) (fun cb519 => ?_)
        refine lv_iconst (v := 1) hx hb dL_holds_600 (by decide) ?_
        refine lv_goto (tgt := 605) hx hb dL_holds_601 (by decide) ?_
        refine W.widen (k := 1000) (n := 20000) (by omega) (by omega) ?_
        exact W.zret (v := 1) hx hb hr rfl (fun t ht hW => ⟨⟨1, sRc S cc510, rfl, ⟨rfl, _, rfl⟩, ga516, gb517, by rw [ht]; exact hP, hD⟩, hS.F ht⟩) hS.2.2 dL_holds_605
      · skip
        have d1 : BT < 1 + (X / 1920 % 50) := Nat.lt_of_not_le (fun q => cb500 ((nI_leI (by omega) (by omega)).mpr q))
        refine lv_aload_n hx hb dL_holds_528 rfl (lv_at hl 7 rfl) ?_
        refine lv_bipush (v := 16) hx hb dL_holds_529 (by decide) ?_
        refine lv_iload hx hb dL_holds_531 (lv_at hl 6 rfl) ?_
        refine lv_iload hx hb dL_holds_533 (lv_at hl 0 rfl) ?_
        refine lv_iload hx hb dL_holds_535 (lv_at hl 2 rfl) ?_
        obtain ⟨cc520, k521⟩ : ∃ c, fCall (sRc S cc492) 16 (nI (X % N)) (nI (1 + ((X / 1920) % 50))) (nI (1 + ((X / 32) % 60))) = (wE S.2.2.1 (nI (X % N)) (nI (1 + (X / 32 % 60))) (1 + (X / 1920 % 50)), sRc S c) := ⟨_, s_every (sRc S cc492) (e := 1 + (X / 1920 % 50)) (m := 1 + (X / 32 % 60)) hl0 (by omega) (by omega) (by omega) (by omega)⟩
        refine xw_callEi (va_runS (As := [.ref (av 0), .int 16, .int (nI (X % N)), .int (nI (1 + ((X / 1920) % 50))), .int (nI (1 + ((X / 32) % 60)))]) (rest := []) ⟨hx, hb, hml, hown, hts⟩ (c_call l hst D y av ga497 gb498 H.size (sRc S cc492) 16 (nI (X % N)) (nI (1 + ((X / 1920) % 50))) (nI (1 + ((X / 32) % 60))) hG.ok) (va_cwS 5 hts gL_holds_L_call rfl rfl rfl hd_L_call ⟨Nat.le_of_ble_eq_true rfl, Nat.le_of_ble_eq_true rfl⟩) (lS hE hXE hLN hXZ hS hA hP hD) rfl rfl hl.1 rfl (lv_room (Nat.le_of_ble_eq_true rfl)) dL_holds_537 ⟨by show _ ≤ 1000; omega, by show _ ≤ 20000; omega⟩) hD hS hA (fun v522 u523 ga525 gb526 H locs h524 hP hD hS => ?_)
        obtain ⟨rfl, rfl⟩ := Prod.mk.inj (k521.symm.trans h524)
        refine lv_aload_n hx hb dL_holds_540 rfl (lv_at hl 7 rfl) ?_
        refine lv_bipush (v := 16) hx hb dL_holds_541 (by decide) ?_
        refine lv_iload hx hb dL_holds_543 (lv_at hl 6 rfl) ?_
        refine lv_iload hx hb dL_holds_545 (lv_at hl 1 rfl) ?_
        refine lv_iload hx hb dL_holds_547 (lv_at hl 2 rfl) ?_
        obtain ⟨cc527, k528⟩ : ∃ c, fCall (sRc S cc520) 16 (nI (X % N)) (nI BT) (nI (1 + ((X / 32) % 60))) = (wE S.2.2.1 (nI (X % N)) (nI (1 + (X / 32 % 60))) (BT), sRc S c) := ⟨_, s_every (sRc S cc520) (e := BT) (m := 1 + (X / 32 % 60)) hl0 (by omega) (by omega) (by omega) (by omega)⟩
        refine xw_callEi (va_runS (As := [.ref (av 0), .int 16, .int (nI (X % N)), .int (nI BT), .int (nI (1 + ((X / 32) % 60)))]) (rest := [.int (wE S.2.2.1 (nI (X % N)) (nI (1 + (X / 32 % 60))) (1 + (X / 1920 % 50)))]) ⟨hx, hb, hml, hown, hts⟩ (c_call l hst D y av ga525 gb526 H.size (sRc S cc520) 16 (nI (X % N)) (nI BT) (nI (1 + ((X / 32) % 60))) hG.ok) (va_cwS 5 hts gL_holds_L_call rfl rfl rfl hd_L_call ⟨Nat.le_of_ble_eq_true rfl, Nat.le_of_ble_eq_true rfl⟩) (lS hE hXE hLN hXZ hS hA hP hD) rfl rfl hl.1 rfl (lv_room (Nat.le_of_ble_eq_true rfl)) dL_holds_549 ⟨by show _ ≤ 1000; omega, by show _ ≤ 20000; omega⟩) hD hS hA (fun v529 u530 ga532 gb533 H locs h531 hP hD hS => ?_)
        obtain ⟨rfl, rfl⟩ := Prod.mk.inj (k528.symm.trans h531)
        refine lv_icmp_le (tgt := 604) hx hb dL_holds_552 (by decide) (fun cb534 => absurd cb534 (Int32.not_le.mpr ((hBe (1 + (X / 1920 % 50)) (by omega) (by omega)).2 d1))) (fun cb534 => ?_)
        refine lv_aload_n hx hb dL_holds_555 rfl (lv_at hl 7 rfl) ?_
        refine lv_bipush (v := 14) hx hb dL_holds_556 (by decide) ?_
        refine lv_iload hx hb dL_holds_558 (lv_at hl 6 rfl) ?_
        refine lv_iconst (v := 0) hx hb dL_holds_560 (by decide) ?_
        refine lv_iconst (v := 0) hx hb dL_holds_561 (by decide) ?_
        obtain ⟨cc535, k536⟩ : ∃ c, fCall (sRc S cc527) 14 (nI (X % N)) 0 0 = (0, sRc S c) := ⟨_, (s_life (sRc S cc527) 0 0 hl0).trans (congrArg (fun z => (nI z, sRc (sRc S cc527) (hmF (nI (X % N)) 2000 S.2.2.1).2)) (hLF.mpr (by rw [h8]; decide)))⟩
        refine xw_callEi (va_runS (As := [.ref (av 0), .int 14, .int (nI (X % N)), .int 0, .int 0]) (rest := []) ⟨hx, hb, hml, hown, hts⟩ (c_call l hst D y av ga532 gb533 H.size (sRc S cc527) 14 (nI (X % N)) 0 0 hG.ok) (va_cwS 5 hts gL_holds_L_call rfl rfl rfl hd_L_call ⟨Nat.le_of_ble_eq_true rfl, Nat.le_of_ble_eq_true rfl⟩) (lS hE hXE hLN hXZ hS hA hP hD) rfl rfl hl.1 rfl (lv_room (Nat.le_of_ble_eq_true rfl)) dL_holds_562 ⟨by show _ ≤ 1000; omega, by show _ ≤ 20000; omega⟩) hD hS hA (fun v537 u538 ga540 gb541 H locs h539 hP hD hS => ?_)
        obtain ⟨rfl, rfl⟩ := Prod.mk.inj (k536.symm.trans h539)
        refine lv_if_ne (tgt := 572) hx hb dL_holds_565 (by decide) (fun cb542 => absurd (by decide) cb542) (fun cb542 => ?_)
        refine lv_iconst (v := 1) hx hb dL_holds_568 (by decide) ?_
        refine lv_goto (tgt := 573) hx hb dL_holds_569 (by decide) ?_
        refine lv_iload hx hb dL_holds_573 (lv_at hl 13 rfl) ?_
        refine lv_icmp_ne (tgt := 604) hx hb dL_holds_575 (by decide) (fun cb543 => absurd (by decide) cb543) (fun cb543 => ?_)
        refine lv_aload_n hx hb dL_holds_578 rfl (lv_at hl 7 rfl) ?_
        refine lv_bipush (v := 15) hx hb dL_holds_579 (by decide) ?_
        refine lv_iconst (v := 0) hx hb dL_holds_581 (by decide) ?_
        refine lv_iconst (v := 0) hx hb dL_holds_582 (by decide) ?_
        refine lv_iconst (v := 0) hx hb dL_holds_583 (by decide) ?_
        obtain ⟨jj545, cc544, k546, hj1, hj2⟩ := s_long (sRc S cc535) 0 0 0 hG.gd
        obtain rfl : jj545 = 0 := hj2.mpr (by show ¬ S.2.2.1 8 = 0; rw [h8]; decide)
        have k546 : fCall (sRc S cc535) 15 0 0 0 = (0, sRc S cc544) := k546
        refine xw_callEi (va_runS (As := [.ref (av 0), .int 15, .int 0, .int 0, .int 0]) (rest := []) ⟨hx, hb, hml, hown, hts⟩ (c_call l hst D y av ga540 gb541 H.size (sRc S cc535) 15 0 0 0 hG.ok) (va_cwS 5 hts gL_holds_L_call rfl rfl rfl hd_L_call ⟨Nat.le_of_ble_eq_true rfl, Nat.le_of_ble_eq_true rfl⟩) (lS hE hXE hLN hXZ hS hA hP hD) rfl rfl hl.1 rfl (lv_room (Nat.le_of_ble_eq_true rfl)) dL_holds_584 ⟨by show _ ≤ 1000; omega, by show _ ≤ 20000; omega⟩) hD hS hA (fun v547 u548 ga550 gb551 H locs h549 hP hD hS => ?_)
        obtain ⟨rfl, rfl⟩ := Prod.mk.inj (k546.symm.trans h549)
        refine lv_if_ne (tgt := 594) hx hb dL_holds_587 (by decide) (fun cb552 => absurd (by decide) cb552) (fun cb552 => ?_)
        refine lv_iconst (v := 1) hx hb dL_holds_590 (by decide) ?_
        refine lv_goto (tgt := 595) hx hb dL_holds_591 (by decide) ?_
        refine lv_iload hx hb dL_holds_595 (lv_at hl 13 rfl) ?_
        refine lv_icmp_ne (tgt := 604) hx hb dL_holds_597 (by decide) (fun cb553 => absurd (by decide) cb553) (fun cb553 => ?_)
        refine lv_iconst (v := 1) hx hb dL_holds_600 (by decide) ?_
        refine lv_goto (tgt := 605) hx hb dL_holds_601 (by decide) ?_
        refine W.widen (k := 1000) (n := 20000) (by omega) (by omega) ?_
        exact W.zret (v := 1) hx hb hr rfl (fun t ht hW => ⟨⟨1, sRc S cc544, rfl, ⟨rfl, _, rfl⟩, ga550, gb551, by rw [ht]; exact hP, hD⟩, hS.F ht⟩) hS.2.2 dL_holds_605
    have loop : ∀ (d j : Nat), j + d = N + 1 → ∀ (ga gb : Nat → Nat × Nat × Nat) (H : Heap) (locs : List Loc) (ls : Array Slot), va_P D vwCl (oW y av ga gb S) H → va_D A (oW y av ga gb S) → va_S A s.heap H locs → lv_has ls 14 [(0, .ref (av 0)), (1, .int (nI X)), (2, .int (nI N)), (3, .int (nI G)), (4, .int (nI (mxW S.2.2.1 j))), (5, .int (nI (mnW S.2.2.1 j))), (6, .int 1), (7, .int 1), (8, .int (nI j))] → W p l e (headSpec wsL_holds ({ frames := 10, cells := 1000, slots := 20000, locals := 202 })).room s m ([.ref (av 0), .int (nI X)] : List Value).toArray below meth c H locs (100 + 15 * j) (2000 + 276 * j) (MQ below (va_Qi (fun (v : Int32) (u : oS) => v = 1 ∧ ∃ c, u = sRc S c) (fun (u : oS) t => ∃ (g1 g2 : Nat → Nat × Nat × Nat), va_P D vwCl (oW y av g1 g2 u) t.heap ∧ va_D A (oW y av g1 g2 u)) A) ([.ref (av 0), .int (nI X)] : List Value).toArray s 1000 20000 A) (F0 m 176 ls []) := by
      intro d
      induction d with
      | zero =>
        intro j hj ga gb H locs ls hP hD hS hl
        obtain rfl : j = N + 1 := by omega
        refine lv_iload hx hb dL_holds_176 (lv_at hl 8 rfl) ?_
        refine lv_iload_n hx hb dL_holds_178 rfl (lv_at hl 2 rfl) ?_
        refine lv_icmp_gt (tgt := 300) hx hb dL_holds_179 (by decide) (fun cb554 => ?_) (fun cb554 => absurd (nI_lt (a := N) (b := N + 1) (by omega) (by omega)) cb554)
        refine W.widen (k := 600) (n := 12000) (by omega) (by omega) ?_
        exact post ga gb H locs ls hP hD hS hl
      | succ d ih =>
        intro j hj ga gb H locs ls hP hD hS hl
        have w9 := (m_wearN hG.gd.2.1 (j := j) (by omega)).2
        have mx9 := mxW_le hG.gd.2.1 j (by omega)
        have mn9 := mnW_le (r := S.2.2.1) j
        by_cases hjg : j = G
        · skip
          by_cases hc1 : mxW S.2.2.1 j < nN (S.2.2.1 (45 + j))
          · have m4 : mxW S.2.2.1 (j + 1) = nN (S.2.2.1 (45 + j)) := if_pos hc1
            by_cases hc2 : nN (S.2.2.1 (45 + j)) < mnW S.2.2.1 j
            · have m5 : mnW S.2.2.1 (j + 1) = nN (S.2.2.1 (45 + j)) := if_pos hc2
              refine lv_iload hx hb dL_holds_176 (lv_at hl 8 rfl) ?_
              refine lv_iload_n hx hb dL_holds_178 rfl (lv_at hl 2 rfl) ?_
              refine lv_icmp_gt (tgt := 300) hx hb dL_holds_179 (by decide) (fun cb555 => absurd cb555 (nI_nlt (a := N) (b := j) (by omega) (by omega))) (fun cb555 => ?_)
              refine lv_iload hx hb dL_holds_182 (lv_at hl 7 rfl) ?_
              refine lv_if_eq (tgt := 300) hx hb dL_holds_184 (by decide) (fun cb556 => absurd cb556 (by decide)) (fun cb556 => ?_)
              refine lv_aload_n hx hb dL_holds_187 rfl (lv_at hl 0 rfl) ?_
              refine lv_iconst (v := 5) hx hb dL_holds_188 (by decide) ?_
              refine lv_iload hx hb dL_holds_189 (lv_at hl 8 rfl) ?_
              refine lv_iconst (v := 0) hx hb dL_holds_191 (by decide) ?_
              refine lv_iconst (v := 0) hx hb dL_holds_192 (by decide) ?_
              have k557 : fCall S 5 (nI j) 0 0 = ((-1), S) := (s_line S 0 0 hG.gd (by omega)).trans (by rw [hjg, ← e3, m_lineGap])
              refine xw_callEi (va_runS (As := [.ref (av 0), .int 5, .int (nI j), .int 0, .int 0]) (rest := []) ⟨hx, hb, hml, hown, hts⟩ (c_call l hst D y av ga gb H.size S 5 (nI j) 0 0 hG.ok) (va_cwS 5 hts gL_holds_L_call rfl rfl rfl hd_L_call ⟨Nat.le_of_ble_eq_true rfl, Nat.le_of_ble_eq_true rfl⟩) (lS hE hXE hLN hXZ hS hA hP hD) rfl rfl hl.1 rfl (lv_room (Nat.le_of_ble_eq_true rfl)) dL_holds_193 ⟨by show _ ≤ 1000; omega, by show _ ≤ 20000; omega⟩) hD hS hA (fun v558 u559 ga561 gb562 H locs h560 hP hD hS => ?_)
              obtain ⟨rfl, rfl⟩ := Prod.mk.inj (k557.symm.trans h560)
              refine lv_istore (lv' := [(9, .int (-1)), (0, .ref (av 0)), (1, .int (nI X)), (2, .int (nI N)), (3, .int (nI G)), (4, .int (nI (mxW S.2.2.1 j))), (5, .int (nI (mnW S.2.2.1 j))), (6, .int 1), (7, .int 1), (8, .int (nI j))]) hx hb dL_holds_196 hl (by decide) rfl (fun ls hl => ?_)
              refine lv_aload_n hx hb dL_holds_198 rfl (lv_at hl 1 rfl) ?_
              refine lv_bipush (v := 6) hx hb dL_holds_199 (by decide) ?_
              refine lv_iload hx hb dL_holds_201 (lv_at hl 9 rfl) ?_
              refine lv_iconst (v := 0) hx hb dL_holds_203 (by decide) ?_
              refine lv_iconst (v := 0) hx hb dL_holds_204 (by decide) ?_
              have k563 : fCall S 6 (nI j) 0 0 = (nI (nN (S.2.2.1 (45 + j))), S) := s_wear S 0 0 hG.gd (by omega)
              refine xw_callEi (va_runS (As := [.ref (av 0), .int 6, .int (nI j), .int 0, .int 0]) (rest := []) ⟨hx, hb, hml, hown, hts⟩ (c_call l hst D y av ga561 gb562 H.size S 6 (nI j) 0 0 hG.ok) (va_cwS 5 hts gL_holds_L_call rfl rfl rfl hd_L_call ⟨Nat.le_of_ble_eq_true rfl, Nat.le_of_ble_eq_true rfl⟩) (lS hE hXE hLN hXZ hS hA hP hD) rfl rfl hl.1 rfl (lv_room (Nat.le_of_ble_eq_true rfl)) dL_holds_205 ⟨by show _ ≤ 1000; omega, by show _ ≤ 20000; omega⟩) hD hS hA (fun v564 u565 ga567 gb568 H locs h566 hP hD hS => ?_)
              obtain ⟨rfl, rfl⟩ := Prod.mk.inj (k563.symm.trans h566)
              refine lv_istore (lv' := [(10, .int (nI (nN (S.2.2.1 (45 + j))))), (9, .int (-1)), (0, .ref (av 0)), (1, .int (nI X)), (2, .int (nI N)), (3, .int (nI G)), (4, .int (nI (mxW S.2.2.1 j))), (5, .int (nI (mnW S.2.2.1 j))), (6, .int 1), (7, .int 1), (8, .int (nI j))]) hx hb dL_holds_208 hl (by decide) rfl (fun ls hl => ?_)
              refine lv_iload hx hb dL_holds_210 (lv_at hl 0 rfl) ?_
              refine lv_iload hx hb dL_holds_212 (lv_at hl 6 rfl) ?_
              refine lv_icmp_le (tgt := 222) hx hb dL_holds_214 (by decide) (fun cb569 => absurd cb569 (nI_ge (a := mxW S.2.2.1 j) (b := nN (S.2.2.1 (45 + j))) (by omega) (by omega))) (fun cb569 => ?_)
              refine lv_iload hx hb dL_holds_217 (lv_at hl 0 rfl) ?_
              refine lv_goto (tgt := 224) hx hb dL_holds_219 (by decide) ?_
              refine lv_istore (lv' := [(4, .int (nI (nN (S.2.2.1 (45 + j))))), (10, .int (nI (nN (S.2.2.1 (45 + j))))), (9, .int (-1)), (0, .ref (av 0)), (1, .int (nI X)), (2, .int (nI N)), (3, .int (nI G)), (5, .int (nI (mnW S.2.2.1 j))), (6, .int 1), (7, .int 1), (8, .int (nI j))]) hx hb dL_holds_224 hl (by decide) rfl (fun ls hl => ?_)
              refine lv_iload hx hb dL_holds_226 (lv_at hl 1 rfl) ?_
              refine lv_iload hx hb dL_holds_228 (lv_at hl 7 rfl) ?_
              refine lv_icmp_ge (tgt := 238) hx hb dL_holds_230 (by decide) (fun cb570 => absurd cb570 (nI_ge (a := nN (S.2.2.1 (45 + j))) (b := mnW S.2.2.1 j) (by omega) (by omega))) (fun cb570 => ?_)
              refine lv_iload hx hb dL_holds_233 (lv_at hl 1 rfl) ?_
              refine lv_goto (tgt := 240) hx hb dL_holds_235 (by decide) ?_
              refine lv_istore (lv' := [(5, .int (nI (nN (S.2.2.1 (45 + j))))), (4, .int (nI (nN (S.2.2.1 (45 + j))))), (10, .int (nI (nN (S.2.2.1 (45 + j))))), (9, .int (-1)), (0, .ref (av 0)), (1, .int (nI X)), (2, .int (nI N)), (3, .int (nI G)), (6, .int 1), (7, .int 1), (8, .int (nI j))]) hx hb dL_holds_240 hl (by decide) rfl (fun ls hl => ?_)
              refine lv_iload hx hb dL_holds_242 (lv_at hl 2 rfl) ?_
              refine lv_if_lt (tgt := 291) hx hb dL_holds_244 (by decide) (fun cb571 => absurd cb571 (nI_nlt (a := nN (S.2.2.1 (45 + j))) (b := 0) (by omega) (by omega))) (fun cb571 => ?_)
              refine lv_iload hx hb dL_holds_247 (lv_at hl 10 rfl) ?_
              refine lv_iload_n hx hb dL_holds_249 rfl (lv_at hl 7 rfl) ?_
              refine lv_icmp_ne (tgt := 262) hx hb dL_holds_250 (by decide) (fun cb572 => absurd (congrArg nI (show j = G by omega)) cb572) (fun cb572 => ?_)
              refine lv_iload hx hb dL_holds_253 (lv_at hl 3 rfl) ?_
              refine lv_iconst (v := (-1)) hx hb dL_holds_255 (by decide) ?_
              refine lv_icmp_ne (tgt := 291) hx hb dL_holds_256 (by decide) (fun cb573 => absurd (by decide) cb573) (fun cb573 => ?_)
              refine lv_goto (tgt := 287) hx hb dL_holds_259 (by decide) ?_
              refine lv_iconst (v := 1) hx hb dL_holds_287 (by decide) ?_
              refine lv_goto (tgt := 292) hx hb dL_holds_288 (by decide) ?_
              refine lv_istore (lv' := [(7, .int 1), (5, .int (nI (nN (S.2.2.1 (45 + j))))), (4, .int (nI (nN (S.2.2.1 (45 + j))))), (10, .int (nI (nN (S.2.2.1 (45 + j))))), (9, .int (-1)), (0, .ref (av 0)), (1, .int (nI X)), (2, .int (nI N)), (3, .int (nI G)), (6, .int 1), (8, .int (nI j))]) hx hb dL_holds_292 hl (by decide) rfl (fun ls hl => ?_)
              refine lv_iinc (v := nI (j + 1)) (lv' := [(8, .int (nI (j + 1))), (7, .int 1), (5, .int (nI (nN (S.2.2.1 (45 + j))))), (4, .int (nI (nN (S.2.2.1 (45 + j))))), (10, .int (nI (nN (S.2.2.1 (45 + j))))), (9, .int (-1)), (0, .ref (av 0)), (1, .int (nI X)), (2, .int (nI N)), (3, .int (nI G)), (6, .int 1)]) hx hb dL_holds_294 hl (k := 10) rfl (nI_add j 1) (by decide) rfl (fun ls hl => ?_)
              refine lv_goto (tgt := 176) hx hb dL_holds_297 (by decide) ?_
              refine W.widen (k := 100 + 15 * (j + 1)) (n := 2000 + 276 * (j + 1)) (by omega) (by omega) ?_
              exact ih (j + 1) (by omega) ga567 gb568 H locs ls hP hD hS (by rw [m4, m5]; exact lv_sub hl [6, 7, 8, 9, 3, 2, 10, 1, 0] rfl)
            · have m5 : mnW S.2.2.1 (j + 1) = mnW S.2.2.1 j := if_neg hc2
              refine lv_iload hx hb dL_holds_176 (lv_at hl 8 rfl) ?_
              refine lv_iload_n hx hb dL_holds_178 rfl (lv_at hl 2 rfl) ?_
              refine lv_icmp_gt (tgt := 300) hx hb dL_holds_179 (by decide) (fun cb574 => absurd cb574 (nI_nlt (a := N) (b := j) (by omega) (by omega))) (fun cb574 => ?_)
              refine lv_iload hx hb dL_holds_182 (lv_at hl 7 rfl) ?_
              refine lv_if_eq (tgt := 300) hx hb dL_holds_184 (by decide) (fun cb575 => absurd cb575 (by decide)) (fun cb575 => ?_)
              refine lv_aload_n hx hb dL_holds_187 rfl (lv_at hl 0 rfl) ?_
              refine lv_iconst (v := 5) hx hb dL_holds_188 (by decide) ?_
              refine lv_iload hx hb dL_holds_189 (lv_at hl 8 rfl) ?_
              refine lv_iconst (v := 0) hx hb dL_holds_191 (by decide) ?_
              refine lv_iconst (v := 0) hx hb dL_holds_192 (by decide) ?_
              have k576 : fCall S 5 (nI j) 0 0 = ((-1), S) := (s_line S 0 0 hG.gd (by omega)).trans (by rw [hjg, ← e3, m_lineGap])
              refine xw_callEi (va_runS (As := [.ref (av 0), .int 5, .int (nI j), .int 0, .int 0]) (rest := []) ⟨hx, hb, hml, hown, hts⟩ (c_call l hst D y av ga gb H.size S 5 (nI j) 0 0 hG.ok) (va_cwS 5 hts gL_holds_L_call rfl rfl rfl hd_L_call ⟨Nat.le_of_ble_eq_true rfl, Nat.le_of_ble_eq_true rfl⟩) (lS hE hXE hLN hXZ hS hA hP hD) rfl rfl hl.1 rfl (lv_room (Nat.le_of_ble_eq_true rfl)) dL_holds_193 ⟨by show _ ≤ 1000; omega, by show _ ≤ 20000; omega⟩) hD hS hA (fun v577 u578 ga580 gb581 H locs h579 hP hD hS => ?_)
              obtain ⟨rfl, rfl⟩ := Prod.mk.inj (k576.symm.trans h579)
              refine lv_istore (lv' := [(9, .int (-1)), (0, .ref (av 0)), (1, .int (nI X)), (2, .int (nI N)), (3, .int (nI G)), (4, .int (nI (mxW S.2.2.1 j))), (5, .int (nI (mnW S.2.2.1 j))), (6, .int 1), (7, .int 1), (8, .int (nI j))]) hx hb dL_holds_196 hl (by decide) rfl (fun ls hl => ?_)
              refine lv_aload_n hx hb dL_holds_198 rfl (lv_at hl 1 rfl) ?_
              refine lv_bipush (v := 6) hx hb dL_holds_199 (by decide) ?_
              refine lv_iload hx hb dL_holds_201 (lv_at hl 9 rfl) ?_
              refine lv_iconst (v := 0) hx hb dL_holds_203 (by decide) ?_
              refine lv_iconst (v := 0) hx hb dL_holds_204 (by decide) ?_
              have k582 : fCall S 6 (nI j) 0 0 = (nI (nN (S.2.2.1 (45 + j))), S) := s_wear S 0 0 hG.gd (by omega)
              refine xw_callEi (va_runS (As := [.ref (av 0), .int 6, .int (nI j), .int 0, .int 0]) (rest := []) ⟨hx, hb, hml, hown, hts⟩ (c_call l hst D y av ga580 gb581 H.size S 6 (nI j) 0 0 hG.ok) (va_cwS 5 hts gL_holds_L_call rfl rfl rfl hd_L_call ⟨Nat.le_of_ble_eq_true rfl, Nat.le_of_ble_eq_true rfl⟩) (lS hE hXE hLN hXZ hS hA hP hD) rfl rfl hl.1 rfl (lv_room (Nat.le_of_ble_eq_true rfl)) dL_holds_205 ⟨by show _ ≤ 1000; omega, by show _ ≤ 20000; omega⟩) hD hS hA (fun v583 u584 ga586 gb587 H locs h585 hP hD hS => ?_)
              obtain ⟨rfl, rfl⟩ := Prod.mk.inj (k582.symm.trans h585)
              refine lv_istore (lv' := [(10, .int (nI (nN (S.2.2.1 (45 + j))))), (9, .int (-1)), (0, .ref (av 0)), (1, .int (nI X)), (2, .int (nI N)), (3, .int (nI G)), (4, .int (nI (mxW S.2.2.1 j))), (5, .int (nI (mnW S.2.2.1 j))), (6, .int 1), (7, .int 1), (8, .int (nI j))]) hx hb dL_holds_208 hl (by decide) rfl (fun ls hl => ?_)
              refine lv_iload hx hb dL_holds_210 (lv_at hl 0 rfl) ?_
              refine lv_iload hx hb dL_holds_212 (lv_at hl 6 rfl) ?_
              refine lv_icmp_le (tgt := 222) hx hb dL_holds_214 (by decide) (fun cb588 => absurd cb588 (nI_ge (a := mxW S.2.2.1 j) (b := nN (S.2.2.1 (45 + j))) (by omega) (by omega))) (fun cb588 => ?_)
              refine lv_iload hx hb dL_holds_217 (lv_at hl 0 rfl) ?_
              refine lv_goto (tgt := 224) hx hb dL_holds_219 (by decide) ?_
              refine lv_istore (lv' := [(4, .int (nI (nN (S.2.2.1 (45 + j))))), (10, .int (nI (nN (S.2.2.1 (45 + j))))), (9, .int (-1)), (0, .ref (av 0)), (1, .int (nI X)), (2, .int (nI N)), (3, .int (nI G)), (5, .int (nI (mnW S.2.2.1 j))), (6, .int 1), (7, .int 1), (8, .int (nI j))]) hx hb dL_holds_224 hl (by decide) rfl (fun ls hl => ?_)
              refine lv_iload hx hb dL_holds_226 (lv_at hl 1 rfl) ?_
              refine lv_iload hx hb dL_holds_228 (lv_at hl 7 rfl) ?_
              refine lv_icmp_ge (tgt := 238) hx hb dL_holds_230 (by decide) (fun cb589 => ?_) (fun cb589 => absurd (nI_le (a := mnW S.2.2.1 j) (b := nN (S.2.2.1 (45 + j))) (by omega) (by omega)) cb589)
              refine lv_iload hx hb dL_holds_238 (lv_at hl 7 rfl) ?_
              refine lv_istore (lv' := [(5, .int (nI (mnW S.2.2.1 j))), (4, .int (nI (nN (S.2.2.1 (45 + j))))), (10, .int (nI (nN (S.2.2.1 (45 + j))))), (9, .int (-1)), (0, .ref (av 0)), (1, .int (nI X)), (2, .int (nI N)), (3, .int (nI G)), (6, .int 1), (7, .int 1), (8, .int (nI j))]) hx hb dL_holds_240 hl (by decide) rfl (fun ls hl => ?_)
              refine lv_iload hx hb dL_holds_242 (lv_at hl 2 rfl) ?_
              refine lv_if_lt (tgt := 291) hx hb dL_holds_244 (by decide) (fun cb590 => absurd cb590 (nI_nlt (a := nN (S.2.2.1 (45 + j))) (b := 0) (by omega) (by omega))) (fun cb590 => ?_)
              refine lv_iload hx hb dL_holds_247 (lv_at hl 10 rfl) ?_
              refine lv_iload_n hx hb dL_holds_249 rfl (lv_at hl 7 rfl) ?_
              refine lv_icmp_ne (tgt := 262) hx hb dL_holds_250 (by decide) (fun cb591 => absurd (congrArg nI (show j = G by omega)) cb591) (fun cb591 => ?_)
              refine lv_iload hx hb dL_holds_253 (lv_at hl 3 rfl) ?_
              refine lv_iconst (v := (-1)) hx hb dL_holds_255 (by decide) ?_
              refine lv_icmp_ne (tgt := 291) hx hb dL_holds_256 (by decide) (fun cb592 => absurd (by decide) cb592) (fun cb592 => ?_)
              refine lv_goto (tgt := 287) hx hb dL_holds_259 (by decide) ?_
              refine lv_iconst (v := 1) hx hb dL_holds_287 (by decide) ?_
              refine lv_goto (tgt := 292) hx hb dL_holds_288 (by decide) ?_
              refine lv_istore (lv' := [(7, .int 1), (5, .int (nI (mnW S.2.2.1 j))), (4, .int (nI (nN (S.2.2.1 (45 + j))))), (10, .int (nI (nN (S.2.2.1 (45 + j))))), (9, .int (-1)), (0, .ref (av 0)), (1, .int (nI X)), (2, .int (nI N)), (3, .int (nI G)), (6, .int 1), (8, .int (nI j))]) hx hb dL_holds_292 hl (by decide) rfl (fun ls hl => ?_)
              refine lv_iinc (v := nI (j + 1)) (lv' := [(8, .int (nI (j + 1))), (7, .int 1), (5, .int (nI (mnW S.2.2.1 j))), (4, .int (nI (nN (S.2.2.1 (45 + j))))), (10, .int (nI (nN (S.2.2.1 (45 + j))))), (9, .int (-1)), (0, .ref (av 0)), (1, .int (nI X)), (2, .int (nI N)), (3, .int (nI G)), (6, .int 1)]) hx hb dL_holds_294 hl (k := 10) rfl (nI_add j 1) (by decide) rfl (fun ls hl => ?_)
              refine lv_goto (tgt := 176) hx hb dL_holds_297 (by decide) ?_
              refine W.widen (k := 100 + 15 * (j + 1)) (n := 2000 + 276 * (j + 1)) (by omega) (by omega) ?_
              exact ih (j + 1) (by omega) ga586 gb587 H locs ls hP hD hS (by rw [m4, m5]; exact lv_sub hl [6, 7, 8, 9, 3, 2, 10, 1, 0] rfl)
          · have m4 : mxW S.2.2.1 (j + 1) = mxW S.2.2.1 j := if_neg hc1
            by_cases hc2 : nN (S.2.2.1 (45 + j)) < mnW S.2.2.1 j
            · have m5 : mnW S.2.2.1 (j + 1) = nN (S.2.2.1 (45 + j)) := if_pos hc2
              refine lv_iload hx hb dL_holds_176 (lv_at hl 8 rfl) ?_
              refine lv_iload_n hx hb dL_holds_178 rfl (lv_at hl 2 rfl) ?_
              refine lv_icmp_gt (tgt := 300) hx hb dL_holds_179 (by decide) (fun cb593 => absurd cb593 (nI_nlt (a := N) (b := j) (by omega) (by omega))) (fun cb593 => ?_)
              refine lv_iload hx hb dL_holds_182 (lv_at hl 7 rfl) ?_
              refine lv_if_eq (tgt := 300) hx hb dL_holds_184 (by decide) (fun cb594 => absurd cb594 (by decide)) (fun cb594 => ?_)
              refine lv_aload_n hx hb dL_holds_187 rfl (lv_at hl 0 rfl) ?_
              refine lv_iconst (v := 5) hx hb dL_holds_188 (by decide) ?_
              refine lv_iload hx hb dL_holds_189 (lv_at hl 8 rfl) ?_
              refine lv_iconst (v := 0) hx hb dL_holds_191 (by decide) ?_
              refine lv_iconst (v := 0) hx hb dL_holds_192 (by decide) ?_
              have k595 : fCall S 5 (nI j) 0 0 = ((-1), S) := (s_line S 0 0 hG.gd (by omega)).trans (by rw [hjg, ← e3, m_lineGap])
              refine xw_callEi (va_runS (As := [.ref (av 0), .int 5, .int (nI j), .int 0, .int 0]) (rest := []) ⟨hx, hb, hml, hown, hts⟩ (c_call l hst D y av ga gb H.size S 5 (nI j) 0 0 hG.ok) (va_cwS 5 hts gL_holds_L_call rfl rfl rfl hd_L_call ⟨Nat.le_of_ble_eq_true rfl, Nat.le_of_ble_eq_true rfl⟩) (lS hE hXE hLN hXZ hS hA hP hD) rfl rfl hl.1 rfl (lv_room (Nat.le_of_ble_eq_true rfl)) dL_holds_193 ⟨by show _ ≤ 1000; omega, by show _ ≤ 20000; omega⟩) hD hS hA (fun v596 u597 ga599 gb600 H locs h598 hP hD hS => ?_)
              obtain ⟨rfl, rfl⟩ := Prod.mk.inj (k595.symm.trans h598)
              refine lv_istore (lv' := [(9, .int (-1)), (0, .ref (av 0)), (1, .int (nI X)), (2, .int (nI N)), (3, .int (nI G)), (4, .int (nI (mxW S.2.2.1 j))), (5, .int (nI (mnW S.2.2.1 j))), (6, .int 1), (7, .int 1), (8, .int (nI j))]) hx hb dL_holds_196 hl (by decide) rfl (fun ls hl => ?_)
              refine lv_aload_n hx hb dL_holds_198 rfl (lv_at hl 1 rfl) ?_
              refine lv_bipush (v := 6) hx hb dL_holds_199 (by decide) ?_
              refine lv_iload hx hb dL_holds_201 (lv_at hl 9 rfl) ?_
              refine lv_iconst (v := 0) hx hb dL_holds_203 (by decide) ?_
              refine lv_iconst (v := 0) hx hb dL_holds_204 (by decide) ?_
              have k601 : fCall S 6 (nI j) 0 0 = (nI (nN (S.2.2.1 (45 + j))), S) := s_wear S 0 0 hG.gd (by omega)
              refine xw_callEi (va_runS (As := [.ref (av 0), .int 6, .int (nI j), .int 0, .int 0]) (rest := []) ⟨hx, hb, hml, hown, hts⟩ (c_call l hst D y av ga599 gb600 H.size S 6 (nI j) 0 0 hG.ok) (va_cwS 5 hts gL_holds_L_call rfl rfl rfl hd_L_call ⟨Nat.le_of_ble_eq_true rfl, Nat.le_of_ble_eq_true rfl⟩) (lS hE hXE hLN hXZ hS hA hP hD) rfl rfl hl.1 rfl (lv_room (Nat.le_of_ble_eq_true rfl)) dL_holds_205 ⟨by show _ ≤ 1000; omega, by show _ ≤ 20000; omega⟩) hD hS hA (fun v602 u603 ga605 gb606 H locs h604 hP hD hS => ?_)
              obtain ⟨rfl, rfl⟩ := Prod.mk.inj (k601.symm.trans h604)
              refine lv_istore (lv' := [(10, .int (nI (nN (S.2.2.1 (45 + j))))), (9, .int (-1)), (0, .ref (av 0)), (1, .int (nI X)), (2, .int (nI N)), (3, .int (nI G)), (4, .int (nI (mxW S.2.2.1 j))), (5, .int (nI (mnW S.2.2.1 j))), (6, .int 1), (7, .int 1), (8, .int (nI j))]) hx hb dL_holds_208 hl (by decide) rfl (fun ls hl => ?_)
              refine lv_iload hx hb dL_holds_210 (lv_at hl 0 rfl) ?_
              refine lv_iload hx hb dL_holds_212 (lv_at hl 6 rfl) ?_
              refine lv_icmp_le (tgt := 222) hx hb dL_holds_214 (by decide) (fun cb607 => ?_) (fun cb607 => absurd (nI_le (a := nN (S.2.2.1 (45 + j))) (b := mxW S.2.2.1 j) (by omega) (by omega)) cb607)
              refine lv_iload hx hb dL_holds_222 (lv_at hl 6 rfl) ?_
              refine lv_istore (lv' := [(4, .int (nI (mxW S.2.2.1 j))), (10, .int (nI (nN (S.2.2.1 (45 + j))))), (9, .int (-1)), (0, .ref (av 0)), (1, .int (nI X)), (2, .int (nI N)), (3, .int (nI G)), (5, .int (nI (mnW S.2.2.1 j))), (6, .int 1), (7, .int 1), (8, .int (nI j))]) hx hb dL_holds_224 hl (by decide) rfl (fun ls hl => ?_)
              refine lv_iload hx hb dL_holds_226 (lv_at hl 1 rfl) ?_
              refine lv_iload hx hb dL_holds_228 (lv_at hl 7 rfl) ?_
              refine lv_icmp_ge (tgt := 238) hx hb dL_holds_230 (by decide) (fun cb608 => absurd cb608 (nI_ge (a := nN (S.2.2.1 (45 + j))) (b := mnW S.2.2.1 j) (by omega) (by omega))) (fun cb608 => ?_)
              refine lv_iload hx hb dL_holds_233 (lv_at hl 1 rfl) ?_
              refine lv_goto (tgt := 240) hx hb dL_holds_235 (by decide) ?_
              refine lv_istore (lv' := [(5, .int (nI (nN (S.2.2.1 (45 + j))))), (4, .int (nI (mxW S.2.2.1 j))), (10, .int (nI (nN (S.2.2.1 (45 + j))))), (9, .int (-1)), (0, .ref (av 0)), (1, .int (nI X)), (2, .int (nI N)), (3, .int (nI G)), (6, .int 1), (7, .int 1), (8, .int (nI j))]) hx hb dL_holds_240 hl (by decide) rfl (fun ls hl => ?_)
              refine lv_iload hx hb dL_holds_242 (lv_at hl 2 rfl) ?_
              refine lv_if_lt (tgt := 291) hx hb dL_holds_244 (by decide) (fun cb609 => absurd cb609 (nI_nlt (a := nN (S.2.2.1 (45 + j))) (b := 0) (by omega) (by omega))) (fun cb609 => ?_)
              refine lv_iload hx hb dL_holds_247 (lv_at hl 10 rfl) ?_
              refine lv_iload_n hx hb dL_holds_249 rfl (lv_at hl 7 rfl) ?_
              refine lv_icmp_ne (tgt := 262) hx hb dL_holds_250 (by decide) (fun cb610 => absurd (congrArg nI (show j = G by omega)) cb610) (fun cb610 => ?_)
              refine lv_iload hx hb dL_holds_253 (lv_at hl 3 rfl) ?_
              refine lv_iconst (v := (-1)) hx hb dL_holds_255 (by decide) ?_
              refine lv_icmp_ne (tgt := 291) hx hb dL_holds_256 (by decide) (fun cb611 => absurd (by decide) cb611) (fun cb611 => ?_)
              refine lv_goto (tgt := 287) hx hb dL_holds_259 (by decide) ?_
              refine lv_iconst (v := 1) hx hb dL_holds_287 (by decide) ?_
              refine lv_goto (tgt := 292) hx hb dL_holds_288 (by decide) ?_
              refine lv_istore (lv' := [(7, .int 1), (5, .int (nI (nN (S.2.2.1 (45 + j))))), (4, .int (nI (mxW S.2.2.1 j))), (10, .int (nI (nN (S.2.2.1 (45 + j))))), (9, .int (-1)), (0, .ref (av 0)), (1, .int (nI X)), (2, .int (nI N)), (3, .int (nI G)), (6, .int 1), (8, .int (nI j))]) hx hb dL_holds_292 hl (by decide) rfl (fun ls hl => ?_)
              refine lv_iinc (v := nI (j + 1)) (lv' := [(8, .int (nI (j + 1))), (7, .int 1), (5, .int (nI (nN (S.2.2.1 (45 + j))))), (4, .int (nI (mxW S.2.2.1 j))), (10, .int (nI (nN (S.2.2.1 (45 + j))))), (9, .int (-1)), (0, .ref (av 0)), (1, .int (nI X)), (2, .int (nI N)), (3, .int (nI G)), (6, .int 1)]) hx hb dL_holds_294 hl (k := 10) rfl (nI_add j 1) (by decide) rfl (fun ls hl => ?_)
              refine lv_goto (tgt := 176) hx hb dL_holds_297 (by decide) ?_
              refine W.widen (k := 100 + 15 * (j + 1)) (n := 2000 + 276 * (j + 1)) (by omega) (by omega) ?_
              exact ih (j + 1) (by omega) ga605 gb606 H locs ls hP hD hS (by rw [m4, m5]; exact lv_sub hl [6, 7, 8, 9, 3, 2, 10, 1, 0] rfl)
            · have m5 : mnW S.2.2.1 (j + 1) = mnW S.2.2.1 j := if_neg hc2
              refine lv_iload hx hb dL_holds_176 (lv_at hl 8 rfl) ?_
              refine lv_iload_n hx hb dL_holds_178 rfl (lv_at hl 2 rfl) ?_
              refine lv_icmp_gt (tgt := 300) hx hb dL_holds_179 (by decide) (fun cb612 => absurd cb612 (nI_nlt (a := N) (b := j) (by omega) (by omega))) (fun cb612 => ?_)
              refine lv_iload hx hb dL_holds_182 (lv_at hl 7 rfl) ?_
              refine lv_if_eq (tgt := 300) hx hb dL_holds_184 (by decide) (fun cb613 => absurd cb613 (by decide)) (fun cb613 => ?_)
              refine lv_aload_n hx hb dL_holds_187 rfl (lv_at hl 0 rfl) ?_
              refine lv_iconst (v := 5) hx hb dL_holds_188 (by decide) ?_
              refine lv_iload hx hb dL_holds_189 (lv_at hl 8 rfl) ?_
              refine lv_iconst (v := 0) hx hb dL_holds_191 (by decide) ?_
              refine lv_iconst (v := 0) hx hb dL_holds_192 (by decide) ?_
              have k614 : fCall S 5 (nI j) 0 0 = ((-1), S) := (s_line S 0 0 hG.gd (by omega)).trans (by rw [hjg, ← e3, m_lineGap])
              refine xw_callEi (va_runS (As := [.ref (av 0), .int 5, .int (nI j), .int 0, .int 0]) (rest := []) ⟨hx, hb, hml, hown, hts⟩ (c_call l hst D y av ga gb H.size S 5 (nI j) 0 0 hG.ok) (va_cwS 5 hts gL_holds_L_call rfl rfl rfl hd_L_call ⟨Nat.le_of_ble_eq_true rfl, Nat.le_of_ble_eq_true rfl⟩) (lS hE hXE hLN hXZ hS hA hP hD) rfl rfl hl.1 rfl (lv_room (Nat.le_of_ble_eq_true rfl)) dL_holds_193 ⟨by show _ ≤ 1000; omega, by show _ ≤ 20000; omega⟩) hD hS hA (fun v615 u616 ga618 gb619 H locs h617 hP hD hS => ?_)
              obtain ⟨rfl, rfl⟩ := Prod.mk.inj (k614.symm.trans h617)
              refine lv_istore (lv' := [(9, .int (-1)), (0, .ref (av 0)), (1, .int (nI X)), (2, .int (nI N)), (3, .int (nI G)), (4, .int (nI (mxW S.2.2.1 j))), (5, .int (nI (mnW S.2.2.1 j))), (6, .int 1), (7, .int 1), (8, .int (nI j))]) hx hb dL_holds_196 hl (by decide) rfl (fun ls hl => ?_)
              refine lv_aload_n hx hb dL_holds_198 rfl (lv_at hl 1 rfl) ?_
              refine lv_bipush (v := 6) hx hb dL_holds_199 (by decide) ?_
              refine lv_iload hx hb dL_holds_201 (lv_at hl 9 rfl) ?_
              refine lv_iconst (v := 0) hx hb dL_holds_203 (by decide) ?_
              refine lv_iconst (v := 0) hx hb dL_holds_204 (by decide) ?_
              have k620 : fCall S 6 (nI j) 0 0 = (nI (nN (S.2.2.1 (45 + j))), S) := s_wear S 0 0 hG.gd (by omega)
              refine xw_callEi (va_runS (As := [.ref (av 0), .int 6, .int (nI j), .int 0, .int 0]) (rest := []) ⟨hx, hb, hml, hown, hts⟩ (c_call l hst D y av ga618 gb619 H.size S 6 (nI j) 0 0 hG.ok) (va_cwS 5 hts gL_holds_L_call rfl rfl rfl hd_L_call ⟨Nat.le_of_ble_eq_true rfl, Nat.le_of_ble_eq_true rfl⟩) (lS hE hXE hLN hXZ hS hA hP hD) rfl rfl hl.1 rfl (lv_room (Nat.le_of_ble_eq_true rfl)) dL_holds_205 ⟨by show _ ≤ 1000; omega, by show _ ≤ 20000; omega⟩) hD hS hA (fun v621 u622 ga624 gb625 H locs h623 hP hD hS => ?_)
              obtain ⟨rfl, rfl⟩ := Prod.mk.inj (k620.symm.trans h623)
              refine lv_istore (lv' := [(10, .int (nI (nN (S.2.2.1 (45 + j))))), (9, .int (-1)), (0, .ref (av 0)), (1, .int (nI X)), (2, .int (nI N)), (3, .int (nI G)), (4, .int (nI (mxW S.2.2.1 j))), (5, .int (nI (mnW S.2.2.1 j))), (6, .int 1), (7, .int 1), (8, .int (nI j))]) hx hb dL_holds_208 hl (by decide) rfl (fun ls hl => ?_)
              refine lv_iload hx hb dL_holds_210 (lv_at hl 0 rfl) ?_
              refine lv_iload hx hb dL_holds_212 (lv_at hl 6 rfl) ?_
              refine lv_icmp_le (tgt := 222) hx hb dL_holds_214 (by decide) (fun cb626 => ?_) (fun cb626 => absurd (nI_le (a := nN (S.2.2.1 (45 + j))) (b := mxW S.2.2.1 j) (by omega) (by omega)) cb626)
              refine lv_iload hx hb dL_holds_222 (lv_at hl 6 rfl) ?_
              refine lv_istore (lv' := [(4, .int (nI (mxW S.2.2.1 j))), (10, .int (nI (nN (S.2.2.1 (45 + j))))), (9, .int (-1)), (0, .ref (av 0)), (1, .int (nI X)), (2, .int (nI N)), (3, .int (nI G)), (5, .int (nI (mnW S.2.2.1 j))), (6, .int 1), (7, .int 1), (8, .int (nI j))]) hx hb dL_holds_224 hl (by decide) rfl (fun ls hl => ?_)
              refine lv_iload hx hb dL_holds_226 (lv_at hl 1 rfl) ?_
              refine lv_iload hx hb dL_holds_228 (lv_at hl 7 rfl) ?_
              refine lv_icmp_ge (tgt := 238) hx hb dL_holds_230 (by decide) (fun cb627 => ?_) (fun cb627 => absurd (nI_le (a := mnW S.2.2.1 j) (b := nN (S.2.2.1 (45 + j))) (by omega) (by omega)) cb627)
              refine lv_iload hx hb dL_holds_238 (lv_at hl 7 rfl) ?_
              refine lv_istore (lv' := [(5, .int (nI (mnW S.2.2.1 j))), (4, .int (nI (mxW S.2.2.1 j))), (10, .int (nI (nN (S.2.2.1 (45 + j))))), (9, .int (-1)), (0, .ref (av 0)), (1, .int (nI X)), (2, .int (nI N)), (3, .int (nI G)), (6, .int 1), (7, .int 1), (8, .int (nI j))]) hx hb dL_holds_240 hl (by decide) rfl (fun ls hl => ?_)
              refine lv_iload hx hb dL_holds_242 (lv_at hl 2 rfl) ?_
              refine lv_if_lt (tgt := 291) hx hb dL_holds_244 (by decide) (fun cb628 => absurd cb628 (nI_nlt (a := nN (S.2.2.1 (45 + j))) (b := 0) (by omega) (by omega))) (fun cb628 => ?_)
              refine lv_iload hx hb dL_holds_247 (lv_at hl 10 rfl) ?_
              refine lv_iload_n hx hb dL_holds_249 rfl (lv_at hl 7 rfl) ?_
              refine lv_icmp_ne (tgt := 262) hx hb dL_holds_250 (by decide) (fun cb629 => absurd (congrArg nI (show j = G by omega)) cb629) (fun cb629 => ?_)
              refine lv_iload hx hb dL_holds_253 (lv_at hl 3 rfl) ?_
              refine lv_iconst (v := (-1)) hx hb dL_holds_255 (by decide) ?_
              refine lv_icmp_ne (tgt := 291) hx hb dL_holds_256 (by decide) (fun cb630 => absurd (by decide) cb630) (fun cb630 => ?_)
              refine lv_goto (tgt := 287) hx hb dL_holds_259 (by decide) ?_
              refine lv_iconst (v := 1) hx hb dL_holds_287 (by decide) ?_
              refine lv_goto (tgt := 292) hx hb dL_holds_288 (by decide) ?_
              refine lv_istore (lv' := [(7, .int 1), (5, .int (nI (mnW S.2.2.1 j))), (4, .int (nI (mxW S.2.2.1 j))), (10, .int (nI (nN (S.2.2.1 (45 + j))))), (9, .int (-1)), (0, .ref (av 0)), (1, .int (nI X)), (2, .int (nI N)), (3, .int (nI G)), (6, .int 1), (8, .int (nI j))]) hx hb dL_holds_292 hl (by decide) rfl (fun ls hl => ?_)
              refine lv_iinc (v := nI (j + 1)) (lv' := [(8, .int (nI (j + 1))), (7, .int 1), (5, .int (nI (mnW S.2.2.1 j))), (4, .int (nI (mxW S.2.2.1 j))), (10, .int (nI (nN (S.2.2.1 (45 + j))))), (9, .int (-1)), (0, .ref (av 0)), (1, .int (nI X)), (2, .int (nI N)), (3, .int (nI G)), (6, .int 1)]) hx hb dL_holds_294 hl (k := 10) rfl (nI_add j 1) (by decide) rfl (fun ls hl => ?_)
              refine lv_goto (tgt := 176) hx hb dL_holds_297 (by decide) ?_
              refine W.widen (k := 100 + 15 * (j + 1)) (n := 2000 + 276 * (j + 1)) (by omega) (by omega) ?_
              exact ih (j + 1) (by omega) ga624 gb625 H locs ls hP hD hS (by rw [m4, m5]; exact lv_sub hl [6, 7, 8, 9, 3, 2, 10, 1, 0] rfl)
        · skip
          obtain ⟨LN, hLN0, hLN1, hLN2⟩ := m_lineAt hG.gd (P := j) (by omega) (by omega)
          by_cases hc1 : mxW S.2.2.1 j < nN (S.2.2.1 (45 + j))
          · have m4 : mxW S.2.2.1 (j + 1) = nN (S.2.2.1 (45 + j)) := if_pos hc1
            by_cases hc2 : nN (S.2.2.1 (45 + j)) < mnW S.2.2.1 j
            · have m5 : mnW S.2.2.1 (j + 1) = nN (S.2.2.1 (45 + j)) := if_pos hc2
              refine lv_iload hx hb dL_holds_176 (lv_at hl 8 rfl) ?_
              refine lv_iload_n hx hb dL_holds_178 rfl (lv_at hl 2 rfl) ?_
              refine lv_icmp_gt (tgt := 300) hx hb dL_holds_179 (by decide) (fun cb631 => absurd cb631 (nI_nlt (a := N) (b := j) (by omega) (by omega))) (fun cb631 => ?_)
              refine lv_iload hx hb dL_holds_182 (lv_at hl 7 rfl) ?_
              refine lv_if_eq (tgt := 300) hx hb dL_holds_184 (by decide) (fun cb632 => absurd cb632 (by decide)) (fun cb632 => ?_)
              refine lv_aload_n hx hb dL_holds_187 rfl (lv_at hl 0 rfl) ?_
              refine lv_iconst (v := 5) hx hb dL_holds_188 (by decide) ?_
              refine lv_iload hx hb dL_holds_189 (lv_at hl 8 rfl) ?_
              refine lv_iconst (v := 0) hx hb dL_holds_191 (by decide) ?_
              refine lv_iconst (v := 0) hx hb dL_holds_192 (by decide) ?_
              have k633 : fCall S 5 (nI j) 0 0 = (nI LN, S) := (s_line S 0 0 hG.gd (by omega)).trans (by rw [hLN1])
              refine xw_callEi (va_runS (As := [.ref (av 0), .int 5, .int (nI j), .int 0, .int 0]) (rest := []) ⟨hx, hb, hml, hown, hts⟩ (c_call l hst D y av ga gb H.size S 5 (nI j) 0 0 hG.ok) (va_cwS 5 hts gL_holds_L_call rfl rfl rfl hd_L_call ⟨Nat.le_of_ble_eq_true rfl, Nat.le_of_ble_eq_true rfl⟩) (lS hE hXE hLN hXZ hS hA hP hD) rfl rfl hl.1 rfl (lv_room (Nat.le_of_ble_eq_true rfl)) dL_holds_193 ⟨by show _ ≤ 1000; omega, by show _ ≤ 20000; omega⟩) hD hS hA (fun v634 u635 ga637 gb638 H locs h636 hP hD hS => ?_)
              obtain ⟨rfl, rfl⟩ := Prod.mk.inj (k633.symm.trans h636)
              refine lv_istore (lv' := [(9, .int (nI LN)), (0, .ref (av 0)), (1, .int (nI X)), (2, .int (nI N)), (3, .int (nI G)), (4, .int (nI (mxW S.2.2.1 j))), (5, .int (nI (mnW S.2.2.1 j))), (6, .int 1), (7, .int 1), (8, .int (nI j))]) hx hb dL_holds_196 hl (by decide) rfl (fun ls hl => ?_)
              refine lv_aload_n hx hb dL_holds_198 rfl (lv_at hl 1 rfl) ?_
              refine lv_bipush (v := 6) hx hb dL_holds_199 (by decide) ?_
              refine lv_iload hx hb dL_holds_201 (lv_at hl 9 rfl) ?_
              refine lv_iconst (v := 0) hx hb dL_holds_203 (by decide) ?_
              refine lv_iconst (v := 0) hx hb dL_holds_204 (by decide) ?_
              have k639 : fCall S 6 (nI j) 0 0 = (nI (nN (S.2.2.1 (45 + j))), S) := s_wear S 0 0 hG.gd (by omega)
              refine xw_callEi (va_runS (As := [.ref (av 0), .int 6, .int (nI j), .int 0, .int 0]) (rest := []) ⟨hx, hb, hml, hown, hts⟩ (c_call l hst D y av ga637 gb638 H.size S 6 (nI j) 0 0 hG.ok) (va_cwS 5 hts gL_holds_L_call rfl rfl rfl hd_L_call ⟨Nat.le_of_ble_eq_true rfl, Nat.le_of_ble_eq_true rfl⟩) (lS hE hXE hLN hXZ hS hA hP hD) rfl rfl hl.1 rfl (lv_room (Nat.le_of_ble_eq_true rfl)) dL_holds_205 ⟨by show _ ≤ 1000; omega, by show _ ≤ 20000; omega⟩) hD hS hA (fun v640 u641 ga643 gb644 H locs h642 hP hD hS => ?_)
              obtain ⟨rfl, rfl⟩ := Prod.mk.inj (k639.symm.trans h642)
              refine lv_istore (lv' := [(10, .int (nI (nN (S.2.2.1 (45 + j))))), (9, .int (nI LN)), (0, .ref (av 0)), (1, .int (nI X)), (2, .int (nI N)), (3, .int (nI G)), (4, .int (nI (mxW S.2.2.1 j))), (5, .int (nI (mnW S.2.2.1 j))), (6, .int 1), (7, .int 1), (8, .int (nI j))]) hx hb dL_holds_208 hl (by decide) rfl (fun ls hl => ?_)
              refine lv_iload hx hb dL_holds_210 (lv_at hl 0 rfl) ?_
              refine lv_iload hx hb dL_holds_212 (lv_at hl 6 rfl) ?_
              refine lv_icmp_le (tgt := 222) hx hb dL_holds_214 (by decide) (fun cb645 => absurd cb645 (nI_ge (a := mxW S.2.2.1 j) (b := nN (S.2.2.1 (45 + j))) (by omega) (by omega))) (fun cb645 => ?_)
              refine lv_iload hx hb dL_holds_217 (lv_at hl 0 rfl) ?_
              refine lv_goto (tgt := 224) hx hb dL_holds_219 (by decide) ?_
              refine lv_istore (lv' := [(4, .int (nI (nN (S.2.2.1 (45 + j))))), (10, .int (nI (nN (S.2.2.1 (45 + j))))), (9, .int (nI LN)), (0, .ref (av 0)), (1, .int (nI X)), (2, .int (nI N)), (3, .int (nI G)), (5, .int (nI (mnW S.2.2.1 j))), (6, .int 1), (7, .int 1), (8, .int (nI j))]) hx hb dL_holds_224 hl (by decide) rfl (fun ls hl => ?_)
              refine lv_iload hx hb dL_holds_226 (lv_at hl 1 rfl) ?_
              refine lv_iload hx hb dL_holds_228 (lv_at hl 7 rfl) ?_
              refine lv_icmp_ge (tgt := 238) hx hb dL_holds_230 (by decide) (fun cb646 => absurd cb646 (nI_ge (a := nN (S.2.2.1 (45 + j))) (b := mnW S.2.2.1 j) (by omega) (by omega))) (fun cb646 => ?_)
              refine lv_iload hx hb dL_holds_233 (lv_at hl 1 rfl) ?_
              refine lv_goto (tgt := 240) hx hb dL_holds_235 (by decide) ?_
              refine lv_istore (lv' := [(5, .int (nI (nN (S.2.2.1 (45 + j))))), (4, .int (nI (nN (S.2.2.1 (45 + j))))), (10, .int (nI (nN (S.2.2.1 (45 + j))))), (9, .int (nI LN)), (0, .ref (av 0)), (1, .int (nI X)), (2, .int (nI N)), (3, .int (nI G)), (6, .int 1), (7, .int 1), (8, .int (nI j))]) hx hb dL_holds_240 hl (by decide) rfl (fun ls hl => ?_)
              refine lv_iload hx hb dL_holds_242 (lv_at hl 2 rfl) ?_
              refine lv_if_lt (tgt := 291) hx hb dL_holds_244 (by decide) (fun cb647 => absurd cb647 (nI_nlt (a := nN (S.2.2.1 (45 + j))) (b := 0) (by omega) (by omega))) (fun cb647 => ?_)
              refine lv_iload hx hb dL_holds_247 (lv_at hl 10 rfl) ?_
              refine lv_iload_n hx hb dL_holds_249 rfl (lv_at hl 7 rfl) ?_
              refine lv_icmp_ne (tgt := 262) hx hb dL_holds_250 (by decide) (fun cb648 => ?_) (fun cb648 => absurd cb648 (fun q => absurd ((nI_eq (a := j) (b := G) (by omega) (by omega)).mp q) (by omega)))
              refine lv_iload hx hb dL_holds_262 (lv_at hl 3 rfl) ?_
              refine lv_if_lt (tgt := 291) hx hb dL_holds_264 (by decide) (fun cb649 => absurd cb649 (nI_nlt (a := LN) (b := 0) (by omega) (by omega))) (fun cb649 => ?_)
              refine lv_iload hx hb dL_holds_267 (lv_at hl 3 rfl) ?_
              refine lv_iload_n hx hb dL_holds_269 rfl (lv_at hl 6 rfl) ?_
              refine lv_icmp_ge (tgt := 291) hx hb dL_holds_270 (by decide) (fun cb650 => absurd cb650 (nI_ge (a := LN) (b := N) (by omega) (by omega))) (fun cb650 => ?_)
              refine lv_aload_n hx hb dL_holds_273 rfl (lv_at hl 4 rfl) ?_
              refine lv_iconst (v := 4) hx hb dL_holds_274 (by decide) ?_
              refine lv_iload hx hb dL_holds_275 (lv_at hl 3 rfl) ?_
              refine lv_iconst (v := 0) hx hb dL_holds_277 (by decide) ?_
              refine lv_iconst (v := 0) hx hb dL_holds_278 (by decide) ?_
              have k651 : fCall S 4 (nI LN) 0 0 = (nI j, S) := (s_place S 0 0 hG.gd (okL_nI hG.gd (by omega))).trans (by rw [nN_nI (by omega), hLN2])
              refine xw_callEi (va_runS (As := [.ref (av 0), .int 4, .int (nI LN), .int 0, .int 0]) (rest := []) ⟨hx, hb, hml, hown, hts⟩ (c_call l hst D y av ga643 gb644 H.size S 4 (nI LN) 0 0 hG.ok) (va_cwS 5 hts gL_holds_L_call rfl rfl rfl hd_L_call ⟨Nat.le_of_ble_eq_true rfl, Nat.le_of_ble_eq_true rfl⟩) (lS hE hXE hLN hXZ hS hA hP hD) rfl rfl hl.1 rfl (lv_room (Nat.le_of_ble_eq_true rfl)) dL_holds_279 ⟨by show _ ≤ 1000; omega, by show _ ≤ 20000; omega⟩) hD hS hA (fun v652 u653 ga655 gb656 H locs h654 hP hD hS => ?_)
              obtain ⟨rfl, rfl⟩ := Prod.mk.inj (k651.symm.trans h654)
              refine lv_iload hx hb dL_holds_282 (lv_at hl 10 rfl) ?_
              refine lv_icmp_ne (tgt := 291) hx hb dL_holds_284 (by decide) (fun cb657 => absurd (congrArg nI (show j = j by omega)) cb657) (fun cb657 => ?_)
              refine lv_iconst (v := 1) hx hb dL_holds_287 (by decide) ?_
              refine lv_goto (tgt := 292) hx hb dL_holds_288 (by decide) ?_
              refine lv_istore (lv' := [(7, .int 1), (5, .int (nI (nN (S.2.2.1 (45 + j))))), (4, .int (nI (nN (S.2.2.1 (45 + j))))), (10, .int (nI (nN (S.2.2.1 (45 + j))))), (9, .int (nI LN)), (0, .ref (av 0)), (1, .int (nI X)), (2, .int (nI N)), (3, .int (nI G)), (6, .int 1), (8, .int (nI j))]) hx hb dL_holds_292 hl (by decide) rfl (fun ls hl => ?_)
              refine lv_iinc (v := nI (j + 1)) (lv' := [(8, .int (nI (j + 1))), (7, .int 1), (5, .int (nI (nN (S.2.2.1 (45 + j))))), (4, .int (nI (nN (S.2.2.1 (45 + j))))), (10, .int (nI (nN (S.2.2.1 (45 + j))))), (9, .int (nI LN)), (0, .ref (av 0)), (1, .int (nI X)), (2, .int (nI N)), (3, .int (nI G)), (6, .int 1)]) hx hb dL_holds_294 hl (k := 10) rfl (nI_add j 1) (by decide) rfl (fun ls hl => ?_)
              refine lv_goto (tgt := 176) hx hb dL_holds_297 (by decide) ?_
              refine W.widen (k := 100 + 15 * (j + 1)) (n := 2000 + 276 * (j + 1)) (by omega) (by omega) ?_
              exact ih (j + 1) (by omega) ga655 gb656 H locs ls hP hD hS (by rw [m4, m5]; exact lv_sub hl [6, 7, 8, 9, 3, 2, 10, 1, 0] rfl)
            · have m5 : mnW S.2.2.1 (j + 1) = mnW S.2.2.1 j := if_neg hc2
              refine lv_iload hx hb dL_holds_176 (lv_at hl 8 rfl) ?_
              refine lv_iload_n hx hb dL_holds_178 rfl (lv_at hl 2 rfl) ?_
              refine lv_icmp_gt (tgt := 300) hx hb dL_holds_179 (by decide) (fun cb658 => absurd cb658 (nI_nlt (a := N) (b := j) (by omega) (by omega))) (fun cb658 => ?_)
              refine lv_iload hx hb dL_holds_182 (lv_at hl 7 rfl) ?_
              refine lv_if_eq (tgt := 300) hx hb dL_holds_184 (by decide) (fun cb659 => absurd cb659 (by decide)) (fun cb659 => ?_)
              refine lv_aload_n hx hb dL_holds_187 rfl (lv_at hl 0 rfl) ?_
              refine lv_iconst (v := 5) hx hb dL_holds_188 (by decide) ?_
              refine lv_iload hx hb dL_holds_189 (lv_at hl 8 rfl) ?_
              refine lv_iconst (v := 0) hx hb dL_holds_191 (by decide) ?_
              refine lv_iconst (v := 0) hx hb dL_holds_192 (by decide) ?_
              have k660 : fCall S 5 (nI j) 0 0 = (nI LN, S) := (s_line S 0 0 hG.gd (by omega)).trans (by rw [hLN1])
              refine xw_callEi (va_runS (As := [.ref (av 0), .int 5, .int (nI j), .int 0, .int 0]) (rest := []) ⟨hx, hb, hml, hown, hts⟩ (c_call l hst D y av ga gb H.size S 5 (nI j) 0 0 hG.ok) (va_cwS 5 hts gL_holds_L_call rfl rfl rfl hd_L_call ⟨Nat.le_of_ble_eq_true rfl, Nat.le_of_ble_eq_true rfl⟩) (lS hE hXE hLN hXZ hS hA hP hD) rfl rfl hl.1 rfl (lv_room (Nat.le_of_ble_eq_true rfl)) dL_holds_193 ⟨by show _ ≤ 1000; omega, by show _ ≤ 20000; omega⟩) hD hS hA (fun v661 u662 ga664 gb665 H locs h663 hP hD hS => ?_)
              obtain ⟨rfl, rfl⟩ := Prod.mk.inj (k660.symm.trans h663)
              refine lv_istore (lv' := [(9, .int (nI LN)), (0, .ref (av 0)), (1, .int (nI X)), (2, .int (nI N)), (3, .int (nI G)), (4, .int (nI (mxW S.2.2.1 j))), (5, .int (nI (mnW S.2.2.1 j))), (6, .int 1), (7, .int 1), (8, .int (nI j))]) hx hb dL_holds_196 hl (by decide) rfl (fun ls hl => ?_)
              refine lv_aload_n hx hb dL_holds_198 rfl (lv_at hl 1 rfl) ?_
              refine lv_bipush (v := 6) hx hb dL_holds_199 (by decide) ?_
              refine lv_iload hx hb dL_holds_201 (lv_at hl 9 rfl) ?_
              refine lv_iconst (v := 0) hx hb dL_holds_203 (by decide) ?_
              refine lv_iconst (v := 0) hx hb dL_holds_204 (by decide) ?_
              have k666 : fCall S 6 (nI j) 0 0 = (nI (nN (S.2.2.1 (45 + j))), S) := s_wear S 0 0 hG.gd (by omega)
              refine xw_callEi (va_runS (As := [.ref (av 0), .int 6, .int (nI j), .int 0, .int 0]) (rest := []) ⟨hx, hb, hml, hown, hts⟩ (c_call l hst D y av ga664 gb665 H.size S 6 (nI j) 0 0 hG.ok) (va_cwS 5 hts gL_holds_L_call rfl rfl rfl hd_L_call ⟨Nat.le_of_ble_eq_true rfl, Nat.le_of_ble_eq_true rfl⟩) (lS hE hXE hLN hXZ hS hA hP hD) rfl rfl hl.1 rfl (lv_room (Nat.le_of_ble_eq_true rfl)) dL_holds_205 ⟨by show _ ≤ 1000; omega, by show _ ≤ 20000; omega⟩) hD hS hA (fun v667 u668 ga670 gb671 H locs h669 hP hD hS => ?_)
              obtain ⟨rfl, rfl⟩ := Prod.mk.inj (k666.symm.trans h669)
              refine lv_istore (lv' := [(10, .int (nI (nN (S.2.2.1 (45 + j))))), (9, .int (nI LN)), (0, .ref (av 0)), (1, .int (nI X)), (2, .int (nI N)), (3, .int (nI G)), (4, .int (nI (mxW S.2.2.1 j))), (5, .int (nI (mnW S.2.2.1 j))), (6, .int 1), (7, .int 1), (8, .int (nI j))]) hx hb dL_holds_208 hl (by decide) rfl (fun ls hl => ?_)
              refine lv_iload hx hb dL_holds_210 (lv_at hl 0 rfl) ?_
              refine lv_iload hx hb dL_holds_212 (lv_at hl 6 rfl) ?_
              refine lv_icmp_le (tgt := 222) hx hb dL_holds_214 (by decide) (fun cb672 => absurd cb672 (nI_ge (a := mxW S.2.2.1 j) (b := nN (S.2.2.1 (45 + j))) (by omega) (by omega))) (fun cb672 => ?_)
              refine lv_iload hx hb dL_holds_217 (lv_at hl 0 rfl) ?_
              refine lv_goto (tgt := 224) hx hb dL_holds_219 (by decide) ?_
              refine lv_istore (lv' := [(4, .int (nI (nN (S.2.2.1 (45 + j))))), (10, .int (nI (nN (S.2.2.1 (45 + j))))), (9, .int (nI LN)), (0, .ref (av 0)), (1, .int (nI X)), (2, .int (nI N)), (3, .int (nI G)), (5, .int (nI (mnW S.2.2.1 j))), (6, .int 1), (7, .int 1), (8, .int (nI j))]) hx hb dL_holds_224 hl (by decide) rfl (fun ls hl => ?_)
              refine lv_iload hx hb dL_holds_226 (lv_at hl 1 rfl) ?_
              refine lv_iload hx hb dL_holds_228 (lv_at hl 7 rfl) ?_
              refine lv_icmp_ge (tgt := 238) hx hb dL_holds_230 (by decide) (fun cb673 => ?_) (fun cb673 => absurd (nI_le (a := mnW S.2.2.1 j) (b := nN (S.2.2.1 (45 + j))) (by omega) (by omega)) cb673)
              refine lv_iload hx hb dL_holds_238 (lv_at hl 7 rfl) ?_
              refine lv_istore (lv' := [(5, .int (nI (mnW S.2.2.1 j))), (4, .int (nI (nN (S.2.2.1 (45 + j))))), (10, .int (nI (nN (S.2.2.1 (45 + j))))), (9, .int (nI LN)), (0, .ref (av 0)), (1, .int (nI X)), (2, .int (nI N)), (3, .int (nI G)), (6, .int 1), (7, .int 1), (8, .int (nI j))]) hx hb dL_holds_240 hl (by decide) rfl (fun ls hl => ?_)
              refine lv_iload hx hb dL_holds_242 (lv_at hl 2 rfl) ?_
              refine lv_if_lt (tgt := 291) hx hb dL_holds_244 (by decide) (fun cb674 => absurd cb674 (nI_nlt (a := nN (S.2.2.1 (45 + j))) (b := 0) (by omega) (by omega))) (fun cb674 => ?_)
              refine lv_iload hx hb dL_holds_247 (lv_at hl 10 rfl) ?_
              refine lv_iload_n hx hb dL_holds_249 rfl (lv_at hl 7 rfl) ?_
              refine lv_icmp_ne (tgt := 262) hx hb dL_holds_250 (by decide) (fun cb675 => ?_) (fun cb675 => absurd cb675 (fun q => absurd ((nI_eq (a := j) (b := G) (by omega) (by omega)).mp q) (by omega)))
              refine lv_iload hx hb dL_holds_262 (lv_at hl 3 rfl) ?_
              refine lv_if_lt (tgt := 291) hx hb dL_holds_264 (by decide) (fun cb676 => absurd cb676 (nI_nlt (a := LN) (b := 0) (by omega) (by omega))) (fun cb676 => ?_)
              refine lv_iload hx hb dL_holds_267 (lv_at hl 3 rfl) ?_
              refine lv_iload_n hx hb dL_holds_269 rfl (lv_at hl 6 rfl) ?_
              refine lv_icmp_ge (tgt := 291) hx hb dL_holds_270 (by decide) (fun cb677 => absurd cb677 (nI_ge (a := LN) (b := N) (by omega) (by omega))) (fun cb677 => ?_)
              refine lv_aload_n hx hb dL_holds_273 rfl (lv_at hl 4 rfl) ?_
              refine lv_iconst (v := 4) hx hb dL_holds_274 (by decide) ?_
              refine lv_iload hx hb dL_holds_275 (lv_at hl 3 rfl) ?_
              refine lv_iconst (v := 0) hx hb dL_holds_277 (by decide) ?_
              refine lv_iconst (v := 0) hx hb dL_holds_278 (by decide) ?_
              have k678 : fCall S 4 (nI LN) 0 0 = (nI j, S) := (s_place S 0 0 hG.gd (okL_nI hG.gd (by omega))).trans (by rw [nN_nI (by omega), hLN2])
              refine xw_callEi (va_runS (As := [.ref (av 0), .int 4, .int (nI LN), .int 0, .int 0]) (rest := []) ⟨hx, hb, hml, hown, hts⟩ (c_call l hst D y av ga670 gb671 H.size S 4 (nI LN) 0 0 hG.ok) (va_cwS 5 hts gL_holds_L_call rfl rfl rfl hd_L_call ⟨Nat.le_of_ble_eq_true rfl, Nat.le_of_ble_eq_true rfl⟩) (lS hE hXE hLN hXZ hS hA hP hD) rfl rfl hl.1 rfl (lv_room (Nat.le_of_ble_eq_true rfl)) dL_holds_279 ⟨by show _ ≤ 1000; omega, by show _ ≤ 20000; omega⟩) hD hS hA (fun v679 u680 ga682 gb683 H locs h681 hP hD hS => ?_)
              obtain ⟨rfl, rfl⟩ := Prod.mk.inj (k678.symm.trans h681)
              refine lv_iload hx hb dL_holds_282 (lv_at hl 10 rfl) ?_
              refine lv_icmp_ne (tgt := 291) hx hb dL_holds_284 (by decide) (fun cb684 => absurd (congrArg nI (show j = j by omega)) cb684) (fun cb684 => ?_)
              refine lv_iconst (v := 1) hx hb dL_holds_287 (by decide) ?_
              refine lv_goto (tgt := 292) hx hb dL_holds_288 (by decide) ?_
              refine lv_istore (lv' := [(7, .int 1), (5, .int (nI (mnW S.2.2.1 j))), (4, .int (nI (nN (S.2.2.1 (45 + j))))), (10, .int (nI (nN (S.2.2.1 (45 + j))))), (9, .int (nI LN)), (0, .ref (av 0)), (1, .int (nI X)), (2, .int (nI N)), (3, .int (nI G)), (6, .int 1), (8, .int (nI j))]) hx hb dL_holds_292 hl (by decide) rfl (fun ls hl => ?_)
              refine lv_iinc (v := nI (j + 1)) (lv' := [(8, .int (nI (j + 1))), (7, .int 1), (5, .int (nI (mnW S.2.2.1 j))), (4, .int (nI (nN (S.2.2.1 (45 + j))))), (10, .int (nI (nN (S.2.2.1 (45 + j))))), (9, .int (nI LN)), (0, .ref (av 0)), (1, .int (nI X)), (2, .int (nI N)), (3, .int (nI G)), (6, .int 1)]) hx hb dL_holds_294 hl (k := 10) rfl (nI_add j 1) (by decide) rfl (fun ls hl => ?_)
              refine lv_goto (tgt := 176) hx hb dL_holds_297 (by decide) ?_
              refine W.widen (k := 100 + 15 * (j + 1)) (n := 2000 + 276 * (j + 1)) (by omega) (by omega) ?_
              exact ih (j + 1) (by omega) ga682 gb683 H locs ls hP hD hS (by rw [m4, m5]; exact lv_sub hl [6, 7, 8, 9, 3, 2, 10, 1, 0] rfl)
          · have m4 : mxW S.2.2.1 (j + 1) = mxW S.2.2.1 j := if_neg hc1
            by_cases hc2 : nN (S.2.2.1 (45 + j)) < mnW S.2.2.1 j
            · have m5 : mnW S.2.2.1 (j + 1) = nN (S.2.2.1 (45 + j)) := if_pos hc2
              refine lv_iload hx hb dL_holds_176 (lv_at hl 8 rfl) ?_
              refine lv_iload_n hx hb dL_holds_178 rfl (lv_at hl 2 rfl) ?_
              refine lv_icmp_gt (tgt := 300) hx hb dL_holds_179 (by decide) (fun cb685 => absurd cb685 (nI_nlt (a := N) (b := j) (by omega) (by omega))) (fun cb685 => ?_)
              refine lv_iload hx hb dL_holds_182 (lv_at hl 7 rfl) ?_
              refine lv_if_eq (tgt := 300) hx hb dL_holds_184 (by decide) (fun cb686 => absurd cb686 (by decide)) (fun cb686 => ?_)
              refine lv_aload_n hx hb dL_holds_187 rfl (lv_at hl 0 rfl) ?_
              refine lv_iconst (v := 5) hx hb dL_holds_188 (by decide) ?_
              refine lv_iload hx hb dL_holds_189 (lv_at hl 8 rfl) ?_
              refine lv_iconst (v := 0) hx hb dL_holds_191 (by decide) ?_
              refine lv_iconst (v := 0) hx hb dL_holds_192 (by decide) ?_
              have k687 : fCall S 5 (nI j) 0 0 = (nI LN, S) := (s_line S 0 0 hG.gd (by omega)).trans (by rw [hLN1])
              refine xw_callEi (va_runS (As := [.ref (av 0), .int 5, .int (nI j), .int 0, .int 0]) (rest := []) ⟨hx, hb, hml, hown, hts⟩ (c_call l hst D y av ga gb H.size S 5 (nI j) 0 0 hG.ok) (va_cwS 5 hts gL_holds_L_call rfl rfl rfl hd_L_call ⟨Nat.le_of_ble_eq_true rfl, Nat.le_of_ble_eq_true rfl⟩) (lS hE hXE hLN hXZ hS hA hP hD) rfl rfl hl.1 rfl (lv_room (Nat.le_of_ble_eq_true rfl)) dL_holds_193 ⟨by show _ ≤ 1000; omega, by show _ ≤ 20000; omega⟩) hD hS hA (fun v688 u689 ga691 gb692 H locs h690 hP hD hS => ?_)
              obtain ⟨rfl, rfl⟩ := Prod.mk.inj (k687.symm.trans h690)
              refine lv_istore (lv' := [(9, .int (nI LN)), (0, .ref (av 0)), (1, .int (nI X)), (2, .int (nI N)), (3, .int (nI G)), (4, .int (nI (mxW S.2.2.1 j))), (5, .int (nI (mnW S.2.2.1 j))), (6, .int 1), (7, .int 1), (8, .int (nI j))]) hx hb dL_holds_196 hl (by decide) rfl (fun ls hl => ?_)
              refine lv_aload_n hx hb dL_holds_198 rfl (lv_at hl 1 rfl) ?_
              refine lv_bipush (v := 6) hx hb dL_holds_199 (by decide) ?_
              refine lv_iload hx hb dL_holds_201 (lv_at hl 9 rfl) ?_
              refine lv_iconst (v := 0) hx hb dL_holds_203 (by decide) ?_
              refine lv_iconst (v := 0) hx hb dL_holds_204 (by decide) ?_
              have k693 : fCall S 6 (nI j) 0 0 = (nI (nN (S.2.2.1 (45 + j))), S) := s_wear S 0 0 hG.gd (by omega)
              refine xw_callEi (va_runS (As := [.ref (av 0), .int 6, .int (nI j), .int 0, .int 0]) (rest := []) ⟨hx, hb, hml, hown, hts⟩ (c_call l hst D y av ga691 gb692 H.size S 6 (nI j) 0 0 hG.ok) (va_cwS 5 hts gL_holds_L_call rfl rfl rfl hd_L_call ⟨Nat.le_of_ble_eq_true rfl, Nat.le_of_ble_eq_true rfl⟩) (lS hE hXE hLN hXZ hS hA hP hD) rfl rfl hl.1 rfl (lv_room (Nat.le_of_ble_eq_true rfl)) dL_holds_205 ⟨by show _ ≤ 1000; omega, by show _ ≤ 20000; omega⟩) hD hS hA (fun v694 u695 ga697 gb698 H locs h696 hP hD hS => ?_)
              obtain ⟨rfl, rfl⟩ := Prod.mk.inj (k693.symm.trans h696)
              refine lv_istore (lv' := [(10, .int (nI (nN (S.2.2.1 (45 + j))))), (9, .int (nI LN)), (0, .ref (av 0)), (1, .int (nI X)), (2, .int (nI N)), (3, .int (nI G)), (4, .int (nI (mxW S.2.2.1 j))), (5, .int (nI (mnW S.2.2.1 j))), (6, .int 1), (7, .int 1), (8, .int (nI j))]) hx hb dL_holds_208 hl (by decide) rfl (fun ls hl => ?_)
              refine lv_iload hx hb dL_holds_210 (lv_at hl 0 rfl) ?_
              refine lv_iload hx hb dL_holds_212 (lv_at hl 6 rfl) ?_
              refine lv_icmp_le (tgt := 222) hx hb dL_holds_214 (by decide) (fun cb699 => ?_) (fun cb699 => absurd (nI_le (a := nN (S.2.2.1 (45 + j))) (b := mxW S.2.2.1 j) (by omega) (by omega)) cb699)
              refine lv_iload hx hb dL_holds_222 (lv_at hl 6 rfl) ?_
              refine lv_istore (lv' := [(4, .int (nI (mxW S.2.2.1 j))), (10, .int (nI (nN (S.2.2.1 (45 + j))))), (9, .int (nI LN)), (0, .ref (av 0)), (1, .int (nI X)), (2, .int (nI N)), (3, .int (nI G)), (5, .int (nI (mnW S.2.2.1 j))), (6, .int 1), (7, .int 1), (8, .int (nI j))]) hx hb dL_holds_224 hl (by decide) rfl (fun ls hl => ?_)
              refine lv_iload hx hb dL_holds_226 (lv_at hl 1 rfl) ?_
              refine lv_iload hx hb dL_holds_228 (lv_at hl 7 rfl) ?_
              refine lv_icmp_ge (tgt := 238) hx hb dL_holds_230 (by decide) (fun cb700 => absurd cb700 (nI_ge (a := nN (S.2.2.1 (45 + j))) (b := mnW S.2.2.1 j) (by omega) (by omega))) (fun cb700 => ?_)
              refine lv_iload hx hb dL_holds_233 (lv_at hl 1 rfl) ?_
              refine lv_goto (tgt := 240) hx hb dL_holds_235 (by decide) ?_
              refine lv_istore (lv' := [(5, .int (nI (nN (S.2.2.1 (45 + j))))), (4, .int (nI (mxW S.2.2.1 j))), (10, .int (nI (nN (S.2.2.1 (45 + j))))), (9, .int (nI LN)), (0, .ref (av 0)), (1, .int (nI X)), (2, .int (nI N)), (3, .int (nI G)), (6, .int 1), (7, .int 1), (8, .int (nI j))]) hx hb dL_holds_240 hl (by decide) rfl (fun ls hl => ?_)
              refine lv_iload hx hb dL_holds_242 (lv_at hl 2 rfl) ?_
              refine lv_if_lt (tgt := 291) hx hb dL_holds_244 (by decide) (fun cb701 => absurd cb701 (nI_nlt (a := nN (S.2.2.1 (45 + j))) (b := 0) (by omega) (by omega))) (fun cb701 => ?_)
              refine lv_iload hx hb dL_holds_247 (lv_at hl 10 rfl) ?_
              refine lv_iload_n hx hb dL_holds_249 rfl (lv_at hl 7 rfl) ?_
              refine lv_icmp_ne (tgt := 262) hx hb dL_holds_250 (by decide) (fun cb702 => ?_) (fun cb702 => absurd cb702 (fun q => absurd ((nI_eq (a := j) (b := G) (by omega) (by omega)).mp q) (by omega)))
              refine lv_iload hx hb dL_holds_262 (lv_at hl 3 rfl) ?_
              refine lv_if_lt (tgt := 291) hx hb dL_holds_264 (by decide) (fun cb703 => absurd cb703 (nI_nlt (a := LN) (b := 0) (by omega) (by omega))) (fun cb703 => ?_)
              refine lv_iload hx hb dL_holds_267 (lv_at hl 3 rfl) ?_
              refine lv_iload_n hx hb dL_holds_269 rfl (lv_at hl 6 rfl) ?_
              refine lv_icmp_ge (tgt := 291) hx hb dL_holds_270 (by decide) (fun cb704 => absurd cb704 (nI_ge (a := LN) (b := N) (by omega) (by omega))) (fun cb704 => ?_)
              refine lv_aload_n hx hb dL_holds_273 rfl (lv_at hl 4 rfl) ?_
              refine lv_iconst (v := 4) hx hb dL_holds_274 (by decide) ?_
              refine lv_iload hx hb dL_holds_275 (lv_at hl 3 rfl) ?_
              refine lv_iconst (v := 0) hx hb dL_holds_277 (by decide) ?_
              refine lv_iconst (v := 0) hx hb dL_holds_278 (by decide) ?_
              have k705 : fCall S 4 (nI LN) 0 0 = (nI j, S) := (s_place S 0 0 hG.gd (okL_nI hG.gd (by omega))).trans (by rw [nN_nI (by omega), hLN2])
              refine xw_callEi (va_runS (As := [.ref (av 0), .int 4, .int (nI LN), .int 0, .int 0]) (rest := []) ⟨hx, hb, hml, hown, hts⟩ (c_call l hst D y av ga697 gb698 H.size S 4 (nI LN) 0 0 hG.ok) (va_cwS 5 hts gL_holds_L_call rfl rfl rfl hd_L_call ⟨Nat.le_of_ble_eq_true rfl, Nat.le_of_ble_eq_true rfl⟩) (lS hE hXE hLN hXZ hS hA hP hD) rfl rfl hl.1 rfl (lv_room (Nat.le_of_ble_eq_true rfl)) dL_holds_279 ⟨by show _ ≤ 1000; omega, by show _ ≤ 20000; omega⟩) hD hS hA (fun v706 u707 ga709 gb710 H locs h708 hP hD hS => ?_)
              obtain ⟨rfl, rfl⟩ := Prod.mk.inj (k705.symm.trans h708)
              refine lv_iload hx hb dL_holds_282 (lv_at hl 10 rfl) ?_
              refine lv_icmp_ne (tgt := 291) hx hb dL_holds_284 (by decide) (fun cb711 => absurd (congrArg nI (show j = j by omega)) cb711) (fun cb711 => ?_)
              refine lv_iconst (v := 1) hx hb dL_holds_287 (by decide) ?_
              refine lv_goto (tgt := 292) hx hb dL_holds_288 (by decide) ?_
              refine lv_istore (lv' := [(7, .int 1), (5, .int (nI (nN (S.2.2.1 (45 + j))))), (4, .int (nI (mxW S.2.2.1 j))), (10, .int (nI (nN (S.2.2.1 (45 + j))))), (9, .int (nI LN)), (0, .ref (av 0)), (1, .int (nI X)), (2, .int (nI N)), (3, .int (nI G)), (6, .int 1), (8, .int (nI j))]) hx hb dL_holds_292 hl (by decide) rfl (fun ls hl => ?_)
              refine lv_iinc (v := nI (j + 1)) (lv' := [(8, .int (nI (j + 1))), (7, .int 1), (5, .int (nI (nN (S.2.2.1 (45 + j))))), (4, .int (nI (mxW S.2.2.1 j))), (10, .int (nI (nN (S.2.2.1 (45 + j))))), (9, .int (nI LN)), (0, .ref (av 0)), (1, .int (nI X)), (2, .int (nI N)), (3, .int (nI G)), (6, .int 1)]) hx hb dL_holds_294 hl (k := 10) rfl (nI_add j 1) (by decide) rfl (fun ls hl => ?_)
              refine lv_goto (tgt := 176) hx hb dL_holds_297 (by decide) ?_
              refine W.widen (k := 100 + 15 * (j + 1)) (n := 2000 + 276 * (j + 1)) (by omega) (by omega) ?_
              exact ih (j + 1) (by omega) ga709 gb710 H locs ls hP hD hS (by rw [m4, m5]; exact lv_sub hl [6, 7, 8, 9, 3, 2, 10, 1, 0] rfl)
            · have m5 : mnW S.2.2.1 (j + 1) = mnW S.2.2.1 j := if_neg hc2
              refine lv_iload hx hb dL_holds_176 (lv_at hl 8 rfl) ?_
              refine lv_iload_n hx hb dL_holds_178 rfl (lv_at hl 2 rfl) ?_
              refine lv_icmp_gt (tgt := 300) hx hb dL_holds_179 (by decide) (fun cb712 => absurd cb712 (nI_nlt (a := N) (b := j) (by omega) (by omega))) (fun cb712 => ?_)
              refine lv_iload hx hb dL_holds_182 (lv_at hl 7 rfl) ?_
              refine lv_if_eq (tgt := 300) hx hb dL_holds_184 (by decide) (fun cb713 => absurd cb713 (by decide)) (fun cb713 => ?_)
              refine lv_aload_n hx hb dL_holds_187 rfl (lv_at hl 0 rfl) ?_
              refine lv_iconst (v := 5) hx hb dL_holds_188 (by decide) ?_
              refine lv_iload hx hb dL_holds_189 (lv_at hl 8 rfl) ?_
              refine lv_iconst (v := 0) hx hb dL_holds_191 (by decide) ?_
              refine lv_iconst (v := 0) hx hb dL_holds_192 (by decide) ?_
              have k714 : fCall S 5 (nI j) 0 0 = (nI LN, S) := (s_line S 0 0 hG.gd (by omega)).trans (by rw [hLN1])
              refine xw_callEi (va_runS (As := [.ref (av 0), .int 5, .int (nI j), .int 0, .int 0]) (rest := []) ⟨hx, hb, hml, hown, hts⟩ (c_call l hst D y av ga gb H.size S 5 (nI j) 0 0 hG.ok) (va_cwS 5 hts gL_holds_L_call rfl rfl rfl hd_L_call ⟨Nat.le_of_ble_eq_true rfl, Nat.le_of_ble_eq_true rfl⟩) (lS hE hXE hLN hXZ hS hA hP hD) rfl rfl hl.1 rfl (lv_room (Nat.le_of_ble_eq_true rfl)) dL_holds_193 ⟨by show _ ≤ 1000; omega, by show _ ≤ 20000; omega⟩) hD hS hA (fun v715 u716 ga718 gb719 H locs h717 hP hD hS => ?_)
              obtain ⟨rfl, rfl⟩ := Prod.mk.inj (k714.symm.trans h717)
              refine lv_istore (lv' := [(9, .int (nI LN)), (0, .ref (av 0)), (1, .int (nI X)), (2, .int (nI N)), (3, .int (nI G)), (4, .int (nI (mxW S.2.2.1 j))), (5, .int (nI (mnW S.2.2.1 j))), (6, .int 1), (7, .int 1), (8, .int (nI j))]) hx hb dL_holds_196 hl (by decide) rfl (fun ls hl => ?_)
              refine lv_aload_n hx hb dL_holds_198 rfl (lv_at hl 1 rfl) ?_
              refine lv_bipush (v := 6) hx hb dL_holds_199 (by decide) ?_
              refine lv_iload hx hb dL_holds_201 (lv_at hl 9 rfl) ?_
              refine lv_iconst (v := 0) hx hb dL_holds_203 (by decide) ?_
              refine lv_iconst (v := 0) hx hb dL_holds_204 (by decide) ?_
              have k720 : fCall S 6 (nI j) 0 0 = (nI (nN (S.2.2.1 (45 + j))), S) := s_wear S 0 0 hG.gd (by omega)
              refine xw_callEi (va_runS (As := [.ref (av 0), .int 6, .int (nI j), .int 0, .int 0]) (rest := []) ⟨hx, hb, hml, hown, hts⟩ (c_call l hst D y av ga718 gb719 H.size S 6 (nI j) 0 0 hG.ok) (va_cwS 5 hts gL_holds_L_call rfl rfl rfl hd_L_call ⟨Nat.le_of_ble_eq_true rfl, Nat.le_of_ble_eq_true rfl⟩) (lS hE hXE hLN hXZ hS hA hP hD) rfl rfl hl.1 rfl (lv_room (Nat.le_of_ble_eq_true rfl)) dL_holds_205 ⟨by show _ ≤ 1000; omega, by show _ ≤ 20000; omega⟩) hD hS hA (fun v721 u722 ga724 gb725 H locs h723 hP hD hS => ?_)
              obtain ⟨rfl, rfl⟩ := Prod.mk.inj (k720.symm.trans h723)
              refine lv_istore (lv' := [(10, .int (nI (nN (S.2.2.1 (45 + j))))), (9, .int (nI LN)), (0, .ref (av 0)), (1, .int (nI X)), (2, .int (nI N)), (3, .int (nI G)), (4, .int (nI (mxW S.2.2.1 j))), (5, .int (nI (mnW S.2.2.1 j))), (6, .int 1), (7, .int 1), (8, .int (nI j))]) hx hb dL_holds_208 hl (by decide) rfl (fun ls hl => ?_)
              refine lv_iload hx hb dL_holds_210 (lv_at hl 0 rfl) ?_
              refine lv_iload hx hb dL_holds_212 (lv_at hl 6 rfl) ?_
              refine lv_icmp_le (tgt := 222) hx hb dL_holds_214 (by decide) (fun cb726 => ?_) (fun cb726 => absurd (nI_le (a := nN (S.2.2.1 (45 + j))) (b := mxW S.2.2.1 j) (by omega) (by omega)) cb726)
              refine lv_iload hx hb dL_holds_222 (lv_at hl 6 rfl) ?_
              refine lv_istore (lv' := [(4, .int (nI (mxW S.2.2.1 j))), (10, .int (nI (nN (S.2.2.1 (45 + j))))), (9, .int (nI LN)), (0, .ref (av 0)), (1, .int (nI X)), (2, .int (nI N)), (3, .int (nI G)), (5, .int (nI (mnW S.2.2.1 j))), (6, .int 1), (7, .int 1), (8, .int (nI j))]) hx hb dL_holds_224 hl (by decide) rfl (fun ls hl => ?_)
              refine lv_iload hx hb dL_holds_226 (lv_at hl 1 rfl) ?_
              refine lv_iload hx hb dL_holds_228 (lv_at hl 7 rfl) ?_
              refine lv_icmp_ge (tgt := 238) hx hb dL_holds_230 (by decide) (fun cb727 => ?_) (fun cb727 => absurd (nI_le (a := mnW S.2.2.1 j) (b := nN (S.2.2.1 (45 + j))) (by omega) (by omega)) cb727)
              refine lv_iload hx hb dL_holds_238 (lv_at hl 7 rfl) ?_
              refine lv_istore (lv' := [(5, .int (nI (mnW S.2.2.1 j))), (4, .int (nI (mxW S.2.2.1 j))), (10, .int (nI (nN (S.2.2.1 (45 + j))))), (9, .int (nI LN)), (0, .ref (av 0)), (1, .int (nI X)), (2, .int (nI N)), (3, .int (nI G)), (6, .int 1), (7, .int 1), (8, .int (nI j))]) hx hb dL_holds_240 hl (by decide) rfl (fun ls hl => ?_)
              refine lv_iload hx hb dL_holds_242 (lv_at hl 2 rfl) ?_
              refine lv_if_lt (tgt := 291) hx hb dL_holds_244 (by decide) (fun cb728 => absurd cb728 (nI_nlt (a := nN (S.2.2.1 (45 + j))) (b := 0) (by omega) (by omega))) (fun cb728 => ?_)
              refine lv_iload hx hb dL_holds_247 (lv_at hl 10 rfl) ?_
              refine lv_iload_n hx hb dL_holds_249 rfl (lv_at hl 7 rfl) ?_
              refine lv_icmp_ne (tgt := 262) hx hb dL_holds_250 (by decide) (fun cb729 => ?_) (fun cb729 => absurd cb729 (fun q => absurd ((nI_eq (a := j) (b := G) (by omega) (by omega)).mp q) (by omega)))
              refine lv_iload hx hb dL_holds_262 (lv_at hl 3 rfl) ?_
              refine lv_if_lt (tgt := 291) hx hb dL_holds_264 (by decide) (fun cb730 => absurd cb730 (nI_nlt (a := LN) (b := 0) (by omega) (by omega))) (fun cb730 => ?_)
              refine lv_iload hx hb dL_holds_267 (lv_at hl 3 rfl) ?_
              refine lv_iload_n hx hb dL_holds_269 rfl (lv_at hl 6 rfl) ?_
              refine lv_icmp_ge (tgt := 291) hx hb dL_holds_270 (by decide) (fun cb731 => absurd cb731 (nI_ge (a := LN) (b := N) (by omega) (by omega))) (fun cb731 => ?_)
              refine lv_aload_n hx hb dL_holds_273 rfl (lv_at hl 4 rfl) ?_
              refine lv_iconst (v := 4) hx hb dL_holds_274 (by decide) ?_
              refine lv_iload hx hb dL_holds_275 (lv_at hl 3 rfl) ?_
              refine lv_iconst (v := 0) hx hb dL_holds_277 (by decide) ?_
              refine lv_iconst (v := 0) hx hb dL_holds_278 (by decide) ?_
              have k732 : fCall S 4 (nI LN) 0 0 = (nI j, S) := (s_place S 0 0 hG.gd (okL_nI hG.gd (by omega))).trans (by rw [nN_nI (by omega), hLN2])
              refine xw_callEi (va_runS (As := [.ref (av 0), .int 4, .int (nI LN), .int 0, .int 0]) (rest := []) ⟨hx, hb, hml, hown, hts⟩ (c_call l hst D y av ga724 gb725 H.size S 4 (nI LN) 0 0 hG.ok) (va_cwS 5 hts gL_holds_L_call rfl rfl rfl hd_L_call ⟨Nat.le_of_ble_eq_true rfl, Nat.le_of_ble_eq_true rfl⟩) (lS hE hXE hLN hXZ hS hA hP hD) rfl rfl hl.1 rfl (lv_room (Nat.le_of_ble_eq_true rfl)) dL_holds_279 ⟨by show _ ≤ 1000; omega, by show _ ≤ 20000; omega⟩) hD hS hA (fun v733 u734 ga736 gb737 H locs h735 hP hD hS => ?_)
              obtain ⟨rfl, rfl⟩ := Prod.mk.inj (k732.symm.trans h735)
              refine lv_iload hx hb dL_holds_282 (lv_at hl 10 rfl) ?_
              refine lv_icmp_ne (tgt := 291) hx hb dL_holds_284 (by decide) (fun cb738 => absurd (congrArg nI (show j = j by omega)) cb738) (fun cb738 => ?_)
              refine lv_iconst (v := 1) hx hb dL_holds_287 (by decide) ?_
              refine lv_goto (tgt := 292) hx hb dL_holds_288 (by decide) ?_
              refine lv_istore (lv' := [(7, .int 1), (5, .int (nI (mnW S.2.2.1 j))), (4, .int (nI (mxW S.2.2.1 j))), (10, .int (nI (nN (S.2.2.1 (45 + j))))), (9, .int (nI LN)), (0, .ref (av 0)), (1, .int (nI X)), (2, .int (nI N)), (3, .int (nI G)), (6, .int 1), (8, .int (nI j))]) hx hb dL_holds_292 hl (by decide) rfl (fun ls hl => ?_)
              refine lv_iinc (v := nI (j + 1)) (lv' := [(8, .int (nI (j + 1))), (7, .int 1), (5, .int (nI (mnW S.2.2.1 j))), (4, .int (nI (mxW S.2.2.1 j))), (10, .int (nI (nN (S.2.2.1 (45 + j))))), (9, .int (nI LN)), (0, .ref (av 0)), (1, .int (nI X)), (2, .int (nI N)), (3, .int (nI G)), (6, .int 1)]) hx hb dL_holds_294 hl (k := 10) rfl (nI_add j 1) (by decide) rfl (fun ls hl => ?_)
              refine lv_goto (tgt := 176) hx hb dL_holds_297 (by decide) ?_
              refine W.widen (k := 100 + 15 * (j + 1)) (n := 2000 + 276 * (j + 1)) (by omega) (by omega) ?_
              exact ih (j + 1) (by omega) ga736 gb737 H locs ls hP hD hS (by rw [m4, m5]; exact lv_sub hl [6, 7, 8, 9, 3, 2, 10, 1, 0] rfl)
    refine lv_aload_n hx hb dL_holds_0 rfl (lv_at hl 0 rfl) ?_
    refine lv_iconst (v := 2) hx hb dL_holds_1 (by decide) ?_
    refine lv_iconst (v := 0) hx hb dL_holds_2 (by decide) ?_
    refine lv_iconst (v := 0) hx hb dL_holds_3 (by decide) ?_
    refine lv_iconst (v := 0) hx hb dL_holds_4 (by decide) ?_
    have k739 : fCall S 2 0 0 0 = (nI N, S) := (s_ab0 S 0 0).trans (by rw [e0])
    refine xw_callEi (va_runS (As := [.ref (av 0), .int 2, .int 0, .int 0, .int 0]) (rest := []) ⟨hx, hb, hml, hown, hts⟩ (c_call l hst D y av ga gb s.heap.size S 2 0 0 0 hG.ok) (va_cwS 5 hts gL_holds_L_call rfl rfl rfl hd_L_call ⟨Nat.le_of_ble_eq_true rfl, Nat.le_of_ble_eq_true rfl⟩) (lS hE hXE hLN hXZ hS hA hP hD) rfl rfl hl.1 rfl (lv_room (Nat.le_of_ble_eq_true rfl)) dL_holds_5 ⟨Nat.le_of_ble_eq_true rfl, Nat.le_of_ble_eq_true rfl⟩) hD hS hA (fun v740 u741 ga743 gb744 H locs h742 hP hD hS => ?_)
    obtain ⟨rfl, rfl⟩ := Prod.mk.inj (k739.symm.trans h742)
    refine lv_istore_n (lv' := [(2, .int (nI N)), (0, .ref (av 0)), (1, .int (nI X))]) hx hb dL_holds_8 rfl hl (by decide) rfl (fun ls hl => ?_)
    refine lv_aload_n hx hb dL_holds_9 rfl (lv_at hl 1 rfl) ?_
    refine lv_iconst (v := 2) hx hb dL_holds_10 (by decide) ?_
    refine lv_iconst (v := 2) hx hb dL_holds_11 (by decide) ?_
    refine lv_iconst (v := 0) hx hb dL_holds_12 (by decide) ?_
    refine lv_iconst (v := 0) hx hb dL_holds_13 (by decide) ?_
    have k745 : fCall S 2 2 0 0 = (nI G, S) := (s_ab2 S 0 0).trans (by rw [e3])
    refine xw_callEi (va_runS (As := [.ref (av 0), .int 2, .int 2, .int 0, .int 0]) (rest := []) ⟨hx, hb, hml, hown, hts⟩ (c_call l hst D y av ga743 gb744 H.size S 2 2 0 0 hG.ok) (va_cwS 5 hts gL_holds_L_call rfl rfl rfl hd_L_call ⟨Nat.le_of_ble_eq_true rfl, Nat.le_of_ble_eq_true rfl⟩) (lS hE hXE hLN hXZ hS hA hP hD) rfl rfl hl.1 rfl (lv_room (Nat.le_of_ble_eq_true rfl)) dL_holds_14 ⟨Nat.le_of_ble_eq_true rfl, Nat.le_of_ble_eq_true rfl⟩) hD hS hA (fun v746 u747 ga749 gb750 H locs h748 hP hD hS => ?_)
    obtain ⟨rfl, rfl⟩ := Prod.mk.inj (k745.symm.trans h748)
    refine lv_istore_n (lv' := [(3, .int (nI G)), (2, .int (nI N)), (0, .ref (av 0)), (1, .int (nI X))]) hx hb dL_holds_17 rfl hl (by decide) rfl (fun ls hl => ?_)
    refine lv_iconst (v := 0) hx hb dL_holds_18 (by decide) ?_
    refine lv_istore (lv' := [(4, .int 0), (3, .int (nI G)), (2, .int (nI N)), (0, .ref (av 0)), (1, .int (nI X))]) hx hb dL_holds_19 hl (by decide) rfl (fun ls hl => ?_)
    refine lv_ldc (v := 1000000) hx hb hown w_0 dL_holds_21 ?_
    refine lv_istore (lv' := [(5, .int 1000000), (4, .int 0), (3, .int (nI G)), (2, .int (nI N)), (0, .ref (av 0)), (1, .int (nI X))]) hx hb dL_holds_23 hl (by decide) rfl (fun ls hl => ?_)
    refine lv_aload_n hx hb dL_holds_25 rfl (lv_at hl 4 rfl) ?_
    refine lv_iconst (v := 2) hx hb dL_holds_26 (by decide) ?_
    refine lv_bipush (v := 9) hx hb dL_holds_27 (by decide) ?_
    refine lv_iconst (v := 0) hx hb dL_holds_29 (by decide) ?_
    refine lv_iconst (v := 0) hx hb dL_holds_30 (by decide) ?_
    have k751 : fCall S 2 9 0 0 = (1, S) := (s_ab9 S 0 0 (Or.inr h8)).trans (by rw [h8])
    refine xw_callEi (va_runS (As := [.ref (av 0), .int 2, .int 9, .int 0, .int 0]) (rest := []) ⟨hx, hb, hml, hown, hts⟩ (c_call l hst D y av ga749 gb750 H.size S 2 9 0 0 hG.ok) (va_cwS 5 hts gL_holds_L_call rfl rfl rfl hd_L_call ⟨Nat.le_of_ble_eq_true rfl, Nat.le_of_ble_eq_true rfl⟩) (lS hE hXE hLN hXZ hS hA hP hD) rfl rfl hl.1 rfl (lv_room (Nat.le_of_ble_eq_true rfl)) dL_holds_31 ⟨Nat.le_of_ble_eq_true rfl, Nat.le_of_ble_eq_true rfl⟩) hD hS hA (fun v752 u753 ga755 gb756 H locs h754 hP hD hS => ?_)
    obtain ⟨rfl, rfl⟩ := Prod.mk.inj (k751.symm.trans h754)
    refine lv_iconst (v := 1) hx hb dL_holds_34 (by decide) ?_
    refine lv_icmp_ne (tgt := 42) hx hb dL_holds_35 (by decide) (fun cb757 => absurd (by decide) cb757) (fun cb757 => ?_)
    refine lv_iconst (v := 1) hx hb dL_holds_38 (by decide) ?_
    refine lv_goto (tgt := 43) hx hb dL_holds_39 (by decide) ?_
    refine lv_istore (lv' := [(6, .int 1), (5, .int 1000000), (4, .int 0), (3, .int (nI G)), (2, .int (nI N)), (0, .ref (av 0)), (1, .int (nI X))]) hx hb dL_holds_43 hl (by decide) rfl (fun ls hl => ?_)
    refine lv_iload_n hx hb dL_holds_45 rfl (lv_at hl 4 rfl) ?_
    refine lv_iconst (v := 4) hx hb dL_holds_46 (by decide) ?_
    refine lv_icmp_lt (tgt := 170) hx hb dL_holds_47 (by decide) (fun cb758 => absurd cb758 (nI_nlt (a := N) (b := 4) (by omega) (by omega))) (fun cb758 => ?_)
    refine lv_iload_n hx hb dL_holds_50 rfl (lv_at hl 4 rfl) ?_
    refine lv_bipush (v := 32) hx hb dL_holds_51 (by decide) ?_
    refine lv_icmp_gt (tgt := 170) hx hb dL_holds_53 (by decide) (fun cb759 => absurd cb759 (nI_nlt (a := 32) (b := N) (by omega) (by omega))) (fun cb759 => ?_)
    refine lv_iload_n hx hb dL_holds_56 rfl (lv_at hl 3 rfl) ?_
    refine lv_if_lt (tgt := 170) hx hb dL_holds_57 (by decide) (fun cb760 => absurd cb760 (nI_nlt (a := G) (b := 0) (by omega) (by omega))) (fun cb760 => ?_)
    refine lv_iload_n hx hb dL_holds_60 rfl (lv_at hl 3 rfl) ?_
    refine lv_iload_n hx hb dL_holds_61 rfl (lv_at hl 4 rfl) ?_
    refine lv_icmp_gt (tgt := 170) hx hb dL_holds_62 (by decide) (fun cb761 => absurd cb761 (nI_nlt (a := N) (b := G) (by omega) (by omega))) (fun cb761 => ?_)
    refine lv_aload_n hx hb dL_holds_65 rfl (lv_at hl 5 rfl) ?_
    refine lv_iconst (v := 2) hx hb dL_holds_66 (by decide) ?_
    refine lv_iconst (v := 1) hx hb dL_holds_67 (by decide) ?_
    refine lv_iconst (v := 0) hx hb dL_holds_68 (by decide) ?_
    refine lv_iconst (v := 0) hx hb dL_holds_69 (by decide) ?_
    have k762 : fCall S 2 1 0 0 = (nI (nN (S.2.2.1 2)), S) := (s_ab1 S 0 0).trans (by rw [← e2])
    refine xw_callEi (va_runS (As := [.ref (av 0), .int 2, .int 1, .int 0, .int 0]) (rest := []) ⟨hx, hb, hml, hown, hts⟩ (c_call l hst D y av ga755 gb756 H.size S 2 1 0 0 hG.ok) (va_cwS 5 hts gL_holds_L_call rfl rfl rfl hd_L_call ⟨Nat.le_of_ble_eq_true rfl, Nat.le_of_ble_eq_true rfl⟩) (lS hE hXE hLN hXZ hS hA hP hD) rfl rfl hl.1 rfl (lv_room (Nat.le_of_ble_eq_true rfl)) dL_holds_70 ⟨Nat.le_of_ble_eq_true rfl, Nat.le_of_ble_eq_true rfl⟩) hD hS hA (fun v763 u764 ga766 gb767 H locs h765 hP hD hS => ?_)
    obtain ⟨rfl, rfl⟩ := Prod.mk.inj (k762.symm.trans h765)
    refine lv_iload_n hx hb dL_holds_73 rfl (lv_at hl 4 rfl) ?_
    refine lv_icmp_ge (tgt := 170) hx hb dL_holds_74 (by decide) (fun cb768 => absurd cb768 (nI_ge (a := nN (S.2.2.1 2)) (b := N) (by omega) (by omega))) (fun cb768 => ?_)
    refine lv_aload_n hx hb dL_holds_77 rfl (lv_at hl 5 rfl) ?_
    refine lv_iconst (v := 5) hx hb dL_holds_78 (by decide) ?_
    refine lv_iload_n hx hb dL_holds_79 rfl (lv_at hl 3 rfl) ?_
    refine lv_iconst (v := 0) hx hb dL_holds_80 (by decide) ?_
    refine lv_iconst (v := 0) hx hb dL_holds_81 (by decide) ?_
    have k769 : fCall S 5 (nI G) 0 0 = ((-1), S) := (s_line S 0 0 hG.gd (by omega)).trans (by rw [← e3, m_lineGap])
    refine xw_callEi (va_runS (As := [.ref (av 0), .int 5, .int (nI G), .int 0, .int 0]) (rest := []) ⟨hx, hb, hml, hown, hts⟩ (c_call l hst D y av ga766 gb767 H.size S 5 (nI G) 0 0 hG.ok) (va_cwS 5 hts gL_holds_L_call rfl rfl rfl hd_L_call ⟨Nat.le_of_ble_eq_true rfl, Nat.le_of_ble_eq_true rfl⟩) (lS hE hXE hLN hXZ hS hA hP hD) rfl rfl hl.1 rfl (lv_room (Nat.le_of_ble_eq_true rfl)) dL_holds_82 ⟨Nat.le_of_ble_eq_true rfl, Nat.le_of_ble_eq_true rfl⟩) hD hS hA (fun v770 u771 ga773 gb774 H locs h772 hP hD hS => ?_)
    obtain ⟨rfl, rfl⟩ := Prod.mk.inj (k769.symm.trans h772)
    refine lv_iconst (v := (-1)) hx hb dL_holds_85 (by decide) ?_
    refine lv_icmp_ne (tgt := 170) hx hb dL_holds_86 (by decide) (fun cb775 => absurd (by decide) cb775) (fun cb775 => ?_)
    refine lv_aload_n hx hb dL_holds_89 rfl (lv_at hl 5 rfl) ?_
    refine lv_iconst (v := 2) hx hb dL_holds_90 (by decide) ?_
    refine lv_iconst (v := 3) hx hb dL_holds_91 (by decide) ?_
    refine lv_iconst (v := 0) hx hb dL_holds_92 (by decide) ?_
    refine lv_iconst (v := 0) hx hb dL_holds_93 (by decide) ?_
    have k776 : fCall S 2 3 0 0 = ((S.2.2.1 4), S) := s_ab3 S 0 0
    refine xw_callEi (va_runS (As := [.ref (av 0), .int 2, .int 3, .int 0, .int 0]) (rest := []) ⟨hx, hb, hml, hown, hts⟩ (c_call l hst D y av ga773 gb774 H.size S 2 3 0 0 hG.ok) (va_cwS 5 hts gL_holds_L_call rfl rfl rfl hd_L_call ⟨Nat.le_of_ble_eq_true rfl, Nat.le_of_ble_eq_true rfl⟩) (lS hE hXE hLN hXZ hS hA hP hD) rfl rfl hl.1 rfl (lv_room (Nat.le_of_ble_eq_true rfl)) dL_holds_94 ⟨Nat.le_of_ble_eq_true rfl, Nat.le_of_ble_eq_true rfl⟩) hD hS hA (fun v777 u778 ga780 gb781 H locs h779 hP hD hS => ?_)
    obtain ⟨rfl, rfl⟩ := Prod.mk.inj (k776.symm.trans h779)
    refine lv_aload_n hx hb dL_holds_97 rfl (lv_at hl 5 rfl) ?_
    refine lv_iconst (v := 2) hx hb dL_holds_98 (by decide) ?_
    refine lv_bipush (v := 10) hx hb dL_holds_99 (by decide) ?_
    refine lv_iconst (v := 0) hx hb dL_holds_101 (by decide) ?_
    refine lv_iconst (v := 0) hx hb dL_holds_102 (by decide) ?_
    have k782 : fCall S 2 10 0 0 = ((S.2.2.1 9), S) := s_ab10 S 0 0
    refine xw_callEi (va_runS (As := [.ref (av 0), .int 2, .int 10, .int 0, .int 0]) (rest := [.int (S.2.2.1 4)]) ⟨hx, hb, hml, hown, hts⟩ (c_call l hst D y av ga780 gb781 H.size S 2 10 0 0 hG.ok) (va_cwS 5 hts gL_holds_L_call rfl rfl rfl hd_L_call ⟨Nat.le_of_ble_eq_true rfl, Nat.le_of_ble_eq_true rfl⟩) (lS hE hXE hLN hXZ hS hA hP hD) rfl rfl hl.1 rfl (lv_room (Nat.le_of_ble_eq_true rfl)) dL_holds_103 ⟨Nat.le_of_ble_eq_true rfl, Nat.le_of_ble_eq_true rfl⟩) hD hS hA (fun v783 u784 ga786 gb787 H locs h785 hP hD hS => ?_)
    obtain ⟨rfl, rfl⟩ := Prod.mk.inj (k782.symm.trans h785)
    refine lv_iadd hx hb dL_holds_106 ?_
    refine lv_iconst (v := 4) hx hb dL_holds_107 (by decide) ?_
    refine lv_icmp_gt (tgt := 170) hx hb dL_holds_108 (by decide) (fun cb788 => absurd cb788 hs4) (fun cb788 => ?_)
    refine lv_aload_n hx hb dL_holds_111 rfl (lv_at hl 5 rfl) ?_
    refine lv_iconst (v := 2) hx hb dL_holds_112 (by decide) ?_
    refine lv_bipush (v := 11) hx hb dL_holds_113 (by decide) ?_
    refine lv_iconst (v := 0) hx hb dL_holds_115 (by decide) ?_
    refine lv_iconst (v := 0) hx hb dL_holds_116 (by decide) ?_
    have k789 : fCall S 2 11 0 0 = ((S.2.2.1 10), S) := s_ab11 S 0 0
    refine xw_callEi (va_runS (As := [.ref (av 0), .int 2, .int 11, .int 0, .int 0]) (rest := []) ⟨hx, hb, hml, hown, hts⟩ (c_call l hst D y av ga786 gb787 H.size S 2 11 0 0 hG.ok) (va_cwS 5 hts gL_holds_L_call rfl rfl rfl hd_L_call ⟨Nat.le_of_ble_eq_true rfl, Nat.le_of_ble_eq_true rfl⟩) (lS hE hXE hLN hXZ hS hA hP hD) rfl rfl hl.1 rfl (lv_room (Nat.le_of_ble_eq_true rfl)) dL_holds_117 ⟨Nat.le_of_ble_eq_true rfl, Nat.le_of_ble_eq_true rfl⟩) hD hS hA (fun v790 u791 ga793 gb794 H locs h792 hP hD hS => ?_)
    obtain ⟨rfl, rfl⟩ := Prod.mk.inj (k789.symm.trans h792)
    refine lv_aload_n hx hb dL_holds_120 rfl (lv_at hl 5 rfl) ?_
    refine lv_iconst (v := 2) hx hb dL_holds_121 (by decide) ?_
    refine lv_iconst (v := 4) hx hb dL_holds_122 (by decide) ?_
    refine lv_iconst (v := 0) hx hb dL_holds_123 (by decide) ?_
    refine lv_iconst (v := 0) hx hb dL_holds_124 (by decide) ?_
    have k795 : fCall S 2 4 0 0 = ((S.2.2.1 5), S) := s_ab4 S 0 0
    refine xw_callEi (va_runS (As := [.ref (av 0), .int 2, .int 4, .int 0, .int 0]) (rest := [.int (S.2.2.1 10)]) ⟨hx, hb, hml, hown, hts⟩ (c_call l hst D y av ga793 gb794 H.size S 2 4 0 0 hG.ok) (va_cwS 5 hts gL_holds_L_call rfl rfl rfl hd_L_call ⟨Nat.le_of_ble_eq_true rfl, Nat.le_of_ble_eq_true rfl⟩) (lS hE hXE hLN hXZ hS hA hP hD) rfl rfl hl.1 rfl (lv_room (Nat.le_of_ble_eq_true rfl)) dL_holds_125 ⟨Nat.le_of_ble_eq_true rfl, Nat.le_of_ble_eq_true rfl⟩) hD hS hA (fun v796 u797 ga799 gb800 H locs h798 hP hD hS => ?_)
    obtain ⟨rfl, rfl⟩ := Prod.mk.inj (k795.symm.trans h798)
    refine lv_aload_n hx hb dL_holds_128 rfl (lv_at hl 5 rfl) ?_
    refine lv_iconst (v := 2) hx hb dL_holds_129 (by decide) ?_
    refine lv_iconst (v := 5) hx hb dL_holds_130 (by decide) ?_
    refine lv_iconst (v := 0) hx hb dL_holds_131 (by decide) ?_
    refine lv_iconst (v := 0) hx hb dL_holds_132 (by decide) ?_
    have k801 : fCall S 2 5 0 0 = ((S.2.2.1 6), S) := s_ab5 S 0 0
    refine xw_callEi (va_runS (As := [.ref (av 0), .int 2, .int 5, .int 0, .int 0]) (rest := [.int (S.2.2.1 5), .int (S.2.2.1 10)]) ⟨hx, hb, hml, hown, hts⟩ (c_call l hst D y av ga799 gb800 H.size S 2 5 0 0 hG.ok) (va_cwS 5 hts gL_holds_L_call rfl rfl rfl hd_L_call ⟨Nat.le_of_ble_eq_true rfl, Nat.le_of_ble_eq_true rfl⟩) (lS hE hXE hLN hXZ hS hA hP hD) rfl rfl hl.1 rfl (lv_room (Nat.le_of_ble_eq_true rfl)) dL_holds_133 ⟨Nat.le_of_ble_eq_true rfl, Nat.le_of_ble_eq_true rfl⟩) hD hS hA (fun v802 u803 ga805 gb806 H locs h804 hP hD hS => ?_)
    obtain ⟨rfl, rfl⟩ := Prod.mk.inj (k801.symm.trans h804)
    refine lv_iadd hx hb dL_holds_136 ?_
    refine lv_aload_n hx hb dL_holds_137 rfl (lv_at hl 5 rfl) ?_
    refine lv_iconst (v := 2) hx hb dL_holds_138 (by decide) ?_
    refine lv_bipush (v := 10) hx hb dL_holds_139 (by decide) ?_
    refine lv_iconst (v := 0) hx hb dL_holds_141 (by decide) ?_
    refine lv_iconst (v := 0) hx hb dL_holds_142 (by decide) ?_
    have k807 : fCall S 2 10 0 0 = ((S.2.2.1 9), S) := s_ab10 S 0 0
    refine xw_callEi (va_runS (As := [.ref (av 0), .int 2, .int 10, .int 0, .int 0]) (rest := [.int ((S.2.2.1 5) + (S.2.2.1 6)), .int (S.2.2.1 10)]) ⟨hx, hb, hml, hown, hts⟩ (c_call l hst D y av ga805 gb806 H.size S 2 10 0 0 hG.ok) (va_cwS 5 hts gL_holds_L_call rfl rfl rfl hd_L_call ⟨Nat.le_of_ble_eq_true rfl, Nat.le_of_ble_eq_true rfl⟩) (lS hE hXE hLN hXZ hS hA hP hD) rfl rfl hl.1 rfl (lv_room (Nat.le_of_ble_eq_true rfl)) dL_holds_143 ⟨Nat.le_of_ble_eq_true rfl, Nat.le_of_ble_eq_true rfl⟩) hD hS hA (fun v808 u809 ga811 gb812 H locs h810 hP hD hS => ?_)
    obtain ⟨rfl, rfl⟩ := Prod.mk.inj (k807.symm.trans h810)
    refine lv_iadd hx hb dL_holds_146 ?_
    refine lv_icmp_ne (tgt := 170) hx hb dL_holds_147 (by decide) (fun cb813 => absurd hG.gd.2.2.2.2.1 cb813) (fun cb813 => ?_)
    refine lv_iload hx hb dL_holds_150 (lv_at hl 0 rfl) ?_
    refine lv_if_eq (tgt := 166) hx hb dL_holds_152 (by decide) (fun cb814 => absurd cb814 (by decide)) (fun cb814 => ?_)
    refine lv_aload_n hx hb dL_holds_155 rfl (lv_at hl 5 rfl) ?_
    refine lv_iconst (v := 2) hx hb dL_holds_156 (by decide) ?_
    refine lv_iconst (v := 3) hx hb dL_holds_157 (by decide) ?_
    refine lv_iconst (v := 0) hx hb dL_holds_158 (by decide) ?_
    refine lv_iconst (v := 0) hx hb dL_holds_159 (by decide) ?_
    have k815 : fCall S 2 3 0 0 = (0, S) := (s_ab3 S 0 0).trans (by rw [hG.gd.2.2.2.2.2.1.2.2 h8])
    refine xw_callEi (va_runS (As := [.ref (av 0), .int 2, .int 3, .int 0, .int 0]) (rest := []) ⟨hx, hb, hml, hown, hts⟩ (c_call l hst D y av ga811 gb812 H.size S 2 3 0 0 hG.ok) (va_cwS 5 hts gL_holds_L_call rfl rfl rfl hd_L_call ⟨Nat.le_of_ble_eq_true rfl, Nat.le_of_ble_eq_true rfl⟩) (lS hE hXE hLN hXZ hS hA hP hD) rfl rfl hl.1 rfl (lv_room (Nat.le_of_ble_eq_true rfl)) dL_holds_160 ⟨Nat.le_of_ble_eq_true rfl, Nat.le_of_ble_eq_true rfl⟩) hD hS hA (fun v816 u817 ga819 gb820 H locs h818 hP hD hS => ?_)
    obtain ⟨rfl, rfl⟩ := Prod.mk.inj (k815.symm.trans h818)
    refine lv_if_ne (tgt := 170) hx hb dL_holds_163 (by decide) (fun cb821 => absurd (by decide) cb821) (fun cb821 => ?_)
    refine lv_iconst (v := 1) hx hb dL_holds_166 (by decide) ?_
    refine lv_goto (tgt := 171) hx hb dL_holds_167 (by decide) ?_
    refine lv_istore (lv' := [(7, .int 1), (6, .int 1), (5, .int 1000000), (4, .int 0), (3, .int (nI G)), (2, .int (nI N)), (0, .ref (av 0)), (1, .int (nI X))]) hx hb dL_holds_171 hl (by decide) rfl (fun ls hl => ?_)
    refine lv_iconst (v := 0) hx hb dL_holds_173 (by decide) ?_
    refine lv_istore (lv' := [(8, .int 0), (7, .int 1), (6, .int 1), (5, .int 1000000), (4, .int 0), (3, .int (nI G)), (2, .int (nI N)), (0, .ref (av 0)), (1, .int (nI X))]) hx hb dL_holds_174 hl (by decide) rfl (fun ls hl => ?_)
    refine W.widen (k := 100 + 15 * 0) (n := 2000 + 276 * 0) (by omega) (by omega) ?_
    exact loop (N + 1) 0 (by omega) ga819 gb820 H locs ls hP hD hS (lv_sub hl [7, 8, 6, 5, 4, 3, 2, 1, 0] rfl)
