/-! THE LAW'S BODY: the turns -/
set_option maxHeartbeats 8000000 in
set_option maxRecDepth 100000 in
theorem law_loop {p : Program} {l : Launch} {e : Env} {s : State} {m : MethodId} {below : List Frame} {meth : Method} {c : Code} {b L : Nat} {xs : Nat → Int32} {D : va_G} {y : Nat → ClassId} (C0 : lw_At p s m meth c b L xs) (hE : gE D y s) (hXE : xE s) (hLN : lNc s) (hXZ : xZ (fun q : Nat => s.heap.size ≤ q) s s.heap) (hst : l.stackTraces = false) (hL : L ≤ 260) {av bv : Nat → Nat} {T : Nat} (hT : T ≤ 30) : ∀ (d j : Nat), j + d = T → ∀ (S : oS) (c0 : gR) (ga gb gc gd : Nat → Nat × Nat × Nat) (H : Heap) (locs : List Loc) (ls : Array Slot) , GS S → va_P D vwCl (oW y av ga gb S ++ oW y bv gc gd (sRc S c0)) H → va_D (fun q : Nat => s.heap.size ≤ q) (oW y av ga gb S ++ oW y bv gc gd (sRc S c0)) → va_S (fun q : Nat => s.heap.size ≤ q) s.heap H locs → lv_has ls 23 [(0, .ref b), (1, .ref (av 0)), (2, .ref (bv 0)), (6, .int 1), (7, .int (nI T)), (8, .int (nI j))] → W p l e room_1 s m #[Value.ref b] below meth c H locs (1000 + 3200 * j) (20000 + 58000 * j) (lw_Z below #[Value.ref b] s) (F0 m 158 ls []) := by
  obtain ⟨hx, hb, hr, hml, hown, hts, hX, hbl, hlocks, hgv⟩ := id C0
  have hown : s.vm.findClass RL = some m.cls := hown
  have htl : ∀ w ∈ wsL_law, w.before #[Value.ref b] s = true := fun w h => hts w (wsL_law_in w h)
  have hA : ∀ q : Nat, s.heap.size ≤ q → (fun q : Nat => s.heap.size ≤ q) q := fun _ h => h
  have hbA : ¬ (fun q : Nat => s.heap.size ≤ q) b := Nat.not_le.mpr hbl
  have w_0 := hts (.constant RL 197 (100000)) (by decide +kernel)
  intro d
  induction d with
  | zero =>
    intro j hj S c0 ga gb gc gd H locs ls hG hP hD hS hl
    obtain rfl : j = T := by omega
    refine lv_iload hx hb dL_law_158 (lv_at hl 5 rfl) ?_
    refine lv_iload hx hb dL_law_160 (lv_at hl 4 rfl) ?_
    refine lv_icmp_ge (tgt := 644) hx hb dL_law_162 (by decide) (fun cb306 => ?_) (fun cb306 => absurd (nI_le (a := j) (b := j) (by omega) (by omega)) cb306)
    refine lv_iload hx hb dL_law_644 (lv_at hl 3 rfl) ?_
    refine va_forget (fun q hq => hS.2.2 q hq) ?_
    refine W.widen (k := 600130) (n := 7301079) (by omega) (by omega) ?_
    exact lw_ret hx hb hr hlocks dL_law_646
  | succ d ih =>
    intro j hj S c0 ga gb gc gd H locs ls hG hP hD hS hl
    obtain ⟨X, hXX, eX⟩ := cell_nat L xs (5 + j)
    refine lv_iload hx hb dL_law_158 (lv_at hl 5 rfl) ?_
    refine lv_iload hx hb dL_law_160 (lv_at hl 4 rfl) ?_
    refine lv_icmp_ge (tgt := 644) hx hb dL_law_162 (by decide) (fun cb307 => absurd cb307 (nI_ge (a := j) (b := T) (by omega) (by omega))) (fun cb307 => ?_)
    refine lv_iload hx hb dL_law_165 (lv_at hl 3 rfl) ?_
    refine lv_if_eq (tgt := 644) hx hb dL_law_167 (by decide) (fun cb308 => absurd cb308 (by decide)) (fun cb308 => ?_)
    refine lv_aload_n hx hb dL_law_170 rfl (lv_at hl 0 rfl) ?_
    refine lv_iconst (v := 5) hx hb dL_law_171 (by decide) ?_
    refine lv_iload hx hb dL_law_172 (lv_at hl 5 rfl) ?_
    refine lv_iadd hx hb dL_law_174 ?_
    refine lv_topi (fun z309 ez309 => ?_)
    obtain rfl : z309 = nI (5 + j) := ez309.trans ((nI_add 5 j : nI 5 + nI j = _))
    refine xs_calli (va_runS (As := [.ref b, .int (nI (5 + j))]) (rest := []) ⟨hx, hb, hml, hown, htl⟩ (c_cell l b L xs (5 + j) H.size (by omega) (by omega)) (va_cwS 2 htl gL_law_L_cell rfl rfl rfl hd_L_cell ⟨Nat.le_of_ble_eq_true rfl, Nat.le_of_ble_eq_true rfl⟩) (cS (k := nI (5 + j)) hX hbl hbA hS) rfl rfl hl.1 rfl (lv_room (Nat.le_of_ble_eq_true rfl)) dL_law_175 ⟨by show _ ≤ 600130; omega, by show _ ≤ 7301079; omega⟩) (fun v310 h311 => ?_)
    obtain rfl : nI X = v310 := eX.symm.trans h311
    refine lv_istore (lv' := [(9, .int (nI X)), (0, .ref b), (1, .ref (av 0)), (2, .ref (bv 0)), (6, .int 1), (7, .int (nI T)), (8, .int (nI j))]) hx hb dL_law_178 hl (by decide) rfl (fun ls hl => ?_)
    refine lv_aload_n hx hb dL_law_180 rfl (lv_at hl 2 rfl) ?_
    refine lv_iload hx hb dL_law_181 (lv_at hl 0 rfl) ?_
    have hP := xa_permP List.perm_append_comm hP
    have hD := xa_permD List.perm_append_comm hD
    refine xl_callEi (ex := oW y bv gc gd (sRc S c0)) (va_runS (As := [.ref (av 0), .int (nI X)]) (rest := []) ⟨hx, hb, hml, hown, htl⟩ (c_act l hst D y av ga gb S (X) hG (by omega) H.size) (va_cwS 2 htl gL_law_L_act rfl rfl rfl hd_L_act ⟨Nat.le_of_ble_eq_true rfl, Nat.le_of_ble_eq_true rfl⟩) (lS hE hXE hLN hXZ hS hA (law_subE hP) (law_subD hD)) rfl rfl hl.1 rfl (lv_room (Nat.le_of_ble_eq_true rfl)) dL_law_183 ⟨by show _ ≤ 600130; omega, by show _ ≤ 7301079; omega⟩) hP hD hS hA (fun v312 u313 ga315 gb316 H locs h314 hP hD hS => ?_)
    have hP := xa_permP List.perm_append_comm hP
    have hD := xa_permD List.perm_append_comm hD
    have hG1 : GS u313 := by have q := fAct_GS (X := X) hG; rw [h314] at q; exact q
    refine lv_istore (lv' := [(10, .int v312), (9, .int (nI X)), (0, .ref b), (1, .ref (av 0)), (2, .ref (bv 0)), (6, .int 1), (7, .int (nI T)), (8, .int (nI j))]) hx hb dL_law_186 hl (by decide) rfl (fun ls hl => ?_)
    refine lv_aload_n hx hb dL_law_188 rfl (lv_at hl 4 rfl) ?_
    refine lv_iload hx hb dL_law_189 (lv_at hl 1 rfl) ?_
    refine lv_ldc (v := 100000) hx hb hown w_0 dL_law_191 ?_
    refine lv_irem hx hb dL_law_193 (by decide) ?_
    refine lv_topi (fun z317 ez317 => ?_)
    obtain rfl : z317 = nI (X % 100000) := ez317.trans ((pk_rem (a := X) (d := 100000) (by omega) (by omega) (by omega) : nI X - nI X / nI 100000 * nI 100000 = _))
    refine xl_callEi (ex := oW y av ga315 gb316 u313) (va_runS (As := [.ref (bv 0), .int (nI (X % 100000))]) (rest := []) ⟨hx, hb, hml, hown, htl⟩ (c_refuses l hst D y bv gc gd (sRc S c0) (X % 100000) hG (by omega) H.size) (va_cwS 2 htl gL_law_L_refuses rfl rfl rfl hd_L_refuses ⟨Nat.le_of_ble_eq_true rfl, Nat.le_of_ble_eq_true rfl⟩) (lS hE hXE hLN hXZ hS hA (law_subE hP) (law_subD hD)) rfl rfl hl.1 rfl (lv_room (Nat.le_of_ble_eq_true rfl)) dL_law_194 ⟨by show _ ≤ 600130; omega, by show _ ≤ 7301079; omega⟩) hP hD hS hA (fun v318 u319 ga321 gb322 H locs h320 hP hD hS => ?_)
    obtain ⟨rfl, h3202⟩ := h320
    subst h3202
    refine lv_if_eq (tgt := 274) hx hb dL_law_197 (by decide) (fun cb323 => absurd cb323 (by decide)) (fun cb323 => ?_)
    refine lv_aload_n hx hb dL_law_200 rfl (lv_at hl 4 rfl) ?_
    refine lv_iload hx hb dL_law_201 (lv_at hl 1 rfl) ?_
    refine xl_callEi (ex := oW y av ga315 gb316 u313) (va_runS (As := [.ref (bv 0), .int (nI X)]) (rest := []) ⟨hx, hb, hml, hown, htl⟩ (c_act l hst D y bv ga321 gb322 (sRc S c0) (X) hG (by omega) H.size) (va_cwS 2 htl gL_law_L_act rfl rfl rfl hd_L_act ⟨Nat.le_of_ble_eq_true rfl, Nat.le_of_ble_eq_true rfl⟩) (lS hE hXE hLN hXZ hS hA (law_subE hP) (law_subD hD)) rfl rfl hl.1 rfl (lv_room (Nat.le_of_ble_eq_true rfl)) dL_law_203 ⟨by show _ ≤ 600130; omega, by show _ ≤ 7301079; omega⟩) hP hD hS hA (fun v324 u325 ga327 gb328 H locs h326 hP hD hS => ?_)
    obtain ⟨c9, hc9⟩ := fAct_rc S c0 (X)
    rw [h314] at hc9
    have hc8 : fAct (sRc S c0) (X) = (v312, sRc u313 c9) := hc9
    obtain ⟨rfl, rfl⟩ := Prod.mk.inj (hc8.symm.trans h326)
    refine lv_iload hx hb dL_law_206 (lv_at hl 0 rfl) ?_
    refine lv_icmp_ne (tgt := 274) hx hb dL_law_208 (by decide) (fun cb329 => absurd rfl cb329) (fun cb329 => ?_)
    refine lv_aload_n hx hb dL_law_211 rfl (lv_at hl 4 rfl) ?_
    refine lv_iload hx hb dL_law_212 (lv_at hl 1 rfl) ?_
    refine lv_sipush (v := 1000) hx hb dL_law_214 (by decide) ?_
    refine lv_irem hx hb dL_law_217 (by decide) ?_
    refine lv_topi (fun z330 ez330 => ?_)
    obtain rfl : z330 = nI (X % 1000) := ez330.trans ((pk_rem (a := X) (d := 1000) (by omega) (by omega) (by omega) : nI X - nI X / nI 1000 * nI 1000 = _))
    refine xl_callEi (ex := oW y av ga315 gb316 u313) (va_runS (As := [.ref (bv 0), .int (nI (X % 1000))]) (rest := []) ⟨hx, hb, hml, hown, htl⟩ (c_refuses l hst D y bv ga327 gb328 (sRc u313 c9) (X % 1000) hG1 (by omega) H.size) (va_cwS 2 htl gL_law_L_refuses rfl rfl rfl hd_L_refuses ⟨Nat.le_of_ble_eq_true rfl, Nat.le_of_ble_eq_true rfl⟩) (lS hE hXE hLN hXZ hS hA (law_subE hP) (law_subD hD)) rfl rfl hl.1 rfl (lv_room (Nat.le_of_ble_eq_true rfl)) dL_law_218 ⟨by show _ ≤ 600130; omega, by show _ ≤ 7301079; omega⟩) hP hD hS hA (fun v331 u332 ga334 gb335 H locs h333 hP hD hS => ?_)
    obtain ⟨rfl, h3332⟩ := h333
    subst h3332
    refine lv_if_eq (tgt := 274) hx hb dL_law_221 (by decide) (fun cb336 => absurd cb336 (by decide)) (fun cb336 => ?_)
    refine lv_aload_n hx hb dL_law_224 rfl (lv_at hl 3 rfl) ?_
    refine lv_aload_n hx hb dL_law_225 rfl (lv_at hl 4 rfl) ?_
    refine lv_iload hx hb dL_law_226 (lv_at hl 1 rfl) ?_
    refine lv_sipush (v := 5000) hx hb dL_law_228 (by decide) ?_
    refine lv_irem hx hb dL_law_231 (by decide) ?_
    refine lv_topi (fun z337 ez337 => ?_)
    obtain rfl : z337 = nI (X % 5000) := ez337.trans ((pk_rem (a := X) (d := 5000) (by omega) (by omega) (by omega) : nI X - nI X / nI 5000 * nI 5000 = _))
    refine xw_callEi (va_runS (As := [.ref (av 0), .ref (bv 0), .int (nI (X % 5000))]) (rest := []) ⟨hx, hb, hml, hown, htl⟩ (c_alike l hst D y av bv ga315 gb316 ga334 gb335 u313 c9 (X % 5000) hG1 (by omega) H.size) (va_cwS 3 htl gL_law_L_alike rfl rfl rfl hd_L_alike ⟨Nat.le_of_ble_eq_true rfl, Nat.le_of_ble_eq_true rfl⟩) (lS hE hXE hLN hXZ hS hA hP hD) rfl rfl hl.1 rfl (lv_room (Nat.le_of_ble_eq_true rfl)) dL_law_232 ⟨by show _ ≤ 600130; omega, by show _ ≤ 7301079; omega⟩) hD hS hA (fun v338 u339 gp341 gq342 H locs h340 hP hD hS => ?_)
    obtain ⟨rfl, d1, d2, rfl⟩ := h340
    have hP : va_P D vwCl (oW y av gp341.1 gp341.2 (sRc u313 d1) ++ oW y bv gq342.1 gq342.2 (sRc u313 d2)) H := hP
    have hD : va_D (fun q : Nat => s.heap.size ≤ q) (oW y av gp341.1 gp341.2 (sRc u313 d1) ++ oW y bv gq342.1 gq342.2 (sRc u313 d2)) := hD
    refine lv_if_eq (tgt := 274) hx hb dL_law_235 (by decide) (fun cb343 => absurd cb343 (by decide)) (fun cb343 => ?_)
    refine lv_iload hx hb dL_law_238 (lv_at hl 7 rfl) ?_
    refine lv_iconst (v := 2) hx hb dL_law_240 (by decide) ?_
    refine lv_irem hx hb dL_law_241 (by decide) ?_
    refine lv_topi (fun z344 ez344 => ?_)
    obtain rfl : z344 = nI (j % 2) := ez344.trans ((pk_rem (a := j) (d := 2) (by omega) (by omega) (by omega) : nI j - nI j / nI 2 * nI 2 = _))
    refine lv_if_ne (tgt := 259) hx hb dL_law_242 (by decide) (fun cb345 => ?_) (fun cb345 => ?_)
    · skip
      refine lv_aload_n hx hb dL_law_259 rfl (lv_at hl 4 rfl) ?_
      refine lv_iload hx hb dL_law_260 (lv_at hl 1 rfl) ?_
      refine lv_iconst (v := 5) hx hb dL_law_262 (by decide) ?_
      refine lv_idiv hx hb dL_law_263 (by decide) ?_
      refine lv_topi (fun z346 ez346 => ?_)
      obtain rfl : z346 = nI (X / 5) := ez346.trans ((pk_div (a := X) (d := 5) (by omega) (by omega) (by omega) : nI X / nI 5 = _))
      refine xl_callEi (ex := oW y av gp341.1 gp341.2 (sRc u313 d1)) (va_runS (As := [.ref (bv 0), .int (nI (X / 5))]) (rest := []) ⟨hx, hb, hml, hown, htl⟩ (c_holds l hst D y bv gq342.1 gq342.2 (sRc u313 d2) (X / 5) hG1 (by omega) H.size) (va_cwS 2 htl gL_law_L_holds rfl rfl rfl hd_L_holds ⟨Nat.le_of_ble_eq_true rfl, Nat.le_of_ble_eq_true rfl⟩) (lS hE hXE hLN hXZ hS hA (law_subE hP) (law_subD hD)) rfl rfl hl.1 rfl (lv_room (Nat.le_of_ble_eq_true rfl)) dL_law_264 ⟨by show _ ≤ 600130; omega, by show _ ≤ 7301079; omega⟩) hP hD hS hA (fun v347 u348 ga350 gb351 H locs h349 hP hD hS => ?_)
      obtain ⟨rfl, d3, rfl⟩ := h349
      have hP : va_P D vwCl (oW y av gp341.1 gp341.2 (sRc u313 d1) ++ oW y bv ga350 gb351 (sRc u313 d3)) H := hP
      have hD : va_D (fun q : Nat => s.heap.size ≤ q) (oW y av gp341.1 gp341.2 (sRc u313 d1) ++ oW y bv ga350 gb351 (sRc u313 d3)) := hD
      refine lv_if_eq (tgt := 274) hx hb dL_law_267 (by decide) (fun cb352 => absurd cb352 (by decide)) (fun cb352 => ?_)
      refine lv_iconst (v := 1) hx hb dL_law_270 (by decide) ?_
      refine lv_goto (tgt := 275) hx hb dL_law_271 (by decide) ?_
      refine W.widen (k := 1000 + 3200 * j + 2960) (n := 20000 + 58000 * j + 55000) (by omega) (by omega) ?_
      refine law_rest C0 hE hXE hLN hXZ hst hL (T := T) (j := j) (X := X) (by omega) hT hXX (cells := 1000 + 3200 * j + 2960) (slots := 20000 + 58000 * j + 55000) (by omega) (fun S c0 ga gb gc gd H locs ls hG hP hD hS hl => ?_) (sRc u313 d1) d3 gp341.1 gp341.2 ga350 gb351 H locs ls hG1 hP hD hS (lv_sub hl [2, 3, 4, 5, 6, 7, 1] rfl)
      refine W.widen (k := 1000 + 3200 * (j + 1)) (n := 20000 + 58000 * (j + 1)) (by omega) (by omega) ?_
      exact ih (j + 1) (by omega) S c0 ga gb gc gd H locs ls hG hP hD hS hl
    · skip
      refine lv_aload_n hx hb dL_law_245 rfl (lv_at hl 3 rfl) ?_
      refine lv_iload hx hb dL_law_246 (lv_at hl 1 rfl) ?_
      refine lv_iconst (v := 3) hx hb dL_law_248 (by decide) ?_
      refine lv_idiv hx hb dL_law_249 (by decide) ?_
      refine lv_topi (fun z353 ez353 => ?_)
      obtain rfl : z353 = nI (X / 3) := ez353.trans ((pk_div (a := X) (d := 3) (by omega) (by omega) (by omega) : nI X / nI 3 = _))
      have hP := xa_permP List.perm_append_comm hP
      have hD := xa_permD List.perm_append_comm hD
      refine xl_callEi (ex := oW y bv gq342.1 gq342.2 (sRc u313 d2)) (va_runS (As := [.ref (av 0), .int (nI (X / 3))]) (rest := []) ⟨hx, hb, hml, hown, htl⟩ (c_holds l hst D y av gp341.1 gp341.2 (sRc u313 d1) (X / 3) hG1 (by omega) H.size) (va_cwS 2 htl gL_law_L_holds rfl rfl rfl hd_L_holds ⟨Nat.le_of_ble_eq_true rfl, Nat.le_of_ble_eq_true rfl⟩) (lS hE hXE hLN hXZ hS hA (law_subE hP) (law_subD hD)) rfl rfl hl.1 rfl (lv_room (Nat.le_of_ble_eq_true rfl)) dL_law_250 ⟨by show _ ≤ 600130; omega, by show _ ≤ 7301079; omega⟩) hP hD hS hA (fun v354 u355 ga357 gb358 H locs h356 hP hD hS => ?_)
      have hP := xa_permP List.perm_append_comm hP
      have hD := xa_permD List.perm_append_comm hD
      obtain ⟨rfl, d3, rfl⟩ := h356
      have hP : va_P D vwCl (oW y av ga357 gb358 (sRc u313 d3) ++ oW y bv gq342.1 gq342.2 (sRc u313 d2)) H := hP
      have hD : va_D (fun q : Nat => s.heap.size ≤ q) (oW y av ga357 gb358 (sRc u313 d3) ++ oW y bv gq342.1 gq342.2 (sRc u313 d2)) := hD
      refine lv_if_eq (tgt := 274) hx hb dL_law_253 (by decide) (fun cb359 => absurd cb359 (by decide)) (fun cb359 => ?_)
      refine lv_goto (tgt := 270) hx hb dL_law_256 (by decide) ?_
      refine lv_iconst (v := 1) hx hb dL_law_270 (by decide) ?_
      refine lv_goto (tgt := 275) hx hb dL_law_271 (by decide) ?_
      refine W.widen (k := 1000 + 3200 * j + 2960) (n := 20000 + 58000 * j + 55000) (by omega) (by omega) ?_
      refine law_rest C0 hE hXE hLN hXZ hst hL (T := T) (j := j) (X := X) (by omega) hT hXX (cells := 1000 + 3200 * j + 2960) (slots := 20000 + 58000 * j + 55000) (by omega) (fun S c0 ga gb gc gd H locs ls hG hP hD hS hl => ?_) (sRc u313 d3) d2 ga357 gb358 gq342.1 gq342.2 H locs ls hG1 hP hD hS (lv_sub hl [2, 3, 4, 5, 6, 7, 1] rfl)
      refine W.widen (k := 1000 + 3200 * (j + 1)) (n := 20000 + 58000 * (j + 1)) (by omega) (by omega) ?_
      exact ih (j + 1) (by omega) S c0 ga gb gc gd H locs ls hG hP hD hS hl
