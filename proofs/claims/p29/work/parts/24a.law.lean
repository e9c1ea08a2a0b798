/-! THE LAW'S BODY: a turn's rest -/
def R_law : String := "GapLinesLaw"
def lw_P (b : Addr) (xs : List Int32) (args : Array Value) (s : State) : Prop := args = #[.ref b] ∧ s.IntsAt b xs ∧ xs.length ≤ 260 ∧ (Jvm.Cond.and given_1 narrow_1).before args s = true
def lw_Q (_ : Array Value) (s : State) (o : Outcome) (t : State) : Prop := o = .returned (some (.int 1)) ∧ Framed s o t [] 600130 7301079
def lw_Z (below : List Frame) (a : Array Value) (s : State) : State → Prop := fun t => ∃ o, t.status = .running ∧ Ended t below o ∧ lw_Q a s o t
/-- the law's own end, with 1 on the stack, nothing written that was there before, its room as the claim has it -/
theorem lw_ret {p : Program} {l : Launch} {e : Env} {s : State} {m : MethodId} {below : List Frame} {meth : Method} {c : Code} {b : Nat} (hx : p.tables.exec = Jvm.exec) (hb : c.code = code) (hr : meth.sig.returnType = ret) (hlocks : meth.locks = false) {pc : Nat} {H : Heap} {ls : Array Slot} (hdg : decode code pc = .ok (.ireturn, 1)) : W p l e room_1 s m #[Value.ref b] below meth c H [] 600130 7301079 (lw_Z below #[Value.ref b] s) (F0 m pc ls [.int 1]) := by
  intro T hT X
  obtain ⟨fs, hret, hrun, hended, hW, hframe⟩ := X.leave (v := some (.int 1)) (hlocks := hlocks) (fun h => by rw [hr] at h; cases h)
  have hmeth' : T.vm.method? m = some meth := X.method'
  refine ⟨T.setFrames fs, ?_, .returned (some (.int 1)), hrun, hended, rfl, ⟨_, rfl⟩, hW, hframe⟩
  jvm_step X.here [X.here.top, hx, hb, hdg, hmeth', hr, ret, narrow_b1]
  (try refine ⟨rfl, ?_⟩); (try refine ⟨rfl, ?_⟩)
  first | (intro acts; rw [hret _ acts rfl rfl rfl]) | rw [hret _ _ rfl rfl rfl]
  exact Steps.refl _
/-- what holds at the law's entry: the machine, the code, the tables' words (any of lw_tbl by 'hts w (by decide +kernel)'), the script of L ints xs at the cell b, what the Statement gives of the start (any of its parts by flat_of_before) -/
def lw_At (p : Program) (s : State) (m : MethodId) (meth : Method) (c : Code) (b L : Nat) (xs : Nat → Int32) : Prop :=
  p.tables.exec = Jvm.exec ∧ c.code = code ∧ meth.sig.returnType = ret ∧ c.maxLocals = 23 ∧ s.vm.findClass R_law = some m.cls ∧ (∀ w ∈ lw_tbl, w.before #[Value.ref b] s = true) ∧ va_X b L xs s s.heap ∧ b < s.heap.size ∧ meth.locks = false ∧ (Jvm.Cond.and given_1 narrow_1).before #[Value.ref b] s = true
set_option maxHeartbeats 8000000 in
set_option maxRecDepth 100000 in
theorem law_rest {p : Program} {l : Launch} {e : Env} {s : State} {m : MethodId} {below : List Frame} {meth : Method} {c : Code} {b L : Nat} {xs : Nat → Int32} {D : va_G} {y : Nat → ClassId} (C0 : lw_At p s m meth c b L xs) (hE : gE D y s) (hXE : xE s) (hLN : lNc s) (hXZ : xZ (fun q : Nat => s.heap.size ≤ q) s s.heap) (hst : l.stackTraces = false) (hL : L ≤ 260) {av bv : Nat → Nat} {T j X : Nat} (hj : j < T) (hT : T ≤ 30) (hXX : X < 2147483648) {cells slots : Nat} (hcs : cells ≤ 100000 ∧ slots ≤ 2000000) (kk : ∀ (S : oS) (c0 : gR) (ga gb gc gd : Nat → Nat × Nat × Nat) (H : Heap) (locs : List Loc) (ls : Array Slot) , GS S → va_P D vwCl (oW y av ga gb S ++ oW y bv gc gd (sRc S c0)) H → va_D (fun q : Nat => s.heap.size ≤ q) (oW y av ga gb S ++ oW y bv gc gd (sRc S c0)) → va_S (fun q : Nat => s.heap.size ≤ q) s.heap H locs → lv_has ls 23 [(0, .ref b), (1, .ref (av 0)), (2, .ref (bv 0)), (6, .int 1), (7, .int (nI T)), (8, .int (nI (j + 1)))] → W p l e room_1 s m #[Value.ref b] below meth c H locs (cells + 200) (slots + 3000) (lw_Z below #[Value.ref b] s) (F0 m 158 ls [])) (S : oS) (c0 : gR) (ga gb gc gd : Nat → Nat × Nat × Nat) (H : Heap) (locs : List Loc) (ls : Array Slot) (hG : GS S) (hP : va_P D vwCl (oW y av ga gb S ++ oW y bv gc gd (sRc S c0)) H) (hD : va_D (fun q : Nat => s.heap.size ≤ q) (oW y av ga gb S ++ oW y bv gc gd (sRc S c0))) (hS : va_S (fun q : Nat => s.heap.size ≤ q) s.heap H locs) (hl : lv_has ls 23 [(0, .ref b), (1, .ref (av 0)), (2, .ref (bv 0)), (6, .int 1), (7, .int (nI T)), (8, .int (nI j)), (9, .int (nI X))]) : W p l e room_1 s m #[Value.ref b] below meth c H locs (cells) (slots) (lw_Z below #[Value.ref b] s) (F0 m 275 ls [.int 1]) := by
  obtain ⟨hx, hb, hr, hml, hown, hts, hX, hbl, hlocks, hgv⟩ := id C0
  have hown : s.vm.findClass RL = some m.cls := hown
  have htl : ∀ w ∈ wsL_law, w.before #[Value.ref b] s = true := fun w h => hts w (wsL_law_in w h)
  have hA : ∀ q : Nat, s.heap.size ≤ q → (fun q : Nat => s.heap.size ≤ q) q := fun _ h => h
  have hbA : ¬ (fun q : Nat => s.heap.size ≤ q) b := Nat.not_le.mpr hbl
  obtain ⟨e0, e1, e2, e3, b0, b1, b2, b3, b4, b5⟩ := m_num hG.gd
  have hxn := Nat.mod_lt (X / 7) (show 0 < nN (S.2.2.1 0) by omega)
  have hl0 : okL S.2.2.1 (nI (X / 7 % nN (S.2.2.1 0))) := okL_nI hG.gd hxn
  obtain ⟨N, hN⟩ : ∃ z, nN (S.2.2.1 0) = z := ⟨_, rfl⟩
  rw [hN] at e0 b0 b1 hxn hl0
  obtain ⟨q1, q2⟩ := hG.gd.2.2.2.2.2.2
  obtain ⟨EV, eE, ev1, ev2⟩ : ∃ z, S.2.2.1 12 = nI z ∧ 1 ≤ z ∧ z ≤ 50 := ⟨nN (S.2.2.1 12), nI_nN (by omega), by unfold nN; omega, by unfold nN; omega⟩
  have hLFle := hmF_le (l := nI (X / 7 % N)) 2000 S.2.2.1
  have hmin := hmF_min (l := nI (X / 7 % N)) (1 + (X / 224 % 300)) 2000 S.2.2.1 (by omega)
  have hdead := hmF_dead (l := nI (X / 7 % N)) (1 + (X / 224 % 300)) 2000 S.2.2.1 (by omega)
  have h5 := hmF_5 (1 + (X / 224 % 300)) S.2.2.1 hG.gd.1 hl0
  have hinv := hmF_inv (l := nI (X / 7 % N)) (1 + (X / 224 % 300)) S.2.2.1 hG.gd.1
  have hlR := hmF_ok (l := nI (X / 7 % N)) (1 + (X / 224 % 300)) S.2.2.1 hl0
  have hWE : wE S.2.2.1 (nI (X / 7 % N)) (nI (1 + (X / 224 % 300))) EV = f_X3_greatestWear (hmF (nI (X / 7 % N)) (1 + (X / 224 % 300)) S.2.2.1).2 := wE_ham eE (by omega)
  have hV : (hmF (nI (X / 7 % N)) (1 + (X / 224 % 300)) S.2.2.1).2 (13 + (nI (X / 7 % N)).toNatClampNeg) = S.2.2.1 (13 + (nI (X / 7 % N)).toNatClampNeg) := hmF_v (by rw [nI_clamp (by omega)]; omega) _ _ hG.gd.1 hl0
  obtain ⟨J, hJ1, hJ, hPL⟩ := hmF_place (n := 1 + (X / 224 % 300)) hG.gd hl0 hl0 (by omega)
  obtain ⟨LF, hLF⟩ : ∃ z, (hmF (nI (X / 7 % N)) 2000 S.2.2.1).1 = z := ⟨_, rfl⟩
  obtain ⟨RR, hRR⟩ : ∃ z, (hmF (nI (X / 7 % N)) (1 + (X / 224 % 300)) S.2.2.1).2 = z := ⟨_, rfl⟩
  rw [hLF] at hLFle hmin hdead
  rw [hRR] at hdead h5 hinv hlR hWE hV hJ hPL
  have okA0 : okC RR := hinv.1
  have okA : okS (sAct (sRc S c0) RR) := hG.ok.act okA0
  have okB : okS (sAct (sRc S c0) RR) := okA
  by_cases hml2 : 1 + (X / 224 % 300) < LF
  · skip
    have h8 : RR 8 = 0 := Classical.byContradiction fun q => absurd (hdead.mp q) (by omega)
    obtain ⟨T9, hT9e⟩ : ∃ z, z = 1 + (X / 224 % 300) := ⟨_, rfl⟩
    have hT9 : (hmF (nI (X / 7 % N)) (1 + (X / 224 % 300)) S.2.2.1).1 = T9 := by rw [hmin, if_pos hml2, hT9e]
    rw [hT9] at h5
    refine lv_istore (lv' := [(6, .int 1), (0, .ref b), (1, .ref (av 0)), (2, .ref (bv 0)), (7, .int (nI T)), (8, .int (nI j)), (9, .int (nI X))]) hx hb dL_law_275 hl (by decide) rfl (fun ls hl => ?_)
    refine lv_aload_n hx hb dL_law_277 rfl (lv_at hl 2 rfl) ?_
    refine lv_iconst (v := 2) hx hb dL_law_278 (by decide) ?_
    refine lv_iconst (v := 0) hx hb dL_law_279 (by decide) ?_
    refine lv_iconst (v := 0) hx hb dL_law_280 (by decide) ?_
    refine lv_iconst (v := 0) hx hb dL_law_281 (by decide) ?_
    have k1 : fCall S 2 0 0 0 = (nI N, S) := (s_ab0 S 0 0).trans (by rw [e0])
    have hP := xa_permP List.perm_append_comm hP
    have hD := xa_permD List.perm_append_comm hD
    refine xl_callEi (ex := oW y bv gc gd (sRc S c0)) (va_runS (As := [.ref (av 0), .int 2, .int 0, .int 0, .int 0]) (rest := []) ⟨hx, hb, hml, hown, htl⟩ (c_call l hst D y av ga gb H.size S 2 0 0 0 hG.ok) (va_cwS 5 htl gL_law_L_call rfl rfl rfl hd_L_call ⟨Nat.le_of_ble_eq_true rfl, Nat.le_of_ble_eq_true rfl⟩) (lS hE hXE hLN hXZ hS hA (law_subE hP) (law_subD hD)) rfl rfl hl.1 rfl (lv_room (Nat.le_of_ble_eq_true rfl)) dL_law_282 ⟨by show _ ≤ 600130; omega, by show _ ≤ 7301079; omega⟩) hP hD hS hA (fun v2 u3 ga5 gb6 H locs h4 hP hD hS => ?_)
    have hP := xa_permP List.perm_append_comm hP
    have hD := xa_permD List.perm_append_comm hD
    obtain ⟨rfl, rfl⟩ := Prod.mk.inj (k1.symm.trans h4)
    refine lv_istore (lv' := [(11, .int (nI N)), (6, .int 1), (0, .ref b), (1, .ref (av 0)), (2, .ref (bv 0)), (7, .int (nI T)), (8, .int (nI j)), (9, .int (nI X))]) hx hb dL_law_285 hl (by decide) rfl (fun ls hl => ?_)
    refine lv_iload hx hb dL_law_287 (lv_at hl 7 rfl) ?_
    refine lv_bipush (v := 7) hx hb dL_law_289 (by decide) ?_
    refine lv_idiv hx hb dL_law_291 (by decide) ?_
    refine lv_topi (fun z7 ez7 => ?_)
    obtain rfl : z7 = nI (X / 7) := ez7.trans ((pk_div (a := X) (d := 7) (by omega) (by omega) (by omega) : nI X / nI 7 = _))
    refine lv_iload hx hb dL_law_292 (lv_at hl 0 rfl) ?_
    refine lv_irem hx hb dL_law_294 (nI_ne0 (n := N) (by omega) (by omega)) ?_
    refine lv_topi (fun z8 ez8 => ?_)
    obtain rfl : z8 = nI ((X / 7) % N) := ez8.trans ((pk_rem (a := X / 7) (d := N) (by omega) (by omega) (by omega) : nI (X / 7) - nI (X / 7) / nI N * nI N = _))
    refine lv_istore (lv' := [(12, .int (nI ((X / 7) % N))), (11, .int (nI N)), (6, .int 1), (0, .ref b), (1, .ref (av 0)), (2, .ref (bv 0)), (7, .int (nI T)), (8, .int (nI j)), (9, .int (nI X))]) hx hb dL_law_295 hl (by decide) rfl (fun ls hl => ?_)
    refine lv_iconst (v := 1) hx hb dL_law_297 (by decide) ?_
    refine lv_iload hx hb dL_law_298 (lv_at hl 8 rfl) ?_
    refine lv_sipush (v := 224) hx hb dL_law_300 (by decide) ?_
    refine lv_idiv hx hb dL_law_303 (by decide) ?_
    refine lv_topi (fun z9 ez9 => ?_)
    obtain rfl : z9 = nI (X / 224) := ez9.trans ((pk_div (a := X) (d := 224) (by omega) (by omega) (by omega) : nI X / nI 224 = _))
    refine lv_sipush (v := 300) hx hb dL_law_304 (by decide) ?_
    refine lv_irem hx hb dL_law_307 (by decide) ?_
    refine lv_topi (fun z10 ez10 => ?_)
    obtain rfl : z10 = nI ((X / 224) % 300) := ez10.trans ((pk_rem (a := X / 224) (d := 300) (by omega) (by omega) (by omega) : nI (X / 224) - nI (X / 224) / nI 300 * nI 300 = _))
    refine lv_iadd hx hb dL_law_308 ?_
    refine lv_topi (fun z11 ez11 => ?_)
    obtain rfl : z11 = nI (1 + ((X / 224) % 300)) := ez11.trans ((nI_add 1 ((X / 224) % 300) : nI 1 + nI ((X / 224) % 300) = _))
    refine lv_istore (lv' := [(13, .int (nI (1 + ((X / 224) % 300)))), (12, .int (nI ((X / 7) % N))), (11, .int (nI N)), (6, .int 1), (0, .ref b), (1, .ref (av 0)), (2, .ref (bv 0)), (7, .int (nI T)), (8, .int (nI j)), (9, .int (nI X))]) hx hb dL_law_309 hl (by decide) rfl (fun ls hl => ?_)
    refine lv_aload_n hx hb dL_law_311 rfl (lv_at hl 5 rfl) ?_
    refine lv_bipush (v := 14) hx hb dL_law_312 (by decide) ?_
    refine lv_iload hx hb dL_law_314 (lv_at hl 1 rfl) ?_
    refine lv_iconst (v := 0) hx hb dL_law_316 (by decide) ?_
    refine lv_iconst (v := 0) hx hb dL_law_317 (by decide) ?_
    obtain ⟨cl, k12⟩ : ∃ c, fCall S 14 (nI ((X / 7) % N)) 0 0 = (nI LF, sRc S c) := ⟨_, (s_life S 0 0 hl0).trans (by rw [hLF])⟩
    have hP := xa_permP List.perm_append_comm hP
    have hD := xa_permD List.perm_append_comm hD
    refine xl_callEi (ex := oW y bv gc gd (sRc S c0)) (va_runS (As := [.ref (av 0), .int 14, .int (nI ((X / 7) % N)), .int 0, .int 0]) (rest := []) ⟨hx, hb, hml, hown, htl⟩ (c_call l hst D y av ga5 gb6 H.size S 14 (nI ((X / 7) % N)) 0 0 hG.ok) (va_cwS 5 htl gL_law_L_call rfl rfl rfl hd_L_call ⟨Nat.le_of_ble_eq_true rfl, Nat.le_of_ble_eq_true rfl⟩) (lS hE hXE hLN hXZ hS hA (law_subE hP) (law_subD hD)) rfl rfl hl.1 rfl (lv_room (Nat.le_of_ble_eq_true rfl)) dL_law_318 ⟨by show _ ≤ 600130; omega, by show _ ≤ 7301079; omega⟩) hP hD hS hA (fun v13 u14 ga16 gb17 H locs h15 hP hD hS => ?_)
    have hP := xa_permP List.perm_append_comm hP
    have hD := xa_permD List.perm_append_comm hD
    obtain ⟨rfl, rfl⟩ := Prod.mk.inj (k12.symm.trans h15)
    refine lv_istore (lv' := [(14, .int (nI LF)), (13, .int (nI (1 + ((X / 224) % 300)))), (12, .int (nI ((X / 7) % N))), (11, .int (nI N)), (6, .int 1), (0, .ref b), (1, .ref (av 0)), (2, .ref (bv 0)), (7, .int (nI T)), (8, .int (nI j)), (9, .int (nI X))]) hx hb dL_law_321 hl (by decide) rfl (fun ls hl => ?_)
    refine lv_aload_n hx hb dL_law_323 rfl (lv_at hl 6 rfl) ?_
    refine lv_iconst (v := 2) hx hb dL_law_324 (by decide) ?_
    refine lv_iconst (v := 4) hx hb dL_law_325 (by decide) ?_
    refine lv_iconst (v := 0) hx hb dL_law_326 (by decide) ?_
    refine lv_iconst (v := 0) hx hb dL_law_327 (by decide) ?_
    have k18 : fCall (sRc S cl) 2 4 0 0 = ((S.2.2.1 5), sRc S cl) := s_ab4 (sRc S cl) 0 0
    have hP := xa_permP List.perm_append_comm hP
    have hD := xa_permD List.perm_append_comm hD
    refine xl_callEi (ex := oW y bv gc gd (sRc S c0)) (va_runS (As := [.ref (av 0), .int 2, .int 4, .int 0, .int 0]) (rest := []) ⟨hx, hb, hml, hown, htl⟩ (c_call l hst D y av ga16 gb17 H.size (sRc S cl) 2 4 0 0 hG.ok) (va_cwS 5 htl gL_law_L_call rfl rfl rfl hd_L_call ⟨Nat.le_of_ble_eq_true rfl, Nat.le_of_ble_eq_true rfl⟩) (lS hE hXE hLN hXZ hS hA (law_subE hP) (law_subD hD)) rfl rfl hl.1 rfl (lv_room (Nat.le_of_ble_eq_true rfl)) dL_law_328 ⟨by show _ ≤ 600130; omega, by show _ ≤ 7301079; omega⟩) hP hD hS hA (fun v19 u20 ga22 gb23 H locs h21 hP hD hS => ?_)
    have hP := xa_permP List.perm_append_comm hP
    have hD := xa_permD List.perm_append_comm hD
    obtain ⟨rfl, rfl⟩ := Prod.mk.inj (k18.symm.trans h21)
    refine lv_istore (lv' := [(15, .int (S.2.2.1 5)), (14, .int (nI LF)), (13, .int (nI (1 + ((X / 224) % 300)))), (12, .int (nI ((X / 7) % N))), (11, .int (nI N)), (6, .int 1), (0, .ref b), (1, .ref (av 0)), (2, .ref (bv 0)), (7, .int (nI T)), (8, .int (nI j)), (9, .int (nI X))]) hx hb dL_law_331 hl (by decide) rfl (fun ls hl => ?_)
    refine lv_aload_n hx hb dL_law_333 rfl (lv_at hl 7 rfl) ?_
    refine lv_iconst (v := 2) hx hb dL_law_334 (by decide) ?_
    refine lv_iconst (v := 5) hx hb dL_law_335 (by decide) ?_
    refine lv_iconst (v := 0) hx hb dL_law_336 (by decide) ?_
    refine lv_iconst (v := 0) hx hb dL_law_337 (by decide) ?_
    have k24 : fCall (sRc S cl) 2 5 0 0 = ((S.2.2.1 6), sRc S cl) := s_ab5 (sRc S cl) 0 0
    have hP := xa_permP List.perm_append_comm hP
    have hD := xa_permD List.perm_append_comm hD
    refine xl_callEi (ex := oW y bv gc gd (sRc S c0)) (va_runS (As := [.ref (av 0), .int 2, .int 5, .int 0, .int 0]) (rest := []) ⟨hx, hb, hml, hown, htl⟩ (c_call l hst D y av ga22 gb23 H.size (sRc S cl) 2 5 0 0 hG.ok) (va_cwS 5 htl gL_law_L_call rfl rfl rfl hd_L_call ⟨Nat.le_of_ble_eq_true rfl, Nat.le_of_ble_eq_true rfl⟩) (lS hE hXE hLN hXZ hS hA (law_subE hP) (law_subD hD)) rfl rfl hl.1 rfl (lv_room (Nat.le_of_ble_eq_true rfl)) dL_law_338 ⟨by show _ ≤ 600130; omega, by show _ ≤ 7301079; omega⟩) hP hD hS hA (fun v25 u26 ga28 gb29 H locs h27 hP hD hS => ?_)
    have hP := xa_permP List.perm_append_comm hP
    have hD := xa_permD List.perm_append_comm hD
    obtain ⟨rfl, rfl⟩ := Prod.mk.inj (k24.symm.trans h27)
    refine lv_istore (lv' := [(16, .int (S.2.2.1 6)), (15, .int (S.2.2.1 5)), (14, .int (nI LF)), (13, .int (nI (1 + ((X / 224) % 300)))), (12, .int (nI ((X / 7) % N))), (11, .int (nI N)), (6, .int 1), (0, .ref b), (1, .ref (av 0)), (2, .ref (bv 0)), (7, .int (nI T)), (8, .int (nI j)), (9, .int (nI X))]) hx hb dL_law_341 hl (by decide) rfl (fun ls hl => ?_)
    refine lv_aload_n hx hb dL_law_343 rfl (lv_at hl 8 rfl) ?_
    refine lv_bipush (v := 16) hx hb dL_law_344 (by decide) ?_
    refine lv_iload hx hb dL_law_346 (lv_at hl 4 rfl) ?_
    refine lv_aload_n hx hb dL_law_348 rfl (lv_at hl 8 rfl) ?_
    refine lv_bipush (v := 7) hx hb dL_law_349 (by decide) ?_
    refine lv_iconst (v := 1) hx hb dL_law_351 (by decide) ?_
    refine lv_iconst (v := 0) hx hb dL_law_352 (by decide) ?_
    refine lv_iconst (v := 0) hx hb dL_law_353 (by decide) ?_
    have k30 : fCall (sRc S cl) 7 1 0 0 = (nI EV, sRc S cl) := (s_setting1 (sRc S cl) 0 0).trans (by show (S.2.2.1 12, _) = _; rw [eE])
    have hP := xa_permP List.perm_append_comm hP
    have hD := xa_permD List.perm_append_comm hD
    refine xl_callEi (ex := oW y bv gc gd (sRc S c0)) (va_runS (As := [.ref (av 0), .int 7, .int 1, .int 0, .int 0]) (rest := [.int (nI ((X / 7) % N)), .int 16, .ref (av 0)]) ⟨hx, hb, hml, hown, htl⟩ (c_call l hst D y av ga28 gb29 H.size (sRc S cl) 7 1 0 0 hG.ok) (va_cwS 5 htl gL_law_L_call rfl rfl rfl hd_L_call ⟨Nat.le_of_ble_eq_true rfl, Nat.le_of_ble_eq_true rfl⟩) (lS hE hXE hLN hXZ hS hA (law_subE hP) (law_subD hD)) rfl rfl hl.1 rfl (lv_room (Nat.le_of_ble_eq_true rfl)) dL_law_354 ⟨by show _ ≤ 600130; omega, by show _ ≤ 7301079; omega⟩) hP hD hS hA (fun v31 u32 ga34 gb35 H locs h33 hP hD hS => ?_)
    have hP := xa_permP List.perm_append_comm hP
    have hD := xa_permD List.perm_append_comm hD
    obtain ⟨rfl, rfl⟩ := Prod.mk.inj (k30.symm.trans h33)
    refine lv_iload hx hb dL_law_357 (lv_at hl 3 rfl) ?_
    obtain ⟨ce, k36⟩ : ∃ c, fCall (sRc S cl) 16 (nI ((X / 7) % N)) (nI EV) (nI (1 + ((X / 224) % 300))) = (wE S.2.2.1 (nI (X / 7 % N)) (nI (1 + (X / 224 % 300))) EV, sRc S c) := ⟨_, s_every (sRc S cl) (e := EV) (m := 1 + (X / 224 % 300)) hl0 (by omega) (by omega) (by omega) (by omega)⟩
    have hP := xa_permP List.perm_append_comm hP
    have hD := xa_permD List.perm_append_comm hD
    refine xl_callEi (ex := oW y bv gc gd (sRc S c0)) (va_runS (As := [.ref (av 0), .int 16, .int (nI ((X / 7) % N)), .int (nI EV), .int (nI (1 + ((X / 224) % 300)))]) (rest := []) ⟨hx, hb, hml, hown, htl⟩ (c_call l hst D y av ga34 gb35 H.size (sRc S cl) 16 (nI ((X / 7) % N)) (nI EV) (nI (1 + ((X / 224) % 300))) hG.ok) (va_cwS 5 htl gL_law_L_call rfl rfl rfl hd_L_call ⟨Nat.le_of_ble_eq_true rfl, Nat.le_of_ble_eq_true rfl⟩) (lS hE hXE hLN hXZ hS hA (law_subE hP) (law_subD hD)) rfl rfl hl.1 rfl (lv_room (Nat.le_of_ble_eq_true rfl)) dL_law_359 ⟨by show _ ≤ 600130; omega, by show _ ≤ 7301079; omega⟩) hP hD hS hA (fun v37 u38 ga40 gb41 H locs h39 hP hD hS => ?_)
    have hP := xa_permP List.perm_append_comm hP
    have hD := xa_permD List.perm_append_comm hD
    obtain ⟨rfl, rfl⟩ := Prod.mk.inj (k36.symm.trans h39)
    refine lv_istore (lv' := [(17, .int (wE S.2.2.1 (nI (X / 7 % N)) (nI (1 + (X / 224 % 300))) EV)), (16, .int (S.2.2.1 6)), (15, .int (S.2.2.1 5)), (14, .int (nI LF)), (13, .int (nI (1 + ((X / 224) % 300)))), (12, .int (nI ((X / 7) % N))), (11, .int (nI N)), (6, .int 1), (0, .ref b), (1, .ref (av 0)), (2, .ref (bv 0)), (7, .int (nI T)), (8, .int (nI j)), (9, .int (nI X))]) hx hb dL_law_362 hl (by decide) rfl (fun ls hl => ?_)
    refine lv_aload_n hx hb dL_law_364 rfl (lv_at hl 9 rfl) ?_
    refine lv_iconst (v := 2) hx hb dL_law_365 (by decide) ?_
    refine lv_iconst (v := 2) hx hb dL_law_366 (by decide) ?_
    refine lv_iconst (v := 0) hx hb dL_law_367 (by decide) ?_
    refine lv_iconst (v := 0) hx hb dL_law_368 (by decide) ?_
    have k42 : fCall (sRc S ce) 2 2 0 0 = ((S.2.2.1 3), sRc S ce) := s_ab2 (sRc S ce) 0 0
    have hP := xa_permP List.perm_append_comm hP
    have hD := xa_permD List.perm_append_comm hD
    refine xl_callEi (ex := oW y bv gc gd (sRc S c0)) (va_runS (As := [.ref (av 0), .int 2, .int 2, .int 0, .int 0]) (rest := []) ⟨hx, hb, hml, hown, htl⟩ (c_call l hst D y av ga40 gb41 H.size (sRc S ce) 2 2 0 0 hG.ok) (va_cwS 5 htl gL_law_L_call rfl rfl rfl hd_L_call ⟨Nat.le_of_ble_eq_true rfl, Nat.le_of_ble_eq_true rfl⟩) (lS hE hXE hLN hXZ hS hA (law_subE hP) (law_subD hD)) rfl rfl hl.1 rfl (lv_room (Nat.le_of_ble_eq_true rfl)) dL_law_369 ⟨by show _ ≤ 600130; omega, by show _ ≤ 7301079; omega⟩) hP hD hS hA (fun v43 u44 ga46 gb47 H locs h45 hP hD hS => ?_)
    have hP := xa_permP List.perm_append_comm hP
    have hD := xa_permD List.perm_append_comm hD
    obtain ⟨rfl, rfl⟩ := Prod.mk.inj (k42.symm.trans h45)
    refine lv_istore (lv' := [(18, .int (S.2.2.1 3)), (17, .int (wE S.2.2.1 (nI (X / 7 % N)) (nI (1 + (X / 224 % 300))) EV)), (16, .int (S.2.2.1 6)), (15, .int (S.2.2.1 5)), (14, .int (nI LF)), (13, .int (nI (1 + ((X / 224) % 300)))), (12, .int (nI ((X / 7) % N))), (11, .int (nI N)), (6, .int 1), (0, .ref b), (1, .ref (av 0)), (2, .ref (bv 0)), (7, .int (nI T)), (8, .int (nI j)), (9, .int (nI X))]) hx hb dL_law_372 hl (by decide) rfl (fun ls hl => ?_)
    refine lv_aload_n hx hb dL_law_374 rfl (lv_at hl 10 rfl) ?_
    refine lv_iconst (v := 3) hx hb dL_law_375 (by decide) ?_
    refine lv_iload hx hb dL_law_376 (lv_at hl 6 rfl) ?_
    refine lv_iconst (v := 0) hx hb dL_law_378 (by decide) ?_
    refine lv_iconst (v := 0) hx hb dL_law_379 (by decide) ?_
    have k48 : fCall (sRc S ce) 3 (nI ((X / 7) % N)) 0 0 = ((S.2.2.1 (13 + (nI (X / 7 % N)).toNatClampNeg)), sRc S ce) := s_read (sRc S ce) 0 0 hl0
    have hP := xa_permP List.perm_append_comm hP
    have hD := xa_permD List.perm_append_comm hD
    refine xl_callEi (ex := oW y bv gc gd (sRc S c0)) (va_runS (As := [.ref (av 0), .int 3, .int (nI ((X / 7) % N)), .int 0, .int 0]) (rest := []) ⟨hx, hb, hml, hown, htl⟩ (c_call l hst D y av ga46 gb47 H.size (sRc S ce) 3 (nI ((X / 7) % N)) 0 0 hG.ok) (va_cwS 5 htl gL_law_L_call rfl rfl rfl hd_L_call ⟨Nat.le_of_ble_eq_true rfl, Nat.le_of_ble_eq_true rfl⟩) (lS hE hXE hLN hXZ hS hA (law_subE hP) (law_subD hD)) rfl rfl hl.1 rfl (lv_room (Nat.le_of_ble_eq_true rfl)) dL_law_380 ⟨by show _ ≤ 600130; omega, by show _ ≤ 7301079; omega⟩) hP hD hS hA (fun v49 u50 ga52 gb53 H locs h51 hP hD hS => ?_)
    have hP := xa_permP List.perm_append_comm hP
    have hD := xa_permD List.perm_append_comm hD
    obtain ⟨rfl, rfl⟩ := Prod.mk.inj (k48.symm.trans h51)
    refine lv_istore (lv' := [(19, .int (S.2.2.1 (13 + (nI (X / 7 % N)).toNatClampNeg))), (18, .int (S.2.2.1 3)), (17, .int (wE S.2.2.1 (nI (X / 7 % N)) (nI (1 + (X / 224 % 300))) EV)), (16, .int (S.2.2.1 6)), (15, .int (S.2.2.1 5)), (14, .int (nI LF)), (13, .int (nI (1 + ((X / 224) % 300)))), (12, .int (nI ((X / 7) % N))), (11, .int (nI N)), (6, .int 1), (0, .ref b), (1, .ref (av 0)), (2, .ref (bv 0)), (7, .int (nI T)), (8, .int (nI j)), (9, .int (nI X))]) hx hb dL_law_383 hl (by decide) rfl (fun ls hl => ?_)
    refine lv_iload hx hb dL_law_385 (lv_at hl 6 rfl) ?_
    refine lv_iload hx hb dL_law_387 (lv_at hl 5 rfl) ?_
    refine lv_icmp_ge (tgt := 397) hx hb dL_law_389 (by decide) (fun cb54 => absurd cb54 (nI_ge (a := 1 + ((X / 224) % 300)) (b := LF) (by omega) (by omega))) (fun cb54 => ?_)
    refine lv_iload hx hb dL_law_392 (lv_at hl 6 rfl) ?_
    refine lv_goto (tgt := 399) hx hb dL_law_394 (by decide) ?_
    refine lv_istore (lv' := [(20, .int (nI (1 + ((X / 224) % 300)))), (19, .int (S.2.2.1 (13 + (nI (X / 7 % N)).toNatClampNeg))), (18, .int (S.2.2.1 3)), (17, .int (wE S.2.2.1 (nI (X / 7 % N)) (nI (1 + (X / 224 % 300))) EV)), (16, .int (S.2.2.1 6)), (15, .int (S.2.2.1 5)), (14, .int (nI LF)), (13, .int (nI (1 + ((X / 224) % 300)))), (12, .int (nI ((X / 7) % N))), (11, .int (nI N)), (6, .int 1), (0, .ref b), (1, .ref (av 0)), (2, .ref (bv 0)), (7, .int (nI T)), (8, .int (nI j)), (9, .int (nI X))]) hx hb dL_law_399 hl (by decide) rfl (fun ls hl => ?_)
    refine lv_iload hx hb dL_law_401 (lv_at hl 10 rfl) ?_
    refine lv_if_eq (tgt := 527) hx hb dL_law_403 (by decide) (fun cb55 => absurd cb55 (by decide)) (fun cb55 => ?_)
    refine lv_aload_n hx hb dL_law_406 rfl (lv_at hl 12 rfl) ?_
    refine lv_bipush (v := 10) hx hb dL_law_407 (by decide) ?_
    refine lv_iload hx hb dL_law_409 (lv_at hl 8 rfl) ?_
    refine lv_iload hx hb dL_law_411 (lv_at hl 7 rfl) ?_
    refine lv_iconst (v := 0) hx hb dL_law_413 (by decide) ?_
    have k56 : fCall (sRc S ce) 10 (nI ((X / 7) % N)) (nI (1 + ((X / 224) % 300))) 0 = (nI T9, sAct (sRc S ce) RR) := (s_hammer (sRc S ce) (m := 1 + (X / 224 % 300)) 0 hl0 (by omega) (by omega)).trans (by show (nI (hmF (nI (X / 7 % N)) (1 + (X / 224 % 300)) S.2.2.1).1, sAct (sRc S ce) (hmF (nI (X / 7 % N)) (1 + (X / 224 % 300)) S.2.2.1).2) = _; rw [hRR, hT9])
    have hP := xa_permP List.perm_append_comm hP
    have hD := xa_permD List.perm_append_comm hD
    refine xl_callEi (ex := oW y bv gc gd (sRc S c0)) (va_runS (As := [.ref (av 0), .int 10, .int (nI ((X / 7) % N)), .int (nI (1 + ((X / 224) % 300))), .int 0]) (rest := []) ⟨hx, hb, hml, hown, htl⟩ (c_call l hst D y av ga52 gb53 H.size (sRc S ce) 10 (nI ((X / 7) % N)) (nI (1 + ((X / 224) % 300))) 0 hG.ok) (va_cwS 5 htl gL_law_L_call rfl rfl rfl hd_L_call ⟨Nat.le_of_ble_eq_true rfl, Nat.le_of_ble_eq_true rfl⟩) (lS hE hXE hLN hXZ hS hA (law_subE hP) (law_subD hD)) rfl rfl hl.1 rfl (lv_room (Nat.le_of_ble_eq_true rfl)) dL_law_414 ⟨by show _ ≤ 600130; omega, by show _ ≤ 7301079; omega⟩) hP hD hS hA (fun v57 u58 ga60 gb61 H locs h59 hP hD hS => ?_)
    have hP := xa_permP List.perm_append_comm hP
    have hD := xa_permD List.perm_append_comm hD
    obtain ⟨rfl, rfl⟩ := Prod.mk.inj (k56.symm.trans h59)
    refine lv_iload hx hb dL_law_417 (lv_at hl 0 rfl) ?_
    refine lv_icmp_ne (tgt := 527) hx hb dL_law_419 (by decide) (fun cb62 => absurd (congrArg nI (show T9 = (1 + ((X / 224) % 300)) by omega)) cb62) (fun cb62 => ?_)
    refine lv_aload_n hx hb dL_law_422 rfl (lv_at hl 13 rfl) ?_
    refine lv_bipush (v := 10) hx hb dL_law_423 (by decide) ?_
    refine lv_iload hx hb dL_law_425 (lv_at hl 8 rfl) ?_
    refine lv_iload hx hb dL_law_427 (lv_at hl 7 rfl) ?_
    refine lv_iconst (v := 0) hx hb dL_law_429 (by decide) ?_
    have k63 : fCall (sRc S c0) 10 (nI ((X / 7) % N)) (nI (1 + ((X / 224) % 300))) 0 = (nI T9, sAct (sRc S c0) RR) := (s_hammer (sRc S c0) (m := 1 + (X / 224 % 300)) 0 hl0 (by omega) (by omega)).trans (by show (nI (hmF (nI (X / 7 % N)) (1 + (X / 224 % 300)) S.2.2.1).1, sAct (sRc S c0) (hmF (nI (X / 7 % N)) (1 + (X / 224 % 300)) S.2.2.1).2) = _; rw [hRR, hT9])
    refine xl_callEi (ex := oW y av ga60 gb61 (sAct (sRc S ce) RR)) (va_runS (As := [.ref (bv 0), .int 10, .int (nI ((X / 7) % N)), .int (nI (1 + ((X / 224) % 300))), .int 0]) (rest := []) ⟨hx, hb, hml, hown, htl⟩ (c_call l hst D y bv gc gd H.size (sRc S c0) 10 (nI ((X / 7) % N)) (nI (1 + ((X / 224) % 300))) 0 hG.ok) (va_cwS 5 htl gL_law_L_call rfl rfl rfl hd_L_call ⟨Nat.le_of_ble_eq_true rfl, Nat.le_of_ble_eq_true rfl⟩) (lS hE hXE hLN hXZ hS hA (law_subE hP) (law_subD hD)) rfl rfl hl.1 rfl (lv_room (Nat.le_of_ble_eq_true rfl)) dL_law_430 ⟨by show _ ≤ 600130; omega, by show _ ≤ 7301079; omega⟩) hP hD hS hA (fun v64 u65 ga67 gb68 H locs h66 hP hD hS => ?_)
    obtain ⟨rfl, rfl⟩ := Prod.mk.inj (k63.symm.trans h66)
    refine lv_iload hx hb dL_law_433 (lv_at hl 0 rfl) ?_
    refine lv_icmp_ne (tgt := 527) hx hb dL_law_435 (by decide) (fun cb69 => absurd (congrArg nI (show T9 = (1 + ((X / 224) % 300)) by omega)) cb69) (fun cb69 => ?_)
    refine lv_aload_n hx hb dL_law_438 rfl (lv_at hl 12 rfl) ?_
    refine lv_iconst (v := 2) hx hb dL_law_439 (by decide) ?_
    refine lv_iconst (v := 4) hx hb dL_law_440 (by decide) ?_
    refine lv_iconst (v := 0) hx hb dL_law_441 (by decide) ?_
    refine lv_iconst (v := 0) hx hb dL_law_442 (by decide) ?_
    have k70 : fCall (sAct (sRc S ce) RR) 2 4 0 0 = (((S.2.2.1 5) + nI T9), sAct (sRc S ce) RR) := (s_ab4 (sAct (sRc S ce) RR) 0 0).trans (by show (RR 5, _) = _; rw [h5])
    have hP := xa_permP List.perm_append_comm hP
    have hD := xa_permD List.perm_append_comm hD
    refine xl_callEi (ex := oW y bv ga67 gb68 (sAct (sRc S c0) RR)) (va_runS (As := [.ref (av 0), .int 2, .int 4, .int 0, .int 0]) (rest := []) ⟨hx, hb, hml, hown, htl⟩ (c_call l hst D y av ga60 gb61 H.size (sAct (sRc S ce) RR) 2 4 0 0 okA) (va_cwS 5 htl gL_law_L_call rfl rfl rfl hd_L_call ⟨Nat.le_of_ble_eq_true rfl, Nat.le_of_ble_eq_true rfl⟩) (lS hE hXE hLN hXZ hS hA (law_subE hP) (law_subD hD)) rfl rfl hl.1 rfl (lv_room (Nat.le_of_ble_eq_true rfl)) dL_law_443 ⟨by show _ ≤ 600130; omega, by show _ ≤ 7301079; omega⟩) hP hD hS hA (fun v71 u72 ga74 gb75 H locs h73 hP hD hS => ?_)
    have hP := xa_permP List.perm_append_comm hP
    have hD := xa_permD List.perm_append_comm hD
    obtain ⟨rfl, rfl⟩ := Prod.mk.inj (k70.symm.trans h73)
    refine lv_iload hx hb dL_law_446 (lv_at hl 5 rfl) ?_
    refine lv_iload hx hb dL_law_448 (lv_at hl 0 rfl) ?_
    refine lv_iadd hx hb dL_law_450 ?_
    refine lv_icmp_ne (tgt := 527) hx hb dL_law_451 (by decide) (fun cb76 => absurd (by rw [hT9e]) cb76) (fun cb76 => ?_)
    refine lv_aload_n hx hb dL_law_454 rfl (lv_at hl 12 rfl) ?_
    refine lv_iconst (v := 2) hx hb dL_law_455 (by decide) ?_
    refine lv_bipush (v := 6) hx hb dL_law_456 (by decide) ?_
    refine lv_iconst (v := 0) hx hb dL_law_458 (by decide) ?_
    refine lv_iconst (v := 0) hx hb dL_law_459 (by decide) ?_
    have k77 : fCall (sAct (sRc S ce) RR) 2 6 0 0 = (wE S.2.2.1 (nI (X / 7 % N)) (nI (1 + (X / 224 % 300))) EV, sAct (sRc S ce) RR) := (s_ab6g (sAct (sRc S ce) RR) 0 0).trans (by show (f_X3_greatestWear RR, _) = _; rw [hWE])
    have hP := xa_permP List.perm_append_comm hP
    have hD := xa_permD List.perm_append_comm hD
    refine xl_callEi (ex := oW y bv ga67 gb68 (sAct (sRc S c0) RR)) (va_runS (As := [.ref (av 0), .int 2, .int 6, .int 0, .int 0]) (rest := []) ⟨hx, hb, hml, hown, htl⟩ (c_call l hst D y av ga74 gb75 H.size (sAct (sRc S ce) RR) 2 6 0 0 okA) (va_cwS 5 htl gL_law_L_call rfl rfl rfl hd_L_call ⟨Nat.le_of_ble_eq_true rfl, Nat.le_of_ble_eq_true rfl⟩) (lS hE hXE hLN hXZ hS hA (law_subE hP) (law_subD hD)) rfl rfl hl.1 rfl (lv_room (Nat.le_of_ble_eq_true rfl)) dL_law_460 ⟨by show _ ≤ 600130; omega, by show _ ≤ 7301079; omega⟩) hP hD hS hA (fun v78 u79 ga81 gb82 H locs h80 hP hD hS => ?_)
    have hP := xa_permP List.perm_append_comm hP
    have hD := xa_permD List.perm_append_comm hD
    obtain ⟨rfl, rfl⟩ := Prod.mk.inj (k77.symm.trans h80)
    refine lv_iload hx hb dL_law_463 (lv_at hl 3 rfl) ?_
    refine lv_icmp_ne (tgt := 527) hx hb dL_law_465 (by decide) (fun cb83 => absurd rfl cb83) (fun cb83 => ?_)
    refine lv_aload_n hx hb dL_law_468 rfl (lv_at hl 12 rfl) ?_
    refine lv_iconst (v := 3) hx hb dL_law_469 (by decide) ?_
    refine lv_iload hx hb dL_law_470 (lv_at hl 8 rfl) ?_
    refine lv_iconst (v := 0) hx hb dL_law_472 (by decide) ?_
    refine lv_iconst (v := 0) hx hb dL_law_473 (by decide) ?_
    have k84 : fCall (sAct (sRc S ce) RR) 3 (nI ((X / 7) % N)) 0 0 = ((S.2.2.1 (13 + (nI (X / 7 % N)).toNatClampNeg)), sAct (sRc S ce) RR) := (s_read (sAct (sRc S ce) RR) 0 0 hlR).trans (by show (RR (13 + (nI (X / 7 % N)).toNatClampNeg), _) = _; rw [hV])
    have hP := xa_permP List.perm_append_comm hP
    have hD := xa_permD List.perm_append_comm hD
    refine xl_callEi (ex := oW y bv ga67 gb68 (sAct (sRc S c0) RR)) (va_runS (As := [.ref (av 0), .int 3, .int (nI ((X / 7) % N)), .int 0, .int 0]) (rest := []) ⟨hx, hb, hml, hown, htl⟩ (c_call l hst D y av ga81 gb82 H.size (sAct (sRc S ce) RR) 3 (nI ((X / 7) % N)) 0 0 okA) (va_cwS 5 htl gL_law_L_call rfl rfl rfl hd_L_call ⟨Nat.le_of_ble_eq_true rfl, Nat.le_of_ble_eq_true rfl⟩) (lS hE hXE hLN hXZ hS hA (law_subE hP) (law_subD hD)) rfl rfl hl.1 rfl (lv_room (Nat.le_of_ble_eq_true rfl)) dL_law_474 ⟨by show _ ≤ 600130; omega, by show _ ≤ 7301079; omega⟩) hP hD hS hA (fun v85 u86 ga88 gb89 H locs h87 hP hD hS => ?_)
    have hP := xa_permP List.perm_append_comm hP
    have hD := xa_permD List.perm_append_comm hD
    obtain ⟨rfl, rfl⟩ := Prod.mk.inj (k84.symm.trans h87)
    refine lv_iload hx hb dL_law_477 (lv_at hl 1 rfl) ?_
    refine lv_icmp_ne (tgt := 527) hx hb dL_law_479 (by decide) (fun cb90 => absurd rfl cb90) (fun cb90 => ?_)
    refine lv_aload_n hx hb dL_law_482 rfl (lv_at hl 12 rfl) ?_
    refine lv_iconst (v := 2) hx hb dL_law_483 (by decide) ?_
    refine lv_bipush (v := 9) hx hb dL_law_484 (by decide) ?_
    refine lv_iconst (v := 0) hx hb dL_law_486 (by decide) ?_
    refine lv_iconst (v := 0) hx hb dL_law_487 (by decide) ?_
    have k91 : fCall (sAct (sRc S ce) RR) 2 9 0 0 = (0, sAct (sRc S ce) RR) := (s_ab9 (sAct (sRc S ce) RR) 0 0 (Or.inl h8)).trans (by show (RR 8, _) = _; rw [h8])
    have hP := xa_permP List.perm_append_comm hP
    have hD := xa_permD List.perm_append_comm hD
    refine xl_callEi (ex := oW y bv ga67 gb68 (sAct (sRc S c0) RR)) (va_runS (As := [.ref (av 0), .int 2, .int 9, .int 0, .int 0]) (rest := []) ⟨hx, hb, hml, hown, htl⟩ (c_call l hst D y av ga88 gb89 H.size (sAct (sRc S ce) RR) 2 9 0 0 okA) (va_cwS 5 htl gL_law_L_call rfl rfl rfl hd_L_call ⟨Nat.le_of_ble_eq_true rfl, Nat.le_of_ble_eq_true rfl⟩) (lS hE hXE hLN hXZ hS hA (law_subE hP) (law_subD hD)) rfl rfl hl.1 rfl (lv_room (Nat.le_of_ble_eq_true rfl)) dL_law_488 ⟨by show _ ≤ 600130; omega, by show _ ≤ 7301079; omega⟩) hP hD hS hA (fun v92 u93 ga95 gb96 H locs h94 hP hD hS => ?_)
    have hP := xa_permP List.perm_append_comm hP
    have hD := xa_permD List.perm_append_comm hD
    obtain ⟨rfl, rfl⟩ := Prod.mk.inj (k91.symm.trans h94)
    refine lv_iconst (v := 1) hx hb dL_law_491 (by decide) ?_
    refine lv_icmp_ne (tgt := 499) hx hb dL_law_492 (by decide) (fun cb97 => ?_) (fun cb97 => absurd cb97 (by decide))
    refine lv_iconst (v := 0) hx hb dL_law_499 (by decide) ?_
    refine lv_iload hx hb dL_law_500 (lv_at hl 6 rfl) ?_
    refine lv_iload hx hb dL_law_502 (lv_at hl 7 rfl) ?_
    refine lv_icmp_gt (tgt := 519) hx hb dL_law_504 (by decide) (fun cb98 => ?_) (fun cb98 => absurd (nI_lt (a := 1 + ((X / 224) % 300)) (b := LF) (by omega) (by omega)) cb98)
    refine lv_iconst (v := 0) hx hb dL_law_519 (by decide) ?_
    refine lv_icmp_ne (tgt := 527) hx hb dL_law_520 (by decide) (fun cb99 => absurd (by decide) cb99) (fun cb99 => ?_)
    refine lv_iconst (v := 1) hx hb dL_law_523 (by decide) ?_
    refine lv_goto (tgt := 528) hx hb dL_law_524 (by decide) ?_
    refine lv_istore (lv' := [(6, .int 1), (20, .int (nI (1 + ((X / 224) % 300)))), (19, .int (S.2.2.1 (13 + (nI (X / 7 % N)).toNatClampNeg))), (18, .int (S.2.2.1 3)), (17, .int (wE S.2.2.1 (nI (X / 7 % N)) (nI (1 + (X / 224 % 300))) EV)), (16, .int (S.2.2.1 6)), (15, .int (S.2.2.1 5)), (14, .int (nI LF)), (13, .int (nI (1 + ((X / 224) % 300)))), (12, .int (nI ((X / 7) % N))), (11, .int (nI N)), (0, .ref b), (1, .ref (av 0)), (2, .ref (bv 0)), (7, .int (nI T)), (8, .int (nI j)), (9, .int (nI X))]) hx hb dL_law_528 hl (by decide) rfl (fun ls hl => ?_)
    refine lv_aload_n hx hb dL_law_530 rfl (lv_at hl 12 rfl) ?_
    refine lv_iconst (v := 2) hx hb dL_law_531 (by decide) ?_
    refine lv_iconst (v := 5) hx hb dL_law_532 (by decide) ?_
    refine lv_iconst (v := 0) hx hb dL_law_533 (by decide) ?_
    refine lv_iconst (v := 0) hx hb dL_law_534 (by decide) ?_
    have k100 : fCall (sAct (sRc S ce) RR) 2 5 0 0 = ((RR 6), sAct (sRc S ce) RR) := s_ab5 (sAct (sRc S ce) RR) 0 0
    have hP := xa_permP List.perm_append_comm hP
    have hD := xa_permD List.perm_append_comm hD
    refine xl_callEi (ex := oW y bv ga67 gb68 (sAct (sRc S c0) RR)) (va_runS (As := [.ref (av 0), .int 2, .int 5, .int 0, .int 0]) (rest := []) ⟨hx, hb, hml, hown, htl⟩ (c_call l hst D y av ga95 gb96 H.size (sAct (sRc S ce) RR) 2 5 0 0 okA) (va_cwS 5 htl gL_law_L_call rfl rfl rfl hd_L_call ⟨Nat.le_of_ble_eq_true rfl, Nat.le_of_ble_eq_true rfl⟩) (lS hE hXE hLN hXZ hS hA (law_subE hP) (law_subD hD)) rfl rfl hl.1 rfl (lv_room (Nat.le_of_ble_eq_true rfl)) dL_law_535 ⟨by show _ ≤ 600130; omega, by show _ ≤ 7301079; omega⟩) hP hD hS hA (fun v101 u102 ga104 gb105 H locs h103 hP hD hS => ?_)
    have hP := xa_permP List.perm_append_comm hP
    have hD := xa_permD List.perm_append_comm hD
    obtain ⟨rfl, rfl⟩ := Prod.mk.inj (k100.symm.trans h103)
    refine lv_iload hx hb dL_law_538 (lv_at hl 5 rfl) ?_
    refine lv_isub hx hb dL_law_540 ?_
    refine lv_topi (fun z106 ez106 => ?_)
    obtain rfl : z106 = nI J := ez106.trans (hJ)
    refine lv_istore (lv' := [(21, .int (nI J)), (6, .int 1), (20, .int (nI (1 + ((X / 224) % 300)))), (19, .int (S.2.2.1 (13 + (nI (X / 7 % N)).toNatClampNeg))), (18, .int (S.2.2.1 3)), (17, .int (wE S.2.2.1 (nI (X / 7 % N)) (nI (1 + (X / 224 % 300))) EV)), (16, .int (S.2.2.1 6)), (15, .int (S.2.2.1 5)), (14, .int (nI LF)), (13, .int (nI (1 + ((X / 224) % 300)))), (12, .int (nI ((X / 7) % N))), (11, .int (nI N)), (0, .ref b), (1, .ref (av 0)), (2, .ref (bv 0)), (7, .int (nI T)), (8, .int (nI j)), (9, .int (nI X))]) hx hb dL_law_541 hl (by decide) rfl (fun ls hl => ?_)
    refine lv_aload_n hx hb dL_law_543 rfl (lv_at hl 13 rfl) ?_
    refine lv_iconst (v := 4) hx hb dL_law_544 (by decide) ?_
    refine lv_iload hx hb dL_law_545 (lv_at hl 10 rfl) ?_
    refine lv_iconst (v := 0) hx hb dL_law_547 (by decide) ?_
    refine lv_iconst (v := 0) hx hb dL_law_548 (by decide) ?_
    have k107 : fCall (sAct (sRc S ce) RR) 4 (nI ((X / 7) % N)) 0 0 = (f_X3_placeAfterMoves S.2.2.1 (nI (X / 7 % N)) (nI J), sAct (sRc S ce) RR) := (s_place0 (sAct (sRc S ce) RR) 0 0 hlR).trans (by show (f_X3_placeOf RR (nI (X / 7 % N)), _) = _; rw [hPL])
    have hP := xa_permP List.perm_append_comm hP
    have hD := xa_permD List.perm_append_comm hD
    refine xl_callEi (ex := oW y bv ga67 gb68 (sAct (sRc S c0) RR)) (va_runS (As := [.ref (av 0), .int 4, .int (nI ((X / 7) % N)), .int 0, .int 0]) (rest := []) ⟨hx, hb, hml, hown, htl⟩ (c_call l hst D y av ga104 gb105 H.size (sAct (sRc S ce) RR) 4 (nI ((X / 7) % N)) 0 0 okA) (va_cwS 5 htl gL_law_L_call rfl rfl rfl hd_L_call ⟨Nat.le_of_ble_eq_true rfl, Nat.le_of_ble_eq_true rfl⟩) (lS hE hXE hLN hXZ hS hA (law_subE hP) (law_subD hD)) rfl rfl hl.1 rfl (lv_room (Nat.le_of_ble_eq_true rfl)) dL_law_549 ⟨by show _ ≤ 600130; omega, by show _ ≤ 7301079; omega⟩) hP hD hS hA (fun v108 u109 ga111 gb112 H locs h110 hP hD hS => ?_)
    have hP := xa_permP List.perm_append_comm hP
    have hD := xa_permD List.perm_append_comm hD
    obtain ⟨rfl, rfl⟩ := Prod.mk.inj (k107.symm.trans h110)
    refine lv_istore (lv' := [(22, .int (f_X3_placeAfterMoves S.2.2.1 (nI (X / 7 % N)) (nI J))), (21, .int (nI J)), (6, .int 1), (20, .int (nI (1 + ((X / 224) % 300)))), (19, .int (S.2.2.1 (13 + (nI (X / 7 % N)).toNatClampNeg))), (18, .int (S.2.2.1 3)), (17, .int (wE S.2.2.1 (nI (X / 7 % N)) (nI (1 + (X / 224 % 300))) EV)), (16, .int (S.2.2.1 6)), (15, .int (S.2.2.1 5)), (14, .int (nI LF)), (13, .int (nI (1 + ((X / 224) % 300)))), (12, .int (nI ((X / 7) % N))), (11, .int (nI N)), (0, .ref b), (1, .ref (av 0)), (2, .ref (bv 0)), (7, .int (nI T)), (8, .int (nI j)), (9, .int (nI X))]) hx hb dL_law_552 hl (by decide) rfl (fun ls hl => ?_)
    refine lv_iload hx hb dL_law_554 (lv_at hl 2 rfl) ?_
    refine lv_if_eq (tgt := 635) hx hb dL_law_556 (by decide) (fun cb113 => absurd cb113 (by decide)) (fun cb113 => ?_)
    refine lv_aload_n hx hb dL_law_559 rfl (lv_at hl 14 rfl) ?_
    refine lv_bipush (v := 13) hx hb dL_law_560 (by decide) ?_
    refine lv_iconst (v := 0) hx hb dL_law_562 (by decide) ?_
    refine lv_iconst (v := 0) hx hb dL_law_563 (by decide) ?_
    refine lv_iconst (v := 0) hx hb dL_law_564 (by decide) ?_
    have k114 : fCall (sAct (sRc S ce) RR) 13 0 0 0 = ((f_X0_remember S.2.2.1 S.2.2.2.2.1 S.2.2.2.2.2.1 S.2.2.2.2.2.2.1).2.1 - 1, sUn (sRc S ce)) := s_undo (sRc S ce) 0 0 0 hG
    have hP := xa_permP List.perm_append_comm hP
    have hD := xa_permD List.perm_append_comm hD
    refine xl_callEi (ex := oW y bv ga67 gb68 (sAct (sRc S c0) RR)) (va_runS (As := [.ref (av 0), .int 13, .int 0, .int 0, .int 0]) (rest := []) ⟨hx, hb, hml, hown, htl⟩ (c_call l hst D y av ga111 gb112 H.size (sAct (sRc S ce) RR) 13 0 0 0 okA) (va_cwS 5 htl gL_law_L_call rfl rfl rfl hd_L_call ⟨Nat.le_of_ble_eq_true rfl, Nat.le_of_ble_eq_true rfl⟩) (lS hE hXE hLN hXZ hS hA (law_subE hP) (law_subD hD)) rfl rfl hl.1 rfl (lv_room (Nat.le_of_ble_eq_true rfl)) dL_law_565 ⟨by show _ ≤ 600130; omega, by show _ ≤ 7301079; omega⟩) hP hD hS hA (fun v115 u116 ga118 gb119 H locs h117 hP hD hS => ?_)
    have hP := xa_permP List.perm_append_comm hP
    have hD := xa_permD List.perm_append_comm hD
    obtain ⟨rfl, rfl⟩ := Prod.mk.inj (k114.symm.trans h117)
    refine xs_calli (va_runS (As := [.int ((f_X0_remember S.2.2.1 S.2.2.2.2.1 S.2.2.2.2.2.1 S.2.2.2.2.2.2.1).2.1 - 1)]) (rest := []) ⟨hx, hb, hml, hown, htl⟩ (c_L_thrown l D y H.size ((f_X0_remember S.2.2.1 S.2.2.2.2.1 S.2.2.2.2.2.1 S.2.2.2.2.2.2.1).2.1 - 1)) (va_cwS 1 htl gL_law_L_thrown rfl rfl rfl hd_L_thrown ⟨Nat.le_of_ble_eq_true rfl, Nat.le_of_ble_eq_true rfl⟩) (gS hE (hP.sub [] rfl) (hD.sub [] (by decide) rfl)) rfl rfl hl.1 rfl (lv_room (Nat.le_of_ble_eq_true rfl)) dL_law_568 ⟨by show _ ≤ 600130; omega, by show _ ≤ 7301079; omega⟩) (fun v120 h121 => ?_)
    obtain rfl : 0 = v120 := (s_unv hG).symm.trans h121
    refine lv_if_ne (tgt := 635) hx hb dL_law_571 (by decide) (fun cb122 => absurd (by decide) cb122) (fun cb122 => ?_)
    refine lv_aload_n hx hb dL_law_574 rfl (lv_at hl 15 rfl) ?_
    refine lv_bipush (v := 13) hx hb dL_law_575 (by decide) ?_
    refine lv_iconst (v := 0) hx hb dL_law_577 (by decide) ?_
    refine lv_iconst (v := 0) hx hb dL_law_578 (by decide) ?_
    refine lv_iconst (v := 0) hx hb dL_law_579 (by decide) ?_
    have k123 : fCall (sAct (sRc S c0) RR) 13 0 0 0 = ((f_X0_remember S.2.2.1 S.2.2.2.2.1 S.2.2.2.2.2.1 S.2.2.2.2.2.2.1).2.1 - 1, sUn (sRc S c0)) := s_undo (sRc S c0) 0 0 0 hG
    refine xl_callEi (ex := oW y av ga118 gb119 (sUn (sRc S ce))) (va_runS (As := [.ref (bv 0), .int 13, .int 0, .int 0, .int 0]) (rest := []) ⟨hx, hb, hml, hown, htl⟩ (c_call l hst D y bv ga67 gb68 H.size (sAct (sRc S c0) RR) 13 0 0 0 okB) (va_cwS 5 htl gL_law_L_call rfl rfl rfl hd_L_call ⟨Nat.le_of_ble_eq_true rfl, Nat.le_of_ble_eq_true rfl⟩) (lS hE hXE hLN hXZ hS hA (law_subE hP) (law_subD hD)) rfl rfl hl.1 rfl (lv_room (Nat.le_of_ble_eq_true rfl)) dL_law_580 ⟨by show _ ≤ 600130; omega, by show _ ≤ 7301079; omega⟩) hP hD hS hA (fun v124 u125 ga127 gb128 H locs h126 hP hD hS => ?_)
    obtain ⟨rfl, rfl⟩ := Prod.mk.inj (k123.symm.trans h126)
    refine xs_calli (va_runS (As := [.int ((f_X0_remember S.2.2.1 S.2.2.2.2.1 S.2.2.2.2.2.1 S.2.2.2.2.2.2.1).2.1 - 1)]) (rest := []) ⟨hx, hb, hml, hown, htl⟩ (c_L_thrown l D y H.size ((f_X0_remember S.2.2.1 S.2.2.2.2.1 S.2.2.2.2.2.1 S.2.2.2.2.2.2.1).2.1 - 1)) (va_cwS 1 htl gL_law_L_thrown rfl rfl rfl hd_L_thrown ⟨Nat.le_of_ble_eq_true rfl, Nat.le_of_ble_eq_true rfl⟩) (gS hE (hP.sub [] rfl) (hD.sub [] (by decide) rfl)) rfl rfl hl.1 rfl (lv_room (Nat.le_of_ble_eq_true rfl)) dL_law_583 ⟨by show _ ≤ 600130; omega, by show _ ≤ 7301079; omega⟩) (fun v129 h130 => ?_)
    obtain rfl : 0 = v129 := (s_unv hG).symm.trans h130
    refine lv_if_ne (tgt := 635) hx hb dL_law_586 (by decide) (fun cb131 => absurd (by decide) cb131) (fun cb131 => ?_)
    refine lv_aload_n hx hb dL_law_589 rfl (lv_at hl 14 rfl) ?_
    refine lv_bipush (v := 19) hx hb dL_law_590 (by decide) ?_
    refine lv_iload hx hb dL_law_592 (lv_at hl 11 rfl) ?_
    refine lv_iload hx hb dL_law_594 (lv_at hl 1 rfl) ?_
    refine lv_iconst (v := 0) hx hb dL_law_596 (by decide) ?_
    have k132 : fCall (sUn (sRc S ce)) 19 (nI ((X / 7) % N)) (nI J) 0 = (f_X3_placeAfterMoves S.2.2.1 (nI (X / 7 % N)) (nI J), sUn (sRc S ce)) := s_behind0 (sUn (sRc S ce)) (m := J) 0 hl0 (by omega)
    have hP := xa_permP List.perm_append_comm hP
    have hD := xa_permD List.perm_append_comm hD
    refine xl_callEi (ex := oW y bv ga127 gb128 (sUn (sRc S c0))) (va_runS (As := [.ref (av 0), .int 19, .int (nI ((X / 7) % N)), .int (nI J), .int 0]) (rest := []) ⟨hx, hb, hml, hown, htl⟩ (c_call l hst D y av ga118 gb119 H.size (sUn (sRc S ce)) 19 (nI ((X / 7) % N)) (nI J) 0 hG.un.ok) (va_cwS 5 htl gL_law_L_call rfl rfl rfl hd_L_call ⟨Nat.le_of_ble_eq_true rfl, Nat.le_of_ble_eq_true rfl⟩) (lS hE hXE hLN hXZ hS hA (law_subE hP) (law_subD hD)) rfl rfl hl.1 rfl (lv_room (Nat.le_of_ble_eq_true rfl)) dL_law_597 ⟨by show _ ≤ 600130; omega, by show _ ≤ 7301079; omega⟩) hP hD hS hA (fun v133 u134 ga136 gb137 H locs h135 hP hD hS => ?_)
    have hP := xa_permP List.perm_append_comm hP
    have hD := xa_permD List.perm_append_comm hD
    obtain ⟨rfl, rfl⟩ := Prod.mk.inj (k132.symm.trans h135)
    refine lv_iload hx hb dL_law_600 (lv_at hl 0 rfl) ?_
    refine lv_icmp_ne (tgt := 635) hx hb dL_law_602 (by decide) (fun cb138 => absurd rfl cb138) (fun cb138 => ?_)
    refine lv_aload_n hx hb dL_law_605 rfl (lv_at hl 14 rfl) ?_
    refine lv_iconst (v := 2) hx hb dL_law_606 (by decide) ?_
    refine lv_iconst (v := 4) hx hb dL_law_607 (by decide) ?_
    refine lv_iconst (v := 0) hx hb dL_law_608 (by decide) ?_
    refine lv_iconst (v := 0) hx hb dL_law_609 (by decide) ?_
    have k139 : fCall (sUn (sRc S ce)) 2 4 0 0 = ((S.2.2.1 5), sUn (sRc S ce)) := s_ab4 (sUn (sRc S ce)) 0 0
    have hP := xa_permP List.perm_append_comm hP
    have hD := xa_permD List.perm_append_comm hD
    refine xl_callEi (ex := oW y bv ga127 gb128 (sUn (sRc S c0))) (va_runS (As := [.ref (av 0), .int 2, .int 4, .int 0, .int 0]) (rest := []) ⟨hx, hb, hml, hown, htl⟩ (c_call l hst D y av ga136 gb137 H.size (sUn (sRc S ce)) 2 4 0 0 hG.un.ok) (va_cwS 5 htl gL_law_L_call rfl rfl rfl hd_L_call ⟨Nat.le_of_ble_eq_true rfl, Nat.le_of_ble_eq_true rfl⟩) (lS hE hXE hLN hXZ hS hA (law_subE hP) (law_subD hD)) rfl rfl hl.1 rfl (lv_room (Nat.le_of_ble_eq_true rfl)) dL_law_610 ⟨by show _ ≤ 600130; omega, by show _ ≤ 7301079; omega⟩) hP hD hS hA (fun v140 u141 ga143 gb144 H locs h142 hP hD hS => ?_)
    have hP := xa_permP List.perm_append_comm hP
    have hD := xa_permD List.perm_append_comm hD
    obtain ⟨rfl, rfl⟩ := Prod.mk.inj (k139.symm.trans h142)
    refine lv_iload hx hb dL_law_613 (lv_at hl 8 rfl) ?_
    refine lv_icmp_ne (tgt := 635) hx hb dL_law_615 (by decide) (fun cb145 => absurd rfl cb145) (fun cb145 => ?_)
    refine lv_aload_n hx hb dL_law_618 rfl (lv_at hl 14 rfl) ?_
    refine lv_iconst (v := 2) hx hb dL_law_619 (by decide) ?_
    refine lv_iconst (v := 2) hx hb dL_law_620 (by decide) ?_
    refine lv_iconst (v := 0) hx hb dL_law_621 (by decide) ?_
    refine lv_iconst (v := 0) hx hb dL_law_622 (by decide) ?_
    have k146 : fCall (sUn (sRc S ce)) 2 2 0 0 = ((S.2.2.1 3), sUn (sRc S ce)) := s_ab2 (sUn (sRc S ce)) 0 0
    have hP := xa_permP List.perm_append_comm hP
    have hD := xa_permD List.perm_append_comm hD
    refine xl_callEi (ex := oW y bv ga127 gb128 (sUn (sRc S c0))) (va_runS (As := [.ref (av 0), .int 2, .int 2, .int 0, .int 0]) (rest := []) ⟨hx, hb, hml, hown, htl⟩ (c_call l hst D y av ga143 gb144 H.size (sUn (sRc S ce)) 2 2 0 0 hG.un.ok) (va_cwS 5 htl gL_law_L_call rfl rfl rfl hd_L_call ⟨Nat.le_of_ble_eq_true rfl, Nat.le_of_ble_eq_true rfl⟩) (lS hE hXE hLN hXZ hS hA (law_subE hP) (law_subD hD)) rfl rfl hl.1 rfl (lv_room (Nat.le_of_ble_eq_true rfl)) dL_law_623 ⟨by show _ ≤ 600130; omega, by show _ ≤ 7301079; omega⟩) hP hD hS hA (fun v147 u148 ga150 gb151 H locs h149 hP hD hS => ?_)
    have hP := xa_permP List.perm_append_comm hP
    have hD := xa_permD List.perm_append_comm hD
    obtain ⟨rfl, rfl⟩ := Prod.mk.inj (k146.symm.trans h149)
    refine lv_iload hx hb dL_law_626 (lv_at hl 5 rfl) ?_
    refine lv_icmp_ne (tgt := 635) hx hb dL_law_628 (by decide) (fun cb152 => absurd rfl cb152) (fun cb152 => ?_)
    refine lv_iconst (v := 1) hx hb dL_law_631 (by decide) ?_
    refine lv_goto (tgt := 636) hx hb dL_law_632 (by decide) ?_
    refine lv_istore (lv' := [(6, .int 1), (22, .int (f_X3_placeAfterMoves S.2.2.1 (nI (X / 7 % N)) (nI J))), (21, .int (nI J)), (20, .int (nI (1 + ((X / 224) % 300)))), (19, .int (S.2.2.1 (13 + (nI (X / 7 % N)).toNatClampNeg))), (18, .int (S.2.2.1 3)), (17, .int (wE S.2.2.1 (nI (X / 7 % N)) (nI (1 + (X / 224 % 300))) EV)), (16, .int (S.2.2.1 6)), (15, .int (S.2.2.1 5)), (14, .int (nI LF)), (13, .int (nI (1 + ((X / 224) % 300)))), (12, .int (nI ((X / 7) % N))), (11, .int (nI N)), (0, .ref b), (1, .ref (av 0)), (2, .ref (bv 0)), (7, .int (nI T)), (8, .int (nI j)), (9, .int (nI X))]) hx hb dL_law_636 hl (by decide) rfl (fun ls hl => ?_)
    refine lv_iinc (v := nI (j + 1)) (lv' := [(8, .int (nI (j + 1))), (6, .int 1), (22, .int (f_X3_placeAfterMoves S.2.2.1 (nI (X / 7 % N)) (nI J))), (21, .int (nI J)), (20, .int (nI (1 + ((X / 224) % 300)))), (19, .int (S.2.2.1 (13 + (nI (X / 7 % N)).toNatClampNeg))), (18, .int (S.2.2.1 3)), (17, .int (wE S.2.2.1 (nI (X / 7 % N)) (nI (1 + (X / 224 % 300))) EV)), (16, .int (S.2.2.1 6)), (15, .int (S.2.2.1 5)), (14, .int (nI LF)), (13, .int (nI (1 + ((X / 224) % 300)))), (12, .int (nI ((X / 7) % N))), (11, .int (nI N)), (0, .ref b), (1, .ref (av 0)), (2, .ref (bv 0)), (7, .int (nI T)), (9, .int (nI X))]) hx hb dL_law_638 hl (k := 17) rfl (nI_add j 1) (by decide) rfl (fun ls hl => ?_)
    refine lv_goto (tgt := 158) hx hb dL_law_641 (by decide) ?_
    refine W.widen (k := cells + 200) (n := slots + 3000) (by omega) (by omega) ?_
    exact kk (sUn (sRc S ce)) c0 ga150 gb151 ga127 gb128 H locs ls hG.un hP hD hS (lv_sub hl [14, 15, 16, 1, 17, 0] rfl)
  · skip
    have h8 : RR 8 = 1 := okA0.2.2.resolve_left (hdead.mpr (by omega))
    obtain ⟨T9, hT9e⟩ : ∃ z, z = LF := ⟨_, rfl⟩
    have hT9 : (hmF (nI (X / 7 % N)) (1 + (X / 224 % 300)) S.2.2.1).1 = T9 := by rw [hmin, if_neg hml2, hT9e]
    rw [hT9] at h5
    refine lv_istore (lv' := [(6, .int 1), (0, .ref b), (1, .ref (av 0)), (2, .ref (bv 0)), (7, .int (nI T)), (8, .int (nI j)), (9, .int (nI X))]) hx hb dL_law_275 hl (by decide) rfl (fun ls hl => ?_)
    refine lv_aload_n hx hb dL_law_277 rfl (lv_at hl 2 rfl) ?_
    refine lv_iconst (v := 2) hx hb dL_law_278 (by decide) ?_
    refine lv_iconst (v := 0) hx hb dL_law_279 (by decide) ?_
    refine lv_iconst (v := 0) hx hb dL_law_280 (by decide) ?_
    refine lv_iconst (v := 0) hx hb dL_law_281 (by decide) ?_
    have k153 : fCall S 2 0 0 0 = (nI N, S) := (s_ab0 S 0 0).trans (by rw [e0])
    have hP := xa_permP List.perm_append_comm hP
    have hD := xa_permD List.perm_append_comm hD
    refine xl_callEi (ex := oW y bv gc gd (sRc S c0)) (va_runS (As := [.ref (av 0), .int 2, .int 0, .int 0, .int 0]) (rest := []) ⟨hx, hb, hml, hown, htl⟩ (c_call l hst D y av ga gb H.size S 2 0 0 0 hG.ok) (va_cwS 5 htl gL_law_L_call rfl rfl rfl hd_L_call ⟨Nat.le_of_ble_eq_true rfl, Nat.le_of_ble_eq_true rfl⟩) (lS hE hXE hLN hXZ hS hA (law_subE hP) (law_subD hD)) rfl rfl hl.1 rfl (lv_room (Nat.le_of_ble_eq_true rfl)) dL_law_282 ⟨by show _ ≤ 600130; omega, by show _ ≤ 7301079; omega⟩) hP hD hS hA (fun v154 u155 ga157 gb158 H locs h156 hP hD hS => ?_)
    have hP := xa_permP List.perm_append_comm hP
    have hD := xa_permD List.perm_append_comm hD
    obtain ⟨rfl, rfl⟩ := Prod.mk.inj (k153.symm.trans h156)
    refine lv_istore (lv' := [(11, .int (nI N)), (6, .int 1), (0, .ref b), (1, .ref (av 0)), (2, .ref (bv 0)), (7, .int (nI T)), (8, .int (nI j)), (9, .int (nI X))]) hx hb dL_law_285 hl (by decide) rfl (fun ls hl => ?_)
    refine lv_iload hx hb dL_law_287 (lv_at hl 7 rfl) ?_
    refine lv_bipush (v := 7) hx hb dL_law_289 (by decide) ?_
    refine lv_idiv hx hb dL_law_291 (by decide) ?_
    refine lv_topi (fun z159 ez159 => ?_)
    obtain rfl : z159 = nI (X / 7) := ez159.trans ((pk_div (a := X) (d := 7) (by omega) (by omega) (by omega) : nI X / nI 7 = _))
    refine lv_iload hx hb dL_law_292 (lv_at hl 0 rfl) ?_
    refine lv_irem hx hb dL_law_294 (nI_ne0 (n := N) (by omega) (by omega)) ?_
    refine lv_topi (fun z160 ez160 => ?_)
    obtain rfl : z160 = nI ((X / 7) % N) := ez160.trans ((pk_rem (a := X / 7) (d := N) (by omega) (by omega) (by omega) : nI (X / 7) - nI (X / 7) / nI N * nI N = _))
    refine lv_istore (lv' := [(12, .int (nI ((X / 7) % N))), (11, .int (nI N)), (6, .int 1), (0, .ref b), (1, .ref (av 0)), (2, .ref (bv 0)), (7, .int (nI T)), (8, .int (nI j)), (9, .int (nI X))]) hx hb dL_law_295 hl (by decide) rfl (fun ls hl => ?_)
    refine lv_iconst (v := 1) hx hb dL_law_297 (by decide) ?_
    refine lv_iload hx hb dL_law_298 (lv_at hl 8 rfl) ?_
    refine lv_sipush (v := 224) hx hb dL_law_300 (by decide) ?_
    refine lv_idiv hx hb dL_law_303 (by decide) ?_
    refine lv_topi (fun z161 ez161 => ?_)
    obtain rfl : z161 = nI (X / 224) := ez161.trans ((pk_div (a := X) (d := 224) (by omega) (by omega) (by omega) : nI X / nI 224 = _))
    refine lv_sipush (v := 300) hx hb dL_law_304 (by decide) ?_
    refine lv_irem hx hb dL_law_307 (by decide) ?_
    refine lv_topi (fun z162 ez162 => ?_)
    obtain rfl : z162 = nI ((X / 224) % 300) := ez162.trans ((pk_rem (a := X / 224) (d := 300) (by omega) (by omega) (by omega) : nI (X / 224) - nI (X / 224) / nI 300 * nI 300 = _))
    refine lv_iadd hx hb dL_law_308 ?_
    refine lv_topi (fun z163 ez163 => ?_)
    obtain rfl : z163 = nI (1 + ((X / 224) % 300)) := ez163.trans ((nI_add 1 ((X / 224) % 300) : nI 1 + nI ((X / 224) % 300) = _))
    refine lv_istore (lv' := [(13, .int (nI (1 + ((X / 224) % 300)))), (12, .int (nI ((X / 7) % N))), (11, .int (nI N)), (6, .int 1), (0, .ref b), (1, .ref (av 0)), (2, .ref (bv 0)), (7, .int (nI T)), (8, .int (nI j)), (9, .int (nI X))]) hx hb dL_law_309 hl (by decide) rfl (fun ls hl => ?_)
    refine lv_aload_n hx hb dL_law_311 rfl (lv_at hl 5 rfl) ?_
    refine lv_bipush (v := 14) hx hb dL_law_312 (by decide) ?_
    refine lv_iload hx hb dL_law_314 (lv_at hl 1 rfl) ?_
    refine lv_iconst (v := 0) hx hb dL_law_316 (by decide) ?_
    refine lv_iconst (v := 0) hx hb dL_law_317 (by decide) ?_
    obtain ⟨cl, k164⟩ : ∃ c, fCall S 14 (nI ((X / 7) % N)) 0 0 = (nI LF, sRc S c) := ⟨_, (s_life S 0 0 hl0).trans (by rw [hLF])⟩
    have hP := xa_permP List.perm_append_comm hP
    have hD := xa_permD List.perm_append_comm hD
    refine xl_callEi (ex := oW y bv gc gd (sRc S c0)) (va_runS (As := [.ref (av 0), .int 14, .int (nI ((X / 7) % N)), .int 0, .int 0]) (rest := []) ⟨hx, hb, hml, hown, htl⟩ (c_call l hst D y av ga157 gb158 H.size S 14 (nI ((X / 7) % N)) 0 0 hG.ok) (va_cwS 5 htl gL_law_L_call rfl rfl rfl hd_L_call ⟨Nat.le_of_ble_eq_true rfl, Nat.le_of_ble_eq_true rfl⟩) (lS hE hXE hLN hXZ hS hA (law_subE hP) (law_subD hD)) rfl rfl hl.1 rfl (lv_room (Nat.le_of_ble_eq_true rfl)) dL_law_318 ⟨by show _ ≤ 600130; omega, by show _ ≤ 7301079; omega⟩) hP hD hS hA (fun v165 u166 ga168 gb169 H locs h167 hP hD hS => ?_)
    have hP := xa_permP List.perm_append_comm hP
    have hD := xa_permD List.perm_append_comm hD
    obtain ⟨rfl, rfl⟩ := Prod.mk.inj (k164.symm.trans h167)
    refine lv_istore (lv' := [(14, .int (nI LF)), (13, .int (nI (1 + ((X / 224) % 300)))), (12, .int (nI ((X / 7) % N))), (11, .int (nI N)), (6, .int 1), (0, .ref b), (1, .ref (av 0)), (2, .ref (bv 0)), (7, .int (nI T)), (8, .int (nI j)), (9, .int (nI X))]) hx hb dL_law_321 hl (by decide) rfl (fun ls hl => ?_)
    refine lv_aload_n hx hb dL_law_323 rfl (lv_at hl 6 rfl) ?_
    refine lv_iconst (v := 2) hx hb dL_law_324 (by decide) ?_
    refine lv_iconst (v := 4) hx hb dL_law_325 (by decide) ?_
    refine lv_iconst (v := 0) hx hb dL_law_326 (by decide) ?_
    refine lv_iconst (v := 0) hx hb dL_law_327 (by decide) ?_
    have k170 : fCall (sRc S cl) 2 4 0 0 = ((S.2.2.1 5), sRc S cl) := s_ab4 (sRc S cl) 0 0
    have hP := xa_permP List.perm_append_comm hP
    have hD := xa_permD List.perm_append_comm hD
    refine xl_callEi (ex := oW y bv gc gd (sRc S c0)) (va_runS (As := [.ref (av 0), .int 2, .int 4, .int 0, .int 0]) (rest := []) ⟨hx, hb, hml, hown, htl⟩ (c_call l hst D y av ga168 gb169 H.size (sRc S cl) 2 4 0 0 hG.ok) (va_cwS 5 htl gL_law_L_call rfl rfl rfl hd_L_call ⟨Nat.le_of_ble_eq_true rfl, Nat.le_of_ble_eq_true rfl⟩) (lS hE hXE hLN hXZ hS hA (law_subE hP) (law_subD hD)) rfl rfl hl.1 rfl (lv_room (Nat.le_of_ble_eq_true rfl)) dL_law_328 ⟨by show _ ≤ 600130; omega, by show _ ≤ 7301079; omega⟩) hP hD hS hA (fun v171 u172 ga174 gb175 H locs h173 hP hD hS => ?_)
    have hP := xa_permP List.perm_append_comm hP
    have hD := xa_permD List.perm_append_comm hD
    obtain ⟨rfl, rfl⟩ := Prod.mk.inj (k170.symm.trans h173)
    refine lv_istore (lv' := [(15, .int (S.2.2.1 5)), (14, .int (nI LF)), (13, .int (nI (1 + ((X / 224) % 300)))), (12, .int (nI ((X / 7) % N))), (11, .int (nI N)), (6, .int 1), (0, .ref b), (1, .ref (av 0)), (2, .ref (bv 0)), (7, .int (nI T)), (8, .int (nI j)), (9, .int (nI X))]) hx hb dL_law_331 hl (by decide) rfl (fun ls hl => ?_)
    refine lv_aload_n hx hb dL_law_333 rfl (lv_at hl 7 rfl) ?_
    refine lv_iconst (v := 2) hx hb dL_law_334 (by decide) ?_
    refine lv_iconst (v := 5) hx hb dL_law_335 (by decide) ?_
    refine lv_iconst (v := 0) hx hb dL_law_336 (by decide) ?_
    refine lv_iconst (v := 0) hx hb dL_law_337 (by decide) ?_
    have k176 : fCall (sRc S cl) 2 5 0 0 = ((S.2.2.1 6), sRc S cl) := s_ab5 (sRc S cl) 0 0
    have hP := xa_permP List.perm_append_comm hP
    have hD := xa_permD List.perm_append_comm hD
    refine xl_callEi (ex := oW y bv gc gd (sRc S c0)) (va_runS (As := [.ref (av 0), .int 2, .int 5, .int 0, .int 0]) (rest := []) ⟨hx, hb, hml, hown, htl⟩ (c_call l hst D y av ga174 gb175 H.size (sRc S cl) 2 5 0 0 hG.ok) (va_cwS 5 htl gL_law_L_call rfl rfl rfl hd_L_call ⟨Nat.le_of_ble_eq_true rfl, Nat.le_of_ble_eq_true rfl⟩) (lS hE hXE hLN hXZ hS hA (law_subE hP) (law_subD hD)) rfl rfl hl.1 rfl (lv_room (Nat.le_of_ble_eq_true rfl)) dL_law_338 ⟨by show _ ≤ 600130; omega, by show _ ≤ 7301079; omega⟩) hP hD hS hA (fun v177 u178 ga180 gb181 H locs h179 hP hD hS => ?_)
    have hP := xa_permP List.perm_append_comm hP
    have hD := xa_permD List.perm_append_comm hD
    obtain ⟨rfl, rfl⟩ := Prod.mk.inj (k176.symm.trans h179)
    refine lv_istore (lv' := [(16, .int (S.2.2.1 6)), (15, .int (S.2.2.1 5)), (14, .int (nI LF)), (13, .int (nI (1 + ((X / 224) % 300)))), (12, .int (nI ((X / 7) % N))), (11, .int (nI N)), (6, .int 1), (0, .ref b), (1, .ref (av 0)), (2, .ref (bv 0)), (7, .int (nI T)), (8, .int (nI j)), (9, .int (nI X))]) hx hb dL_law_341 hl (by decide) rfl (fun ls hl => ?_)
    refine lv_aload_n hx hb dL_law_343 rfl (lv_at hl 8 rfl) ?_
    refine lv_bipush (v := 16) hx hb dL_law_344 (by decide) ?_
    refine lv_iload hx hb dL_law_346 (lv_at hl 4 rfl) ?_
    refine lv_aload_n hx hb dL_law_348 rfl (lv_at hl 8 rfl) ?_
    refine lv_bipush (v := 7) hx hb dL_law_349 (by decide) ?_
    refine lv_iconst (v := 1) hx hb dL_law_351 (by decide) ?_
    refine lv_iconst (v := 0) hx hb dL_law_352 (by decide) ?_
    refine lv_iconst (v := 0) hx hb dL_law_353 (by decide) ?_
    have k182 : fCall (sRc S cl) 7 1 0 0 = (nI EV, sRc S cl) := (s_setting1 (sRc S cl) 0 0).trans (by show (S.2.2.1 12, _) = _; rw [eE])
    have hP := xa_permP List.perm_append_comm hP
    have hD := xa_permD List.perm_append_comm hD
    refine xl_callEi (ex := oW y bv gc gd (sRc S c0)) (va_runS (As := [.ref (av 0), .int 7, .int 1, .int 0, .int 0]) (rest := [.int (nI ((X / 7) % N)), .int 16, .ref (av 0)]) ⟨hx, hb, hml, hown, htl⟩ (c_call l hst D y av ga180 gb181 H.size (sRc S cl) 7 1 0 0 hG.ok) (va_cwS 5 htl gL_law_L_call rfl rfl rfl hd_L_call ⟨Nat.le_of_ble_eq_true rfl, Nat.le_of_ble_eq_true rfl⟩) (lS hE hXE hLN hXZ hS hA (law_subE hP) (law_subD hD)) rfl rfl hl.1 rfl (lv_room (Nat.le_of_ble_eq_true rfl)) dL_law_354 ⟨by show _ ≤ 600130; omega, by show _ ≤ 7301079; omega⟩) hP hD hS hA (fun v183 u184 ga186 gb187 H locs h185 hP hD hS => ?_)
    have hP := xa_permP List.perm_append_comm hP
    have hD := xa_permD List.perm_append_comm hD
    obtain ⟨rfl, rfl⟩ := Prod.mk.inj (k182.symm.trans h185)
    refine lv_iload hx hb dL_law_357 (lv_at hl 3 rfl) ?_
    obtain ⟨ce, k188⟩ : ∃ c, fCall (sRc S cl) 16 (nI ((X / 7) % N)) (nI EV) (nI (1 + ((X / 224) % 300))) = (wE S.2.2.1 (nI (X / 7 % N)) (nI (1 + (X / 224 % 300))) EV, sRc S c) := ⟨_, s_every (sRc S cl) (e := EV) (m := 1 + (X / 224 % 300)) hl0 (by omega) (by omega) (by omega) (by omega)⟩
    have hP := xa_permP List.perm_append_comm hP
    have hD := xa_permD List.perm_append_comm hD
    refine xl_callEi (ex := oW y bv gc gd (sRc S c0)) (va_runS (As := [.ref (av 0), .int 16, .int (nI ((X / 7) % N)), .int (nI EV), .int (nI (1 + ((X / 224) % 300)))]) (rest := []) ⟨hx, hb, hml, hown, htl⟩ (c_call l hst D y av ga186 gb187 H.size (sRc S cl) 16 (nI ((X / 7) % N)) (nI EV) (nI (1 + ((X / 224) % 300))) hG.ok) (va_cwS 5 htl gL_law_L_call rfl rfl rfl hd_L_call ⟨Nat.le_of_ble_eq_true rfl, Nat.le_of_ble_eq_true rfl⟩) (lS hE hXE hLN hXZ hS hA (law_subE hP) (law_subD hD)) rfl rfl hl.1 rfl (lv_room (Nat.le_of_ble_eq_true rfl)) dL_law_359 ⟨by show _ ≤ 600130; omega, by show _ ≤ 7301079; omega⟩) hP hD hS hA (fun v189 u190 ga192 gb193 H locs h191 hP hD hS => ?_)
    have hP := xa_permP List.perm_append_comm hP
    have hD := xa_permD List.perm_append_comm hD
    obtain ⟨rfl, rfl⟩ := Prod.mk.inj (k188.symm.trans h191)
    refine lv_istore (lv' := [(17, .int (wE S.2.2.1 (nI (X / 7 % N)) (nI (1 + (X / 224 % 300))) EV)), (16, .int (S.2.2.1 6)), (15, .int (S.2.2.1 5)), (14, .int (nI LF)), (13, .int (nI (1 + ((X / 224) % 300)))), (12, .int (nI ((X / 7) % N))), (11, .int (nI N)), (6, .int 1), (0, .ref b), (1, .ref (av 0)), (2, .ref (bv 0)), (7, .int (nI T)), (8, .int (nI j)), (9, .int (nI X))]) hx hb dL_law_362 hl (by decide) rfl (fun ls hl => ?_)
    refine lv_aload_n hx hb dL_law_364 rfl (lv_at hl 9 rfl) ?_
    refine lv_iconst (v := 2) hx hb dL_law_365 (by decide) ?_
    refine lv_iconst (v := 2) hx hb dL_law_366 (by decide) ?_
    refine lv_iconst (v := 0) hx hb dL_law_367 (by decide) ?_
    refine lv_iconst (v := 0) hx hb dL_law_368 (by decide) ?_
    have k194 : fCall (sRc S ce) 2 2 0 0 = ((S.2.2.1 3), sRc S ce) := s_ab2 (sRc S ce) 0 0
    have hP := xa_permP List.perm_append_comm hP
    have hD := xa_permD List.perm_append_comm hD
    refine xl_callEi (ex := oW y bv gc gd (sRc S c0)) (va_runS (As := [.ref (av 0), .int 2, .int 2, .int 0, .int 0]) (rest := []) ⟨hx, hb, hml, hown, htl⟩ (c_call l hst D y av ga192 gb193 H.size (sRc S ce) 2 2 0 0 hG.ok) (va_cwS 5 htl gL_law_L_call rfl rfl rfl hd_L_call ⟨Nat.le_of_ble_eq_true rfl, Nat.le_of_ble_eq_true rfl⟩) (lS hE hXE hLN hXZ hS hA (law_subE hP) (law_subD hD)) rfl rfl hl.1 rfl (lv_room (Nat.le_of_ble_eq_true rfl)) dL_law_369 ⟨by show _ ≤ 600130; omega, by show _ ≤ 7301079; omega⟩) hP hD hS hA (fun v195 u196 ga198 gb199 H locs h197 hP hD hS => ?_)
    have hP := xa_permP List.perm_append_comm hP
    have hD := xa_permD List.perm_append_comm hD
    obtain ⟨rfl, rfl⟩ := Prod.mk.inj (k194.symm.trans h197)
    refine lv_istore (lv' := [(18, .int (S.2.2.1 3)), (17, .int (wE S.2.2.1 (nI (X / 7 % N)) (nI (1 + (X / 224 % 300))) EV)), (16, .int (S.2.2.1 6)), (15, .int (S.2.2.1 5)), (14, .int (nI LF)), (13, .int (nI (1 + ((X / 224) % 300)))), (12, .int (nI ((X / 7) % N))), (11, .int (nI N)), (6, .int 1), (0, .ref b), (1, .ref (av 0)), (2, .ref (bv 0)), (7, .int (nI T)), (8, .int (nI j)), (9, .int (nI X))]) hx hb dL_law_372 hl (by decide) rfl (fun ls hl => ?_)
    refine lv_aload_n hx hb dL_law_374 rfl (lv_at hl 10 rfl) ?_
    refine lv_iconst (v := 3) hx hb dL_law_375 (by decide) ?_
    refine lv_iload hx hb dL_law_376 (lv_at hl 6 rfl) ?_
    refine lv_iconst (v := 0) hx hb dL_law_378 (by decide) ?_
    refine lv_iconst (v := 0) hx hb dL_law_379 (by decide) ?_
    have k200 : fCall (sRc S ce) 3 (nI ((X / 7) % N)) 0 0 = ((S.2.2.1 (13 + (nI (X / 7 % N)).toNatClampNeg)), sRc S ce) := s_read (sRc S ce) 0 0 hl0
    have hP := xa_permP List.perm_append_comm hP
    have hD := xa_permD List.perm_append_comm hD
    refine xl_callEi (ex := oW y bv gc gd (sRc S c0)) (va_runS (As := [.ref (av 0), .int 3, .int (nI ((X / 7) % N)), .int 0, .int 0]) (rest := []) ⟨hx, hb, hml, hown, htl⟩ (c_call l hst D y av ga198 gb199 H.size (sRc S ce) 3 (nI ((X / 7) % N)) 0 0 hG.ok) (va_cwS 5 htl gL_law_L_call rfl rfl rfl hd_L_call ⟨Nat.le_of_ble_eq_true rfl, Nat.le_of_ble_eq_true rfl⟩) (lS hE hXE hLN hXZ hS hA (law_subE hP) (law_subD hD)) rfl rfl hl.1 rfl (lv_room (Nat.le_of_ble_eq_true rfl)) dL_law_380 ⟨by show _ ≤ 600130; omega, by show _ ≤ 7301079; omega⟩) hP hD hS hA (fun v201 u202 ga204 gb205 H locs h203 hP hD hS => ?_)
    have hP := xa_permP List.perm_append_comm hP
    have hD := xa_permD List.perm_append_comm hD
    obtain ⟨rfl, rfl⟩ := Prod.mk.inj (k200.symm.trans h203)
    refine lv_istore (lv' := [(19, .int (S.2.2.1 (13 + (nI (X / 7 % N)).toNatClampNeg))), (18, .int (S.2.2.1 3)), (17, .int (wE S.2.2.1 (nI (X / 7 % N)) (nI (1 + (X / 224 % 300))) EV)), (16, .int (S.2.2.1 6)), (15, .int (S.2.2.1 5)), (14, .int (nI LF)), (13, .int (nI (1 + ((X / 224) % 300)))), (12, .int (nI ((X / 7) % N))), (11, .int (nI N)), (6, .int 1), (0, .ref b), (1, .ref (av 0)), (2, .ref (bv 0)), (7, .int (nI T)), (8, .int (nI j)), (9, .int (nI X))]) hx hb dL_law_383 hl (by decide) rfl (fun ls hl => ?_)
    refine lv_iload hx hb dL_law_385 (lv_at hl 6 rfl) ?_
    refine lv_iload hx hb dL_law_387 (lv_at hl 5 rfl) ?_
    refine lv_icmp_ge (tgt := 397) hx hb dL_law_389 (by decide) (fun cb206 => ?_) (fun cb206 => absurd (nI_le (a := LF) (b := 1 + ((X / 224) % 300)) (by omega) (by omega)) cb206)
    refine lv_iload hx hb dL_law_397 (lv_at hl 5 rfl) ?_
    refine lv_istore (lv' := [(20, .int (nI LF)), (19, .int (S.2.2.1 (13 + (nI (X / 7 % N)).toNatClampNeg))), (18, .int (S.2.2.1 3)), (17, .int (wE S.2.2.1 (nI (X / 7 % N)) (nI (1 + (X / 224 % 300))) EV)), (16, .int (S.2.2.1 6)), (15, .int (S.2.2.1 5)), (14, .int (nI LF)), (13, .int (nI (1 + ((X / 224) % 300)))), (12, .int (nI ((X / 7) % N))), (11, .int (nI N)), (6, .int 1), (0, .ref b), (1, .ref (av 0)), (2, .ref (bv 0)), (7, .int (nI T)), (8, .int (nI j)), (9, .int (nI X))]) hx hb dL_law_399 hl (by decide) rfl (fun ls hl => ?_)
    refine lv_iload hx hb dL_law_401 (lv_at hl 10 rfl) ?_
    refine lv_if_eq (tgt := 527) hx hb dL_law_403 (by decide) (fun cb207 => absurd cb207 (by decide)) (fun cb207 => ?_)
    refine lv_aload_n hx hb dL_law_406 rfl (lv_at hl 12 rfl) ?_
    refine lv_bipush (v := 10) hx hb dL_law_407 (by decide) ?_
    refine lv_iload hx hb dL_law_409 (lv_at hl 8 rfl) ?_
    refine lv_iload hx hb dL_law_411 (lv_at hl 7 rfl) ?_
    refine lv_iconst (v := 0) hx hb dL_law_413 (by decide) ?_
    have k208 : fCall (sRc S ce) 10 (nI ((X / 7) % N)) (nI (1 + ((X / 224) % 300))) 0 = (nI T9, sAct (sRc S ce) RR) := (s_hammer (sRc S ce) (m := 1 + (X / 224 % 300)) 0 hl0 (by omega) (by omega)).trans (by show (nI (hmF (nI (X / 7 % N)) (1 + (X / 224 % 300)) S.2.2.1).1, sAct (sRc S ce) (hmF (nI (X / 7 % N)) (1 + (X / 224 % 300)) S.2.2.1).2) = _; rw [hRR, hT9])
    have hP := xa_permP List.perm_append_comm hP
    have hD := xa_permD List.perm_append_comm hD
    refine xl_callEi (ex := oW y bv gc gd (sRc S c0)) (va_runS (As := [.ref (av 0), .int 10, .int (nI ((X / 7) % N)), .int (nI (1 + ((X / 224) % 300))), .int 0]) (rest := []) ⟨hx, hb, hml, hown, htl⟩ (c_call l hst D y av ga204 gb205 H.size (sRc S ce) 10 (nI ((X / 7) % N)) (nI (1 + ((X / 224) % 300))) 0 hG.ok) (va_cwS 5 htl gL_law_L_call rfl rfl rfl hd_L_call ⟨Nat.le_of_ble_eq_true rfl, Nat.le_of_ble_eq_true rfl⟩) (lS hE hXE hLN hXZ hS hA (law_subE hP) (law_subD hD)) rfl rfl hl.1 rfl (lv_room (Nat.le_of_ble_eq_true rfl)) dL_law_414 ⟨by show _ ≤ 600130; omega, by show _ ≤ 7301079; omega⟩) hP hD hS hA (fun v209 u210 ga212 gb213 H locs h211 hP hD hS => ?_)
    have hP := xa_permP List.perm_append_comm hP
    have hD := xa_permD List.perm_append_comm hD
    obtain ⟨rfl, rfl⟩ := Prod.mk.inj (k208.symm.trans h211)
    refine lv_iload hx hb dL_law_417 (lv_at hl 0 rfl) ?_
    refine lv_icmp_ne (tgt := 527) hx hb dL_law_419 (by decide) (fun cb214 => absurd (congrArg nI (show T9 = LF by omega)) cb214) (fun cb214 => ?_)
    refine lv_aload_n hx hb dL_law_422 rfl (lv_at hl 13 rfl) ?_
    refine lv_bipush (v := 10) hx hb dL_law_423 (by decide) ?_
    refine lv_iload hx hb dL_law_425 (lv_at hl 8 rfl) ?_
    refine lv_iload hx hb dL_law_427 (lv_at hl 7 rfl) ?_
    refine lv_iconst (v := 0) hx hb dL_law_429 (by decide) ?_
    have k215 : fCall (sRc S c0) 10 (nI ((X / 7) % N)) (nI (1 + ((X / 224) % 300))) 0 = (nI T9, sAct (sRc S c0) RR) := (s_hammer (sRc S c0) (m := 1 + (X / 224 % 300)) 0 hl0 (by omega) (by omega)).trans (by show (nI (hmF (nI (X / 7 % N)) (1 + (X / 224 % 300)) S.2.2.1).1, sAct (sRc S c0) (hmF (nI (X / 7 % N)) (1 + (X / 224 % 300)) S.2.2.1).2) = _; rw [hRR, hT9])
    refine xl_callEi (ex := oW y av ga212 gb213 (sAct (sRc S ce) RR)) (va_runS (As := [.ref (bv 0), .int 10, .int (nI ((X / 7) % N)), .int (nI (1 + ((X / 224) % 300))), .int 0]) (rest := []) ⟨hx, hb, hml, hown, htl⟩ (c_call l hst D y bv gc gd H.size (sRc S c0) 10 (nI ((X / 7) % N)) (nI (1 + ((X / 224) % 300))) 0 hG.ok) (va_cwS 5 htl gL_law_L_call rfl rfl rfl hd_L_call ⟨Nat.le_of_ble_eq_true rfl, Nat.le_of_ble_eq_true rfl⟩) (lS hE hXE hLN hXZ hS hA (law_subE hP) (law_subD hD)) rfl rfl hl.1 rfl (lv_room (Nat.le_of_ble_eq_true rfl)) dL_law_430 ⟨by show _ ≤ 600130; omega, by show _ ≤ 7301079; omega⟩) hP hD hS hA (fun v216 u217 ga219 gb220 H locs h218 hP hD hS => ?_)
    obtain ⟨rfl, rfl⟩ := Prod.mk.inj (k215.symm.trans h218)
    refine lv_iload hx hb dL_law_433 (lv_at hl 0 rfl) ?_
    refine lv_icmp_ne (tgt := 527) hx hb dL_law_435 (by decide) (fun cb221 => absurd (congrArg nI (show T9 = LF by omega)) cb221) (fun cb221 => ?_)
    refine lv_aload_n hx hb dL_law_438 rfl (lv_at hl 12 rfl) ?_
    refine lv_iconst (v := 2) hx hb dL_law_439 (by decide) ?_
    refine lv_iconst (v := 4) hx hb dL_law_440 (by decide) ?_
    refine lv_iconst (v := 0) hx hb dL_law_441 (by decide) ?_
    refine lv_iconst (v := 0) hx hb dL_law_442 (by decide) ?_
    have k222 : fCall (sAct (sRc S ce) RR) 2 4 0 0 = (((S.2.2.1 5) + nI T9), sAct (sRc S ce) RR) := (s_ab4 (sAct (sRc S ce) RR) 0 0).trans (by show (RR 5, _) = _; rw [h5])
    have hP := xa_permP List.perm_append_comm hP
    have hD := xa_permD List.perm_append_comm hD
    refine xl_callEi (ex := oW y bv ga219 gb220 (sAct (sRc S c0) RR)) (va_runS (As := [.ref (av 0), .int 2, .int 4, .int 0, .int 0]) (rest := []) ⟨hx, hb, hml, hown, htl⟩ (c_call l hst D y av ga212 gb213 H.size (sAct (sRc S ce) RR) 2 4 0 0 okA) (va_cwS 5 htl gL_law_L_call rfl rfl rfl hd_L_call ⟨Nat.le_of_ble_eq_true rfl, Nat.le_of_ble_eq_true rfl⟩) (lS hE hXE hLN hXZ hS hA (law_subE hP) (law_subD hD)) rfl rfl hl.1 rfl (lv_room (Nat.le_of_ble_eq_true rfl)) dL_law_443 ⟨by show _ ≤ 600130; omega, by show _ ≤ 7301079; omega⟩) hP hD hS hA (fun v223 u224 ga226 gb227 H locs h225 hP hD hS => ?_)
    have hP := xa_permP List.perm_append_comm hP
    have hD := xa_permD List.perm_append_comm hD
    obtain ⟨rfl, rfl⟩ := Prod.mk.inj (k222.symm.trans h225)
    refine lv_iload hx hb dL_law_446 (lv_at hl 5 rfl) ?_
    refine lv_iload hx hb dL_law_448 (lv_at hl 0 rfl) ?_
    refine lv_iadd hx hb dL_law_450 ?_
    refine lv_icmp_ne (tgt := 527) hx hb dL_law_451 (by decide) (fun cb228 => absurd (by rw [hT9e]) cb228) (fun cb228 => ?_)
    refine lv_aload_n hx hb dL_law_454 rfl (lv_at hl 12 rfl) ?_
    refine lv_iconst (v := 2) hx hb dL_law_455 (by decide) ?_
    refine lv_bipush (v := 6) hx hb dL_law_456 (by decide) ?_
    refine lv_iconst (v := 0) hx hb dL_law_458 (by decide) ?_
    refine lv_iconst (v := 0) hx hb dL_law_459 (by decide) ?_
    have k229 : fCall (sAct (sRc S ce) RR) 2 6 0 0 = (wE S.2.2.1 (nI (X / 7 % N)) (nI (1 + (X / 224 % 300))) EV, sAct (sRc S ce) RR) := (s_ab6g (sAct (sRc S ce) RR) 0 0).trans (by show (f_X3_greatestWear RR, _) = _; rw [hWE])
    have hP := xa_permP List.perm_append_comm hP
    have hD := xa_permD List.perm_append_comm hD
    refine xl_callEi (ex := oW y bv ga219 gb220 (sAct (sRc S c0) RR)) (va_runS (As := [.ref (av 0), .int 2, .int 6, .int 0, .int 0]) (rest := []) ⟨hx, hb, hml, hown, htl⟩ (c_call l hst D y av ga226 gb227 H.size (sAct (sRc S ce) RR) 2 6 0 0 okA) (va_cwS 5 htl gL_law_L_call rfl rfl rfl hd_L_call ⟨Nat.le_of_ble_eq_true rfl, Nat.le_of_ble_eq_true rfl⟩) (lS hE hXE hLN hXZ hS hA (law_subE hP) (law_subD hD)) rfl rfl hl.1 rfl (lv_room (Nat.le_of_ble_eq_true rfl)) dL_law_460 ⟨by show _ ≤ 600130; omega, by show _ ≤ 7301079; omega⟩) hP hD hS hA (fun v230 u231 ga233 gb234 H locs h232 hP hD hS => ?_)
    have hP := xa_permP List.perm_append_comm hP
    have hD := xa_permD List.perm_append_comm hD
    obtain ⟨rfl, rfl⟩ := Prod.mk.inj (k229.symm.trans h232)
    refine lv_iload hx hb dL_law_463 (lv_at hl 3 rfl) ?_
    refine lv_icmp_ne (tgt := 527) hx hb dL_law_465 (by decide) (fun cb235 => absurd rfl cb235) (fun cb235 => ?_)
    refine lv_aload_n hx hb dL_law_468 rfl (lv_at hl 12 rfl) ?_
    refine lv_iconst (v := 3) hx hb dL_law_469 (by decide) ?_
    refine lv_iload hx hb dL_law_470 (lv_at hl 8 rfl) ?_
    refine lv_iconst (v := 0) hx hb dL_law_472 (by decide) ?_
    refine lv_iconst (v := 0) hx hb dL_law_473 (by decide) ?_
    have k236 : fCall (sAct (sRc S ce) RR) 3 (nI ((X / 7) % N)) 0 0 = ((S.2.2.1 (13 + (nI (X / 7 % N)).toNatClampNeg)), sAct (sRc S ce) RR) := (s_read (sAct (sRc S ce) RR) 0 0 hlR).trans (by show (RR (13 + (nI (X / 7 % N)).toNatClampNeg), _) = _; rw [hV])
    have hP := xa_permP List.perm_append_comm hP
    have hD := xa_permD List.perm_append_comm hD
    refine xl_callEi (ex := oW y bv ga219 gb220 (sAct (sRc S c0) RR)) (va_runS (As := [.ref (av 0), .int 3, .int (nI ((X / 7) % N)), .int 0, .int 0]) (rest := []) ⟨hx, hb, hml, hown, htl⟩ (c_call l hst D y av ga233 gb234 H.size (sAct (sRc S ce) RR) 3 (nI ((X / 7) % N)) 0 0 okA) (va_cwS 5 htl gL_law_L_call rfl rfl rfl hd_L_call ⟨Nat.le_of_ble_eq_true rfl, Nat.le_of_ble_eq_true rfl⟩) (lS hE hXE hLN hXZ hS hA (law_subE hP) (law_subD hD)) rfl rfl hl.1 rfl (lv_room (Nat.le_of_ble_eq_true rfl)) dL_law_474 ⟨by show _ ≤ 600130; omega, by show _ ≤ 7301079; omega⟩) hP hD hS hA (fun v237 u238 ga240 gb241 H locs h239 hP hD hS => ?_)
    have hP := xa_permP List.perm_append_comm hP
    have hD := xa_permD List.perm_append_comm hD
    obtain ⟨rfl, rfl⟩ := Prod.mk.inj (k236.symm.trans h239)
    refine lv_iload hx hb dL_law_477 (lv_at hl 1 rfl) ?_
    refine lv_icmp_ne (tgt := 527) hx hb dL_law_479 (by decide) (fun cb242 => absurd rfl cb242) (fun cb242 => ?_)
    refine lv_aload_n hx hb dL_law_482 rfl (lv_at hl 12 rfl) ?_
    refine lv_iconst (v := 2) hx hb dL_law_483 (by decide) ?_
    refine lv_bipush (v := 9) hx hb dL_law_484 (by decide) ?_
    refine lv_iconst (v := 0) hx hb dL_law_486 (by decide) ?_
    refine lv_iconst (v := 0) hx hb dL_law_487 (by decide) ?_
    have k243 : fCall (sAct (sRc S ce) RR) 2 9 0 0 = (1, sAct (sRc S ce) RR) := (s_ab9 (sAct (sRc S ce) RR) 0 0 (Or.inr h8)).trans (by show (RR 8, _) = _; rw [h8])
    have hP := xa_permP List.perm_append_comm hP
    have hD := xa_permD List.perm_append_comm hD
    refine xl_callEi (ex := oW y bv ga219 gb220 (sAct (sRc S c0) RR)) (va_runS (As := [.ref (av 0), .int 2, .int 9, .int 0, .int 0]) (rest := []) ⟨hx, hb, hml, hown, htl⟩ (c_call l hst D y av ga240 gb241 H.size (sAct (sRc S ce) RR) 2 9 0 0 okA) (va_cwS 5 htl gL_law_L_call rfl rfl rfl hd_L_call ⟨Nat.le_of_ble_eq_true rfl, Nat.le_of_ble_eq_true rfl⟩) (lS hE hXE hLN hXZ hS hA (law_subE hP) (law_subD hD)) rfl rfl hl.1 rfl (lv_room (Nat.le_of_ble_eq_true rfl)) dL_law_488 ⟨by show _ ≤ 600130; omega, by show _ ≤ 7301079; omega⟩) hP hD hS hA (fun v244 u245 ga247 gb248 H locs h246 hP hD hS => ?_)
    have hP := xa_permP List.perm_append_comm hP
    have hD := xa_permD List.perm_append_comm hD
    obtain ⟨rfl, rfl⟩ := Prod.mk.inj (k243.symm.trans h246)
    refine lv_iconst (v := 1) hx hb dL_law_491 (by decide) ?_
    refine lv_icmp_ne (tgt := 499) hx hb dL_law_492 (by decide) (fun cb249 => absurd (by decide) cb249) (fun cb249 => ?_)
    refine lv_iconst (v := 1) hx hb dL_law_495 (by decide) ?_
    refine lv_goto (tgt := 500) hx hb dL_law_496 (by decide) ?_
    refine lv_iload hx hb dL_law_500 (lv_at hl 6 rfl) ?_
    refine lv_iload hx hb dL_law_502 (lv_at hl 7 rfl) ?_
    refine lv_icmp_gt (tgt := 519) hx hb dL_law_504 (by decide) (fun cb250 => absurd cb250 (nI_nlt (a := 1 + ((X / 224) % 300)) (b := LF) (by omega) (by omega))) (fun cb250 => ?_)
    refine lv_iload hx hb dL_law_507 (lv_at hl 6 rfl) ?_
    refine lv_sipush (v := 2000) hx hb dL_law_509 (by decide) ?_
    refine lv_icmp_ge (tgt := 519) hx hb dL_law_512 (by decide) (fun cb251 => absurd cb251 (nI_ge (a := LF) (b := 2000) (by omega) (by omega))) (fun cb251 => ?_)
    refine lv_iconst (v := 1) hx hb dL_law_515 (by decide) ?_
    refine lv_goto (tgt := 520) hx hb dL_law_516 (by decide) ?_
    refine lv_icmp_ne (tgt := 527) hx hb dL_law_520 (by decide) (fun cb252 => absurd (by decide) cb252) (fun cb252 => ?_)
    refine lv_iconst (v := 1) hx hb dL_law_523 (by decide) ?_
    refine lv_goto (tgt := 528) hx hb dL_law_524 (by decide) ?_
    refine lv_istore (lv' := [(6, .int 1), (20, .int (nI LF)), (19, .int (S.2.2.1 (13 + (nI (X / 7 % N)).toNatClampNeg))), (18, .int (S.2.2.1 3)), (17, .int (wE S.2.2.1 (nI (X / 7 % N)) (nI (1 + (X / 224 % 300))) EV)), (16, .int (S.2.2.1 6)), (15, .int (S.2.2.1 5)), (14, .int (nI LF)), (13, .int (nI (1 + ((X / 224) % 300)))), (12, .int (nI ((X / 7) % N))), (11, .int (nI N)), (0, .ref b), (1, .ref (av 0)), (2, .ref (bv 0)), (7, .int (nI T)), (8, .int (nI j)), (9, .int (nI X))]) hx hb dL_law_528 hl (by decide) rfl (fun ls hl => ?_)
    refine lv_aload_n hx hb dL_law_530 rfl (lv_at hl 12 rfl) ?_
    refine lv_iconst (v := 2) hx hb dL_law_531 (by decide) ?_
    refine lv_iconst (v := 5) hx hb dL_law_532 (by decide) ?_
    refine lv_iconst (v := 0) hx hb dL_law_533 (by decide) ?_
    refine lv_iconst (v := 0) hx hb dL_law_534 (by decide) ?_
    have k253 : fCall (sAct (sRc S ce) RR) 2 5 0 0 = ((RR 6), sAct (sRc S ce) RR) := s_ab5 (sAct (sRc S ce) RR) 0 0
    have hP := xa_permP List.perm_append_comm hP
    have hD := xa_permD List.perm_append_comm hD
    refine xl_callEi (ex := oW y bv ga219 gb220 (sAct (sRc S c0) RR)) (va_runS (As := [.ref (av 0), .int 2, .int 5, .int 0, .int 0]) (rest := []) ⟨hx, hb, hml, hown, htl⟩ (c_call l hst D y av ga247 gb248 H.size (sAct (sRc S ce) RR) 2 5 0 0 okA) (va_cwS 5 htl gL_law_L_call rfl rfl rfl hd_L_call ⟨Nat.le_of_ble_eq_true rfl, Nat.le_of_ble_eq_true rfl⟩) (lS hE hXE hLN hXZ hS hA (law_subE hP) (law_subD hD)) rfl rfl hl.1 rfl (lv_room (Nat.le_of_ble_eq_true rfl)) dL_law_535 ⟨by show _ ≤ 600130; omega, by show _ ≤ 7301079; omega⟩) hP hD hS hA (fun v254 u255 ga257 gb258 H locs h256 hP hD hS => ?_)
    have hP := xa_permP List.perm_append_comm hP
    have hD := xa_permD List.perm_append_comm hD
    obtain ⟨rfl, rfl⟩ := Prod.mk.inj (k253.symm.trans h256)
    refine lv_iload hx hb dL_law_538 (lv_at hl 5 rfl) ?_
    refine lv_isub hx hb dL_law_540 ?_
    refine lv_topi (fun z259 ez259 => ?_)
    obtain rfl : z259 = nI J := ez259.trans (hJ)
    refine lv_istore (lv' := [(21, .int (nI J)), (6, .int 1), (20, .int (nI LF)), (19, .int (S.2.2.1 (13 + (nI (X / 7 % N)).toNatClampNeg))), (18, .int (S.2.2.1 3)), (17, .int (wE S.2.2.1 (nI (X / 7 % N)) (nI (1 + (X / 224 % 300))) EV)), (16, .int (S.2.2.1 6)), (15, .int (S.2.2.1 5)), (14, .int (nI LF)), (13, .int (nI (1 + ((X / 224) % 300)))), (12, .int (nI ((X / 7) % N))), (11, .int (nI N)), (0, .ref b), (1, .ref (av 0)), (2, .ref (bv 0)), (7, .int (nI T)), (8, .int (nI j)), (9, .int (nI X))]) hx hb dL_law_541 hl (by decide) rfl (fun ls hl => ?_)
    refine lv_aload_n hx hb dL_law_543 rfl (lv_at hl 13 rfl) ?_
    refine lv_iconst (v := 4) hx hb dL_law_544 (by decide) ?_
    refine lv_iload hx hb dL_law_545 (lv_at hl 10 rfl) ?_
    refine lv_iconst (v := 0) hx hb dL_law_547 (by decide) ?_
    refine lv_iconst (v := 0) hx hb dL_law_548 (by decide) ?_
    have k260 : fCall (sAct (sRc S ce) RR) 4 (nI ((X / 7) % N)) 0 0 = (f_X3_placeAfterMoves S.2.2.1 (nI (X / 7 % N)) (nI J), sAct (sRc S ce) RR) := (s_place0 (sAct (sRc S ce) RR) 0 0 hlR).trans (by show (f_X3_placeOf RR (nI (X / 7 % N)), _) = _; rw [hPL])
    have hP := xa_permP List.perm_append_comm hP
    have hD := xa_permD List.perm_append_comm hD
    refine xl_callEi (ex := oW y bv ga219 gb220 (sAct (sRc S c0) RR)) (va_runS (As := [.ref (av 0), .int 4, .int (nI ((X / 7) % N)), .int 0, .int 0]) (rest := []) ⟨hx, hb, hml, hown, htl⟩ (c_call l hst D y av ga257 gb258 H.size (sAct (sRc S ce) RR) 4 (nI ((X / 7) % N)) 0 0 okA) (va_cwS 5 htl gL_law_L_call rfl rfl rfl hd_L_call ⟨Nat.le_of_ble_eq_true rfl, Nat.le_of_ble_eq_true rfl⟩) (lS hE hXE hLN hXZ hS hA (law_subE hP) (law_subD hD)) rfl rfl hl.1 rfl (lv_room (Nat.le_of_ble_eq_true rfl)) dL_law_549 ⟨by show _ ≤ 600130; omega, by show _ ≤ 7301079; omega⟩) hP hD hS hA (fun v261 u262 ga264 gb265 H locs h263 hP hD hS => ?_)
    have hP := xa_permP List.perm_append_comm hP
    have hD := xa_permD List.perm_append_comm hD
    obtain ⟨rfl, rfl⟩ := Prod.mk.inj (k260.symm.trans h263)
    refine lv_istore (lv' := [(22, .int (f_X3_placeAfterMoves S.2.2.1 (nI (X / 7 % N)) (nI J))), (21, .int (nI J)), (6, .int 1), (20, .int (nI LF)), (19, .int (S.2.2.1 (13 + (nI (X / 7 % N)).toNatClampNeg))), (18, .int (S.2.2.1 3)), (17, .int (wE S.2.2.1 (nI (X / 7 % N)) (nI (1 + (X / 224 % 300))) EV)), (16, .int (S.2.2.1 6)), (15, .int (S.2.2.1 5)), (14, .int (nI LF)), (13, .int (nI (1 + ((X / 224) % 300)))), (12, .int (nI ((X / 7) % N))), (11, .int (nI N)), (0, .ref b), (1, .ref (av 0)), (2, .ref (bv 0)), (7, .int (nI T)), (8, .int (nI j)), (9, .int (nI X))]) hx hb dL_law_552 hl (by decide) rfl (fun ls hl => ?_)
    refine lv_iload hx hb dL_law_554 (lv_at hl 2 rfl) ?_
    refine lv_if_eq (tgt := 635) hx hb dL_law_556 (by decide) (fun cb266 => absurd cb266 (by decide)) (fun cb266 => ?_)
    refine lv_aload_n hx hb dL_law_559 rfl (lv_at hl 14 rfl) ?_
    refine lv_bipush (v := 13) hx hb dL_law_560 (by decide) ?_
    refine lv_iconst (v := 0) hx hb dL_law_562 (by decide) ?_
    refine lv_iconst (v := 0) hx hb dL_law_563 (by decide) ?_
    refine lv_iconst (v := 0) hx hb dL_law_564 (by decide) ?_
    have k267 : fCall (sAct (sRc S ce) RR) 13 0 0 0 = ((f_X0_remember S.2.2.1 S.2.2.2.2.1 S.2.2.2.2.2.1 S.2.2.2.2.2.2.1).2.1 - 1, sUn (sRc S ce)) := s_undo (sRc S ce) 0 0 0 hG
    have hP := xa_permP List.perm_append_comm hP
    have hD := xa_permD List.perm_append_comm hD
    refine xl_callEi (ex := oW y bv ga219 gb220 (sAct (sRc S c0) RR)) (va_runS (As := [.ref (av 0), .int 13, .int 0, .int 0, .int 0]) (rest := []) ⟨hx, hb, hml, hown, htl⟩ (c_call l hst D y av ga264 gb265 H.size (sAct (sRc S ce) RR) 13 0 0 0 okA) (va_cwS 5 htl gL_law_L_call rfl rfl rfl hd_L_call ⟨Nat.le_of_ble_eq_true rfl, Nat.le_of_ble_eq_true rfl⟩) (lS hE hXE hLN hXZ hS hA (law_subE hP) (law_subD hD)) rfl rfl hl.1 rfl (lv_room (Nat.le_of_ble_eq_true rfl)) dL_law_565 ⟨by show _ ≤ 600130; omega, by show _ ≤ 7301079; omega⟩) hP hD hS hA (fun v268 u269 ga271 gb272 H locs h270 hP hD hS => ?_)
    have hP := xa_permP List.perm_append_comm hP
    have hD := xa_permD List.perm_append_comm hD
    obtain ⟨rfl, rfl⟩ := Prod.mk.inj (k267.symm.trans h270)
    refine xs_calli (va_runS (As := [.int ((f_X0_remember S.2.2.1 S.2.2.2.2.1 S.2.2.2.2.2.1 S.2.2.2.2.2.2.1).2.1 - 1)]) (rest := []) ⟨hx, hb, hml, hown, htl⟩ (c_L_thrown l D y H.size ((f_X0_remember S.2.2.1 S.2.2.2.2.1 S.2.2.2.2.2.1 S.2.2.2.2.2.2.1).2.1 - 1)) (va_cwS 1 htl gL_law_L_thrown rfl rfl rfl hd_L_thrown ⟨Nat.le_of_ble_eq_true rfl, Nat.le_of_ble_eq_true rfl⟩) (gS hE (hP.sub [] rfl) (hD.sub [] (by decide) rfl)) rfl rfl hl.1 rfl (lv_room (Nat.le_of_ble_eq_true rfl)) dL_law_568 ⟨by show _ ≤ 600130; omega, by show _ ≤ 7301079; omega⟩) (fun v273 h274 => ?_)
    obtain rfl : 0 = v273 := (s_unv hG).symm.trans h274
    refine lv_if_ne (tgt := 635) hx hb dL_law_571 (by decide) (fun cb275 => absurd (by decide) cb275) (fun cb275 => ?_)
    refine lv_aload_n hx hb dL_law_574 rfl (lv_at hl 15 rfl) ?_
    refine lv_bipush (v := 13) hx hb dL_law_575 (by decide) ?_
    refine lv_iconst (v := 0) hx hb dL_law_577 (by decide) ?_
    refine lv_iconst (v := 0) hx hb dL_law_578 (by decide) ?_
    refine lv_iconst (v := 0) hx hb dL_law_579 (by decide) ?_
    have k276 : fCall (sAct (sRc S c0) RR) 13 0 0 0 = ((f_X0_remember S.2.2.1 S.2.2.2.2.1 S.2.2.2.2.2.1 S.2.2.2.2.2.2.1).2.1 - 1, sUn (sRc S c0)) := s_undo (sRc S c0) 0 0 0 hG
    refine xl_callEi (ex := oW y av ga271 gb272 (sUn (sRc S ce))) (va_runS (As := [.ref (bv 0), .int 13, .int 0, .int 0, .int 0]) (rest := []) ⟨hx, hb, hml, hown, htl⟩ (c_call l hst D y bv ga219 gb220 H.size (sAct (sRc S c0) RR) 13 0 0 0 okB) (va_cwS 5 htl gL_law_L_call rfl rfl rfl hd_L_call ⟨Nat.le_of_ble_eq_true rfl, Nat.le_of_ble_eq_true rfl⟩) (lS hE hXE hLN hXZ hS hA (law_subE hP) (law_subD hD)) rfl rfl hl.1 rfl (lv_room (Nat.le_of_ble_eq_true rfl)) dL_law_580 ⟨by show _ ≤ 600130; omega, by show _ ≤ 7301079; omega⟩) hP hD hS hA (fun v277 u278 ga280 gb281 H locs h279 hP hD hS => ?_)
    obtain ⟨rfl, rfl⟩ := Prod.mk.inj (k276.symm.trans h279)
    refine xs_calli (va_runS (As := [.int ((f_X0_remember S.2.2.1 S.2.2.2.2.1 S.2.2.2.2.2.1 S.2.2.2.2.2.2.1).2.1 - 1)]) (rest := []) ⟨hx, hb, hml, hown, htl⟩ (c_L_thrown l D y H.size ((f_X0_remember S.2.2.1 S.2.2.2.2.1 S.2.2.2.2.2.1 S.2.2.2.2.2.2.1).2.1 - 1)) (va_cwS 1 htl gL_law_L_thrown rfl rfl rfl hd_L_thrown ⟨Nat.le_of_ble_eq_true rfl, Nat.le_of_ble_eq_true rfl⟩) (gS hE (hP.sub [] rfl) (hD.sub [] (by decide) rfl)) rfl rfl hl.1 rfl (lv_room (Nat.le_of_ble_eq_true rfl)) dL_law_583 ⟨by show _ ≤ 600130; omega, by show _ ≤ 7301079; omega⟩) (fun v282 h283 => ?_)
    obtain rfl : 0 = v282 := (s_unv hG).symm.trans h283
    refine lv_if_ne (tgt := 635) hx hb dL_law_586 (by decide) (fun cb284 => absurd (by decide) cb284) (fun cb284 => ?_)
    refine lv_aload_n hx hb dL_law_589 rfl (lv_at hl 14 rfl) ?_
    refine lv_bipush (v := 19) hx hb dL_law_590 (by decide) ?_
    refine lv_iload hx hb dL_law_592 (lv_at hl 11 rfl) ?_
    refine lv_iload hx hb dL_law_594 (lv_at hl 1 rfl) ?_
    refine lv_iconst (v := 0) hx hb dL_law_596 (by decide) ?_
    have k285 : fCall (sUn (sRc S ce)) 19 (nI ((X / 7) % N)) (nI J) 0 = (f_X3_placeAfterMoves S.2.2.1 (nI (X / 7 % N)) (nI J), sUn (sRc S ce)) := s_behind0 (sUn (sRc S ce)) (m := J) 0 hl0 (by omega)
    have hP := xa_permP List.perm_append_comm hP
    have hD := xa_permD List.perm_append_comm hD
    refine xl_callEi (ex := oW y bv ga280 gb281 (sUn (sRc S c0))) (va_runS (As := [.ref (av 0), .int 19, .int (nI ((X / 7) % N)), .int (nI J), .int 0]) (rest := []) ⟨hx, hb, hml, hown, htl⟩ (c_call l hst D y av ga271 gb272 H.size (sUn (sRc S ce)) 19 (nI ((X / 7) % N)) (nI J) 0 hG.un.ok) (va_cwS 5 htl gL_law_L_call rfl rfl rfl hd_L_call ⟨Nat.le_of_ble_eq_true rfl, Nat.le_of_ble_eq_true rfl⟩) (lS hE hXE hLN hXZ hS hA (law_subE hP) (law_subD hD)) rfl rfl hl.1 rfl (lv_room (Nat.le_of_ble_eq_true rfl)) dL_law_597 ⟨by show _ ≤ 600130; omega, by show _ ≤ 7301079; omega⟩) hP hD hS hA (fun v286 u287 ga289 gb290 H locs h288 hP hD hS => ?_)
    have hP := xa_permP List.perm_append_comm hP
    have hD := xa_permD List.perm_append_comm hD
    obtain ⟨rfl, rfl⟩ := Prod.mk.inj (k285.symm.trans h288)
    refine lv_iload hx hb dL_law_600 (lv_at hl 0 rfl) ?_
    refine lv_icmp_ne (tgt := 635) hx hb dL_law_602 (by decide) (fun cb291 => absurd rfl cb291) (fun cb291 => ?_)
    refine lv_aload_n hx hb dL_law_605 rfl (lv_at hl 14 rfl) ?_
    refine lv_iconst (v := 2) hx hb dL_law_606 (by decide) ?_
    refine lv_iconst (v := 4) hx hb dL_law_607 (by decide) ?_
    refine lv_iconst (v := 0) hx hb dL_law_608 (by decide) ?_
    refine lv_iconst (v := 0) hx hb dL_law_609 (by decide) ?_
    have k292 : fCall (sUn (sRc S ce)) 2 4 0 0 = ((S.2.2.1 5), sUn (sRc S ce)) := s_ab4 (sUn (sRc S ce)) 0 0
    have hP := xa_permP List.perm_append_comm hP
    have hD := xa_permD List.perm_append_comm hD
    refine xl_callEi (ex := oW y bv ga280 gb281 (sUn (sRc S c0))) (va_runS (As := [.ref (av 0), .int 2, .int 4, .int 0, .int 0]) (rest := []) ⟨hx, hb, hml, hown, htl⟩ (c_call l hst D y av ga289 gb290 H.size (sUn (sRc S ce)) 2 4 0 0 hG.un.ok) (va_cwS 5 htl gL_law_L_call rfl rfl rfl hd_L_call ⟨Nat.le_of_ble_eq_true rfl, Nat.le_of_ble_eq_true rfl⟩) (lS hE hXE hLN hXZ hS hA (law_subE hP) (law_subD hD)) rfl rfl hl.1 rfl (lv_room (Nat.le_of_ble_eq_true rfl)) dL_law_610 ⟨by show _ ≤ 600130; omega, by show _ ≤ 7301079; omega⟩) hP hD hS hA (fun v293 u294 ga296 gb297 H locs h295 hP hD hS => ?_)
    have hP := xa_permP List.perm_append_comm hP
    have hD := xa_permD List.perm_append_comm hD
    obtain ⟨rfl, rfl⟩ := Prod.mk.inj (k292.symm.trans h295)
    refine lv_iload hx hb dL_law_613 (lv_at hl 8 rfl) ?_
    refine lv_icmp_ne (tgt := 635) hx hb dL_law_615 (by decide) (fun cb298 => absurd rfl cb298) (fun cb298 => ?_)
    refine lv_aload_n hx hb dL_law_618 rfl (lv_at hl 14 rfl) ?_
    refine lv_iconst (v := 2) hx hb dL_law_619 (by decide) ?_
    refine lv_iconst (v := 2) hx hb dL_law_620 (by decide) ?_
    refine lv_iconst (v := 0) hx hb dL_law_621 (by decide) ?_
    refine lv_iconst (v := 0) hx hb dL_law_622 (by decide) ?_
    have k299 : fCall (sUn (sRc S ce)) 2 2 0 0 = ((S.2.2.1 3), sUn (sRc S ce)) := s_ab2 (sUn (sRc S ce)) 0 0
    have hP := xa_permP List.perm_append_comm hP
    have hD := xa_permD List.perm_append_comm hD
    refine xl_callEi (ex := oW y bv ga280 gb281 (sUn (sRc S c0))) (va_runS (As := [.ref (av 0), .int 2, .int 2, .int 0, .int 0]) (rest := []) ⟨hx, hb, hml, hown, htl⟩ (c_call l hst D y av ga296 gb297 H.size (sUn (sRc S ce)) 2 2 0 0 hG.un.ok) (va_cwS 5 htl gL_law_L_call rfl rfl rfl hd_L_call ⟨Nat.le_of_ble_eq_true rfl, Nat.le_of_ble_eq_true rfl⟩) (lS hE hXE hLN hXZ hS hA (law_subE hP) (law_subD hD)) rfl rfl hl.1 rfl (lv_room (Nat.le_of_ble_eq_true rfl)) dL_law_623 ⟨by show _ ≤ 600130; omega, by show _ ≤ 7301079; omega⟩) hP hD hS hA (fun v300 u301 ga303 gb304 H locs h302 hP hD hS => ?_)
    have hP := xa_permP List.perm_append_comm hP
    have hD := xa_permD List.perm_append_comm hD
    obtain ⟨rfl, rfl⟩ := Prod.mk.inj (k299.symm.trans h302)
    refine lv_iload hx hb dL_law_626 (lv_at hl 5 rfl) ?_
    refine lv_icmp_ne (tgt := 635) hx hb dL_law_628 (by decide) (fun cb305 => absurd rfl cb305) (fun cb305 => ?_)
    refine lv_iconst (v := 1) hx hb dL_law_631 (by decide) ?_
    refine lv_goto (tgt := 636) hx hb dL_law_632 (by decide) ?_
    refine lv_istore (lv' := [(6, .int 1), (22, .int (f_X3_placeAfterMoves S.2.2.1 (nI (X / 7 % N)) (nI J))), (21, .int (nI J)), (20, .int (nI LF)), (19, .int (S.2.2.1 (13 + (nI (X / 7 % N)).toNatClampNeg))), (18, .int (S.2.2.1 3)), (17, .int (wE S.2.2.1 (nI (X / 7 % N)) (nI (1 + (X / 224 % 300))) EV)), (16, .int (S.2.2.1 6)), (15, .int (S.2.2.1 5)), (14, .int (nI LF)), (13, .int (nI (1 + ((X / 224) % 300)))), (12, .int (nI ((X / 7) % N))), (11, .int (nI N)), (0, .ref b), (1, .ref (av 0)), (2, .ref (bv 0)), (7, .int (nI T)), (8, .int (nI j)), (9, .int (nI X))]) hx hb dL_law_636 hl (by decide) rfl (fun ls hl => ?_)
    refine lv_iinc (v := nI (j + 1)) (lv' := [(8, .int (nI (j + 1))), (6, .int 1), (22, .int (f_X3_placeAfterMoves S.2.2.1 (nI (X / 7 % N)) (nI J))), (21, .int (nI J)), (20, .int (nI LF)), (19, .int (S.2.2.1 (13 + (nI (X / 7 % N)).toNatClampNeg))), (18, .int (S.2.2.1 3)), (17, .int (wE S.2.2.1 (nI (X / 7 % N)) (nI (1 + (X / 224 % 300))) EV)), (16, .int (S.2.2.1 6)), (15, .int (S.2.2.1 5)), (14, .int (nI LF)), (13, .int (nI (1 + ((X / 224) % 300)))), (12, .int (nI ((X / 7) % N))), (11, .int (nI N)), (0, .ref b), (1, .ref (av 0)), (2, .ref (bv 0)), (7, .int (nI T)), (9, .int (nI X))]) hx hb dL_law_638 hl (k := 17) rfl (nI_add j 1) (by decide) rfl (fun ls hl => ?_)
    refine lv_goto (tgt := 158) hx hb dL_law_641 (by decide) ?_
    refine W.widen (k := cells + 200) (n := slots + 3000) (by omega) (by omega) ?_
    exact kk (sUn (sRc S ce)) c0 ga303 gb304 ga280 gb281 H locs ls hG.un hP hD hS (lv_sub hl [14, 15, 16, 1, 17, 0] rfl)
