/-! THE LAW'S LOOP -/
section LAW
variable {p : Program} {l : Launch} {e : Env} {s : State} {m : MethodId} {below : List Frame} {meth : Method} {c : Code} {b L : Nat} {xs : Nat → Int32} {D : va_G} {y : Nat → ClassId}
set_option maxHeartbeats 4000000 in
set_option maxRecDepth 100000 in
theorem law_loop (C0 : lawC p s m meth c b L xs D y) (hst : l.stackTraces = false) (hL : L ≤ 2048) {av bv : Nat → Nat} : ∀ (k j : Nat), L - 4 * j < k → j ≤ 512 → ∀ (H : Heap) (locs : List Loc) (ls : Array Slot), lawS D y av bv (fun q : Nat => s.heap.size ≤ q) H → va_S (fun q : Nat => s.heap.size ≤ q) s.heap H locs → lv_has ls 7 [(0, .ref b), (1, .ref (av 1)), (2, .ref (bv 0)), (3, .ref (av 0)), (4, .int (nI (4 * j)))] → W p l e room_1 s m #[Value.ref b] below meth c H locs (30 + 5 * j) (1900 + 92 * j) (lw_Z below #[Value.ref b] s) (F0 m 23 ls []) := by
  intro k
  induction k with
  | zero => intro j h; exact absurd h (by omega)
  | succ k ih =>
  intro j hj hj2 H locs ls hLS hS hl
  obtain ⟨⟨hx, hb, hr, hml, hown, hts, hX, hbl, hlocks, hgv⟩, hE, hXE, hLN, hXZ⟩ := id C0
  have hbA : ¬ (fun q : Nat => s.heap.size ≤ q) b := Nat.not_le.mpr hbl
  refine lv_iload hx hb dL_law_23 (lv_at hl 4 rfl) ?_
  refine lv_aload_n hx hb dL_law_25 rfl (lv_at hl 0 rfl) ?_
  refine va_slen hx hb hX hbl hbA hS dL_law_26 ?_
  refine lv_iconst (v := 4) hx hb dL_law_27 (by decide) ?_
  refine lv_isub hx hb dL_law_28 ?_
  have hd4 : (nI L - nI 4).toInt = (L : Int) - 4 := pk_sub_toInt (by omega) (by omega)
  have hd4 : (Int32.ofNat L - 4).toInt = (L : Int) - 4 := hd4
  have hj4 : (nI (4 * j)).toInt = ((4 * j : Nat) : Int) := nI_toInt (by omega)
  refine lv_icmp_gt (tgt := 1692) hx hb dL_law_29 (by decide) (fun c1 => ?_) (fun c1 => ?_)
  · refine lv_iconst (v := 1) hx hb dL_law_1692 (by decide) ?_
    refine va_forget (fun q hq => hS.2.2 q hq) ?_
    refine W.widen (k := 601024) (n := 7293034) (by omega) (by omega) ?_
    exact lw_ret hx hb hr hlocks dL_law_1693
  have hlt : 4 * j + 3 < L := by
    have c2 : nI (4 * j) ≤ Int32.ofNat L - 4 := Int32.not_lt.mp c1
    have c3 := i_le.mp c2
    rw [hd4, hj4] at c3
    omega
  refine lv_aload_n hx hb dL_law_32 rfl (lv_at hl 0 rfl) ?_
  refine lv_iload hx hb dL_law_33 (lv_at hl 4 rfl) ?_
  refine va_sld hx hb hX hbl hbA hS (vp_in_nI (show 4 * j < L by omega) (by omega)) dL_law_35 ?_
  refine lv_bipush (v := 31) hx hb dL_law_36 (by decide) ?_
  refine lv_iand hx hb dL_law_38 ?_
  refine lv_topi (fun z ez => ?_)
  obtain ⟨t, ht, et⟩ := pk_andE (xs (nI (4 * j)).toNatClampNeg) (m := 31) 5 (by decide)
  have ez : z = nI t := ez.trans et
  subst ez
  have hk : 30 + 5 * j + 5 ≤ 601024 ∧ 1900 + 92 * j + 92 ≤ 7293034 := by omega
  have e5 : 30 + 5 * j + 5 = 30 + 5 * (j + 1) := by omega
  have e92 : 1900 + 92 * j + 92 = 1900 + 92 * (j + 1) := by omega
  have kk : lawK p l e s m below meth c b (4 * j) D y av bv (30 + 5 * j) (1900 + 92 * j) (lw_Z below #[Value.ref b] s) := by
    intro H1 locs1 ls1 h1 h2 h3
    rw [e5, e92]
    refine lv_iinc (v := nI (4 * (j + 1))) (lv' := [(4, .int (nI (4 * (j + 1)))), (0, .ref b), (1, .ref (av 1)), (2, .ref (bv 0)), (3, .ref (av 0))]) hx hb dL_law_1686 h3 (k := 4) rfl (nI_add (4 * j) 4) (by decide) rfl (fun ls hl => ?_)
    refine lv_goto (tgt := 23) hx hb dL_law_1689 (by decide) ?_
    exact ih (j + 1) (by omega) (by omega) H1 locs1 ls h1 h2 (lv_sub hl [1, 2, 3, 4, 0] rfl)
  have ht' : t = 0 ∨ t = 1 ∨ t = 2 ∨ t = 3 ∨ t = 4 ∨ t = 5 ∨ t = 6 ∨ t = 7 ∨ t = 8 ∨ t = 9 ∨ t = 10 ∨ t = 11 ∨ t = 12 ∨ t = 13 ∨ t = 14 ∨ t = 15 ∨ t = 16 ∨ t = 17 ∨ t = 18 ∨ t = 19 ∨ t = 20 ∨ t = 21 ∨ t = 22 ∨ t = 23 ∨ t = 24 ∨ t = 25 ∨ (26 ≤ t ∧ t < 32) := by omega
  rcases ht' with rfl | rfl | rfl | rfl | rfl | rfl | rfl | rfl | rfl | rfl | rfl | rfl | rfl | rfl | rfl | rfl | rfl | rfl | rfl | rfl | rfl | rfl | rfl | rfl | rfl | rfl | ⟨t1, t2⟩
  · exact lv_tableIn (off := 117) (tgt := 156) hx hb dL_law_39 (by decide) (by decide) rfl (by decide) (case_append C0 hst hlt hL hLS hS hl hk kk)
  · exact lv_tableIn (off := 173) (tgt := 212) hx hb dL_law_39 (by decide) (by decide) rfl (by decide) (case_clearText C0 hst hlt hL hLS hS hl hk kk)
  · exact lv_tableIn (off := 186) (tgt := 225) hx hb dL_law_39 (by decide) (by decide) rfl (by decide) (case_errorPosition C0 hst hlt hL hLS hS hl hk kk)
  · exact lv_tableIn (off := 199) (tgt := 238) hx hb dL_law_39 (by decide) (by decide) rfl (by decide) (case_load C0 hst hlt hL hLS hS hl hk kk)
  · exact lv_tableIn (off := 243) (tgt := 282) hx hb dL_law_39 (by decide) (by decide) rfl (by decide) (case_about C0 hst hlt hL hLS hS hl hk kk)
  · exact lv_tableIn (off := 299) (tgt := 338) hx hb dL_law_39 (by decide) (by decide) rfl (by decide) (case_read C0 hst hlt hL hLS hS hl hk kk)
  · exact lv_tableIn (off := 355) (tgt := 394) hx hb dL_law_39 (by decide) (by decide) rfl (by decide) (case_place C0 hst hlt hL hLS hS hl hk kk)
  · exact lv_tableIn (off := 411) (tgt := 450) hx hb dL_law_39 (by decide) (by decide) rfl (by decide) (case_line C0 hst hlt hL hLS hS hl hk kk)
  · exact lv_tableIn (off := 467) (tgt := 506) hx hb dL_law_39 (by decide) (by decide) rfl (by decide) (case_wear C0 hst hlt hL hLS hS hl hk kk)
  · exact lv_tableIn (off := 523) (tgt := 562) hx hb dL_law_39 (by decide) (by decide) rfl (by decide) (case_setting C0 hst hlt hL hLS hS hl hk kk)
  · exact lv_tableIn (off := 579) (tgt := 618) hx hb dL_law_39 (by decide) (by decide) rfl (by decide) (case_make C0 hst hlt hL hLS hS hl hk kk)
  · exact lv_tableIn (off := 659) (tgt := 698) hx hb dL_law_39 (by decide) (by decide) rfl (by decide) (case_write C0 hst hlt hL hLS hS hl hk kk)
  · exact lv_tableIn (off := 727) (tgt := 766) hx hb dL_law_39 (by decide) (by decide) rfl (by decide) (case_hammer C0 hst hlt hL hLS hS hl hk kk)
  · exact lv_tableIn (off := 795) (tgt := 834) hx hb dL_law_39 (by decide) (by decide) rfl (by decide) (case_all C0 hst hlt hL hLS hS hl hk kk)
  · exact lv_tableIn (off := 851) (tgt := 890) hx hb dL_law_39 (by decide) (by decide) rfl (by decide) (case_set C0 hst hlt hL hLS hS hl hk kk)
  · exact lv_tableIn (off := 919) (tgt := 958) hx hb dL_law_39 (by decide) (by decide) rfl (by decide) (case_undo C0 hst hlt hL hLS hS hl hk kk)
  · exact lv_tableIn (off := 963) (tgt := 1002) hx hb dL_law_39 (by decide) (by decide) rfl (by decide) (case_life C0 hst hlt hL hLS hS hl hk kk)
  · exact lv_tableIn (off := 1019) (tgt := 1058) hx hb dL_law_39 (by decide) (by decide) rfl (by decide) (case_lifeOfAll C0 hst hlt hL hLS hS hl hk kk)
  · exact lv_tableIn (off := 1063) (tgt := 1102) hx hb dL_law_39 (by decide) (by decide) rfl (by decide) (case_ifEvery C0 hst hlt hL hLS hS hl hk kk)
  · exact lv_tableIn (off := 1143) (tgt := 1182) hx hb dL_law_39 (by decide) (by decide) rfl (by decide) (case_bestEvery C0 hst hlt hL hLS hS hl hk kk)
  · exact lv_tableIn (off := 1211) (tgt := 1250) hx hb dL_law_39 (by decide) (by decide) rfl (by decide) (case_movesTo C0 hst hlt hL hLS hS hl hk kk)
  · exact lv_tableIn (off := 1267) (tgt := 1306) hx hb dL_law_39 (by decide) (by decide) rfl (by decide) (case_placeBehind C0 hst hlt hL hLS hS hl hk kk)
  · exact lv_tableIn (off := 1335) (tgt := 1374) hx hb dL_law_39 (by decide) (by decide) rfl (by decide) (case_runScript C0 hst hlt hL hLS hS hl hk kk)
  · exact lv_tableIn (off := 1435) (tgt := 1474) hx hb dL_law_39 (by decide) (by decide) rfl (by decide) (case_simulate C0 hst hlt hL hLS hS hl hk kk)
  · exact lv_tableIn (off := 1535) (tgt := 1574) hx hb dL_law_39 (by decide) (by decide) rfl (by decide) (case_save C0 hst hlt hL hLS hS hl hk kk)
  · exact lv_tableIn (off := 1591) (tgt := 1630) hx hb dL_law_39 (by decide) (by decide) rfl (by decide) (case_restore C0 hst hlt hL hLS hS hl hk kk)
  · refine lv_tableOut (tgt := 1686) hx hb dL_law_39 (Or.inr (by rw [nI_toInt (by omega)]; omega)) (by decide) ?_
    refine W.widen (k := 30 + 5 * j + 5) (n := 1900 + 92 * j + 92) (by omega) (by omega) ?_
    exact kk H locs ls hLS hS hl
end LAW
theorem gTail0 {y : Nat → ClassId} {ga gb : Nat → Nat × Nat × Nat} : gTail y ga gb (fun _ => none) (fun _ => none) = [] := rfl
theorem rel_0 : Rel 0 (fun _ => 0) iniR 0 0 (fun _ => none) (fun _ => none) (fun _ => 0) (0, 0, 0, 0, 0, (fun _ => 0), f_X6_clear (fun _ => 0), (fun _ => 0), (fun _ => 0), (fun _ => 0), (fun _ => 0)) := by
  have hA : InvA iniR := m_fresh_A
  have hc : f_X6_clear (fun _ => 0) = iniR := m_clear (fun _ _ => rfl)
  have hQ : okQ (fun _ => none) := fun i s h => nomatch h
  rw [hc]
  exact ⟨⟨rfl, rfl, ⟨0, by omega, rfl⟩, fun j => ⟨0, by omega, rfl⟩⟩, ⟨rfl, hA, fun _ _ => rfl⟩, ⟨rfl, hQ, 0, 0, rfl, rfl, by omega, by omega, fun i hi => absurd hi (by omega)⟩, ⟨hQ, fun s hs => Or.inl ⟨rfl, rfl⟩⟩⟩
set_option maxHeartbeats 4000000 in
set_option maxRecDepth 100000 in
/-- from the entry, for every script of at most 2048 ints, the law comes to its end with true -/
theorem whole_start {p : Program} {e : Env} {s : State} {m : MethodId} {below : List Frame} {meth : Method} {c : Code} (l : Launch) (hflags : l.flags = flags0) {b L : Nat} {xs : Nat → Int32} (hL : L ≤ 2048) (C0 : lw_At p s m meth c b L xs) : W p l e room_1 s m #[Value.ref b] below meth c s.heap [] 0 0 (lw_Z below #[Value.ref b] s) (entryFrame m ([Value.ref b] : List Value).toArray 7) := by
  obtain ⟨hx, hb, hr, hml, hown, hts, hX, hbl, hlocks, hgv⟩ := id C0
  have hst : l.stackTraces = false := by unfold Launch.stackTraces; rw [hflags]; decide +kernel
  obtain ⟨D, y, hE, hXE, hLN, hXZ⟩ := law_env hts hgv
  have hown : s.vm.findClass RL = some m.cls := hown
  have htl : ∀ w ∈ wsL_law, w.before #[Value.ref b] s = true := fun w h => hts w (wsL_law_in w h)
  have hA : ∀ q : Nat, s.heap.size ≤ q → (fun q : Nat => s.heap.size ≤ q) q := fun _ h => h
  have hS : va_S (fun q : Nat => s.heap.size ≤ q) s.heap s.heap [] := va_S.rf
  have hP : va_P D vwCl [] s.heap := fun k q h => by simp at h
  have hD : va_D (fun q : Nat => s.heap.size ≤ q) [] := ⟨fun i j p q h => by simp at h, fun k q h => by simp at h⟩
  have hl := lv_entry ([.ref b]) (n := 7) (Nat.le_of_ble_eq_true rfl)
  rw [lg_entry_eq]
  generalize (lg_sl ([.ref b]) ++ List.replicate (7 - (lg_sl ([.ref b])).length) Slot.unset).toArray = ls at hl ⊢
  have hl : lv_has ls 7 [(0, .ref b)] := hl
  refine va_new (ci := 4) (fs := [.null, .null, .null, .null, .null]) (C := RX5) (T := TX5) (N := 5) hx hb hts inX5 tyX5 tyX5_ok hown (hts (.classLink RL 8 RX5) (by decide +kernel)) (hts (.instantiable RX5 5) (by decide +kernel)) (hts (.initialized RX5) (by decide +kernel)) hE.1 hP hD hS hA rfl (fun j hj => by rcases (show j = 0 ∨ j = 1 ∨ j = 2 ∨ j = 3 ∨ j = 4 by omega) with rfl | rfl | rfl | rfl | rfl <;> rfl) (Nat.le_of_ble_eq_true rfl) (Nat.le_of_ble_eq_true rfl) dL_law_0 (fun x5 H hP hD hS => ?_)
  have hP : va_P D vwCl [(x5, .inr (4, [.null, .null, .null, .null, .null]))] H := hP
  have hD : va_D (fun q : Nat => s.heap.size ≤ q) [(x5, .inr (4, [.null, .null, .null, .null, .null]))] := hD
  refine W.widen (k := 1) (n := 5) (Nat.le_of_ble_eq_true rfl) (Nat.le_of_ble_eq_true rfl) ?_
  refine lv_dup hx hb dL_law_3 rfl ?_
  refine xw_new (w1a := fun (u : Nat → Nat) => [(x5, .inr (4, [.ref (u 0), .ref (u 2), .ref (u 5), .ref (u 8), .ref (u 10)]))]) (w1b := fun (u : Nat → Nat) => [((u 0), .inr (3, [.ref (u 1), .int 0])), ((u 1), .inl (y 1, 120, .inl (fun _ => 0))), ((u 2), soF (u 3) (u 4) iniR), ((u 3), soV y iniR), ((u 4), soW y iniR), ((u 5), soF (u 6) (u 7) iniR), ((u 6), soV y iniR), ((u 7), soW y iniR), ((u 8), .inr (0, [.ref (u 9), .int 0, .int 0])), ((u 9), .inl (y 3, 14, .inr (.inr (.inr (.inr (fun _ => none)))))), ((u 10), .inr (1, [.ref (u 11), .ref (u 12)])), ((u 11), .inl (y 3, 2, .inr (.inr (.inr (.inr (fun _ => none)))))), ((u 12), .inl (y 2, 2, .inl (fun _ => 0)))]) (va_runI (As := []) (rest := [.ref x5]) ⟨hx, hb, hml, hown, htl⟩ (c_X5_init l D y x5 H.size) (cwI 0 htl gL_law_X5_init rfl rfl rfl (hts (.initialized RX5) (by decide +kernel)) (hts (.methodLink RL 93 yX5_init) (by decide +kernel)) (hts (.instanceMethod yX5_init) (by decide +kernel)) rfl hd_X5_init ⟨Nat.le_of_ble_eq_true rfl, Nat.le_of_ble_eq_true rfl⟩) (gS (As := [.ref x5]) hE (hP.sub [0] rfl) (hD.sub [0] (by decide) rfl)) rfl rfl hl.1 rfl (lv_room (Nat.le_of_ble_eq_true rfl)) dL_law_4 ⟨Nat.le_of_ble_eq_true rfl, Nat.le_of_ble_eq_true rfl⟩) hP hD hS hA [0] rfl (by decide) (fun _ => rfl) (fun u H locs _ hP hD hS => ?_)
  have hP : va_P D vwCl [(x5, .inr (4, [.ref (u 0), .ref (u 2), .ref (u 5), .ref (u 8), .ref (u 10)])), ((u 0), .inr (3, [.ref (u 1), .int 0])), ((u 1), .inl (y 1, 120, .inl (fun _ => 0))), ((u 2), soF (u 3) (u 4) iniR), ((u 3), soV y iniR), ((u 4), soW y iniR), ((u 5), soF (u 6) (u 7) iniR), ((u 6), soV y iniR), ((u 7), soW y iniR), ((u 8), .inr (0, [.ref (u 9), .int 0, .int 0])), ((u 9), .inl (y 3, 14, .inr (.inr (.inr (.inr (fun _ => none)))))), ((u 10), .inr (1, [.ref (u 11), .ref (u 12)])), ((u 11), .inl (y 3, 2, .inr (.inr (.inr (.inr (fun _ => none)))))), ((u 12), .inl (y 2, 2, .inl (fun _ => 0)))] H := hP
  have hD : va_D (fun q : Nat => s.heap.size ≤ q) [(x5, .inr (4, [.ref (u 0), .ref (u 2), .ref (u 5), .ref (u 8), .ref (u 10)])), ((u 0), .inr (3, [.ref (u 1), .int 0])), ((u 1), .inl (y 1, 120, .inl (fun _ => 0))), ((u 2), soF (u 3) (u 4) iniR), ((u 3), soV y iniR), ((u 4), soW y iniR), ((u 5), soF (u 6) (u 7) iniR), ((u 6), soV y iniR), ((u 7), soW y iniR), ((u 8), .inr (0, [.ref (u 9), .int 0, .int 0])), ((u 9), .inl (y 3, 14, .inr (.inr (.inr (.inr (fun _ => none)))))), ((u 10), .inr (1, [.ref (u 11), .ref (u 12)])), ((u 11), .inl (y 3, 2, .inr (.inr (.inr (.inr (fun _ => none)))))), ((u 12), .inl (y 2, 2, .inl (fun _ => 0)))] := hD
  refine W.widen (k := 14) (n := 310) (Nat.le_of_ble_eq_true rfl) (Nat.le_of_ble_eq_true rfl) ?_
  refine lv_astore_n (lv' := [(1, .ref x5), (0, .ref b)]) hx hb dL_law_7 rfl hl (by decide) rfl (fun ls hl => ?_)
  refine va_new (ci := 5) (fs := [.int 0, .null, .int 0, .null, .null, .null, .int 0, .null, .null, .int 0, .int 0]) (C := RX6) (T := TX6) (N := 11) hx hb hts inX6 tyX6 tyX6_ok hown (hts (.classLink RL 94 RX6) (by decide +kernel)) (hts (.instantiable RX6 11) (by decide +kernel)) (hts (.initialized RX6) (by decide +kernel)) hE.1 hP hD hS hA rfl (fun j hj => by rcases (show j = 0 ∨ j = 1 ∨ j = 2 ∨ j = 3 ∨ j = 4 ∨ j = 5 ∨ j = 6 ∨ j = 7 ∨ j = 8 ∨ j = 9 ∨ j = 10 by omega) with rfl | rfl | rfl | rfl | rfl | rfl | rfl | rfl | rfl | rfl | rfl <;> rfl) (Nat.le_of_ble_eq_true rfl) (Nat.le_of_ble_eq_true rfl) dL_law_8 (fun x6 H hP hD hS => ?_)
  have hP : va_P D vwCl [(x5, .inr (4, [.ref (u 0), .ref (u 2), .ref (u 5), .ref (u 8), .ref (u 10)])), ((u 0), .inr (3, [.ref (u 1), .int 0])), ((u 1), .inl (y 1, 120, .inl (fun _ => 0))), ((u 2), soF (u 3) (u 4) iniR), ((u 3), soV y iniR), ((u 4), soW y iniR), ((u 5), soF (u 6) (u 7) iniR), ((u 6), soV y iniR), ((u 7), soW y iniR), ((u 8), .inr (0, [.ref (u 9), .int 0, .int 0])), ((u 9), .inl (y 3, 14, .inr (.inr (.inr (.inr (fun _ => none)))))), ((u 10), .inr (1, [.ref (u 11), .ref (u 12)])), ((u 11), .inl (y 3, 2, .inr (.inr (.inr (.inr (fun _ => none)))))), ((u 12), .inl (y 2, 2, .inl (fun _ => 0))), (x6, .inr (5, [.int 0, .null, .int 0, .null, .null, .null, .int 0, .null, .null, .int 0, .int 0]))] H := hP
  have hD : va_D (fun q : Nat => s.heap.size ≤ q) [(x5, .inr (4, [.ref (u 0), .ref (u 2), .ref (u 5), .ref (u 8), .ref (u 10)])), ((u 0), .inr (3, [.ref (u 1), .int 0])), ((u 1), .inl (y 1, 120, .inl (fun _ => 0))), ((u 2), soF (u 3) (u 4) iniR), ((u 3), soV y iniR), ((u 4), soW y iniR), ((u 5), soF (u 6) (u 7) iniR), ((u 6), soV y iniR), ((u 7), soW y iniR), ((u 8), .inr (0, [.ref (u 9), .int 0, .int 0])), ((u 9), .inl (y 3, 14, .inr (.inr (.inr (.inr (fun _ => none)))))), ((u 10), .inr (1, [.ref (u 11), .ref (u 12)])), ((u 11), .inl (y 3, 2, .inr (.inr (.inr (.inr (fun _ => none)))))), ((u 12), .inl (y 2, 2, .inl (fun _ => 0))), (x6, .inr (5, [.int 0, .null, .int 0, .null, .null, .null, .int 0, .null, .null, .int 0, .int 0]))] := hD
  refine W.widen (k := 15) (n := 321) (Nat.le_of_ble_eq_true rfl) (Nat.le_of_ble_eq_true rfl) ?_
  refine lv_dup hx hb dL_law_11 rfl ?_
  refine xw_new (w1a := fun (v : Nat → Nat) => [(x6, .inr (5, [.int 0, .ref (v 0), .int 0, .ref (v 1), .ref (v 2), .ref (v 3), .int 0, .ref (v 4), .ref (v 5), .int 0, .int 0]))]) (w1b := fun (v : Nat → Nat) => [((v 0), .inl (y 0, 120, .inl (fun _ => 0))), ((v 1), .inl (y 0, 78, .inl (f_X6_clear (fun _ => 0)))), ((v 2), .inl (y 0, 78, .inl (fun _ => 0))), ((v 3), .inl (y 0, 1092, .inl (fun _ => 0))), ((v 4), .inl (y 0, 156, .inl (fun _ => 0))), ((v 5), .inl (y 2, 2, .inl (fun _ => 0)))]) (va_runI (As := []) (rest := [.ref x6]) ⟨hx, hb, hml, hown, htl⟩ (c_X6_init l D y x6 H.size) (cwI 0 htl gL_law_X6_init rfl rfl rfl (hts (.initialized RX6) (by decide +kernel)) (hts (.methodLink RL 96 yX6_init) (by decide +kernel)) (hts (.instanceMethod yX6_init) (by decide +kernel)) rfl hd_X6_init ⟨Nat.le_of_ble_eq_true rfl, Nat.le_of_ble_eq_true rfl⟩) (gS (As := [.ref x6]) hE (hP.sub [14] rfl) (hD.sub [14] (by decide) rfl)) rfl rfl hl.1 rfl (lv_room (Nat.le_of_ble_eq_true rfl)) dL_law_12 ⟨Nat.le_of_ble_eq_true rfl, Nat.le_of_ble_eq_true rfl⟩) hP hD hS hA [14] rfl (by decide) (fun _ => rfl) (fun v H locs _ hP hD hS => ?_)
  have hP : va_P D vwCl [(x5, .inr (4, [.ref (u 0), .ref (u 2), .ref (u 5), .ref (u 8), .ref (u 10)])), ((u 0), .inr (3, [.ref (u 1), .int 0])), ((u 1), .inl (y 1, 120, .inl (fun _ => 0))), ((u 2), soF (u 3) (u 4) iniR), ((u 3), soV y iniR), ((u 4), soW y iniR), ((u 5), soF (u 6) (u 7) iniR), ((u 6), soV y iniR), ((u 7), soW y iniR), ((u 8), .inr (0, [.ref (u 9), .int 0, .int 0])), ((u 9), .inl (y 3, 14, .inr (.inr (.inr (.inr (fun _ => none)))))), ((u 10), .inr (1, [.ref (u 11), .ref (u 12)])), ((u 11), .inl (y 3, 2, .inr (.inr (.inr (.inr (fun _ => none)))))), ((u 12), .inl (y 2, 2, .inl (fun _ => 0))), (x6, .inr (5, [.int 0, .ref (v 0), .int 0, .ref (v 1), .ref (v 2), .ref (v 3), .int 0, .ref (v 4), .ref (v 5), .int 0, .int 0])), ((v 0), .inl (y 0, 120, .inl (fun _ => 0))), ((v 1), .inl (y 0, 78, .inl (f_X6_clear (fun _ => 0)))), ((v 2), .inl (y 0, 78, .inl (fun _ => 0))), ((v 3), .inl (y 0, 1092, .inl (fun _ => 0))), ((v 4), .inl (y 0, 156, .inl (fun _ => 0))), ((v 5), .inl (y 2, 2, .inl (fun _ => 0)))] H := hP
  have hD : va_D (fun q : Nat => s.heap.size ≤ q) [(x5, .inr (4, [.ref (u 0), .ref (u 2), .ref (u 5), .ref (u 8), .ref (u 10)])), ((u 0), .inr (3, [.ref (u 1), .int 0])), ((u 1), .inl (y 1, 120, .inl (fun _ => 0))), ((u 2), soF (u 3) (u 4) iniR), ((u 3), soV y iniR), ((u 4), soW y iniR), ((u 5), soF (u 6) (u 7) iniR), ((u 6), soV y iniR), ((u 7), soW y iniR), ((u 8), .inr (0, [.ref (u 9), .int 0, .int 0])), ((u 9), .inl (y 3, 14, .inr (.inr (.inr (.inr (fun _ => none)))))), ((u 10), .inr (1, [.ref (u 11), .ref (u 12)])), ((u 11), .inl (y 3, 2, .inr (.inr (.inr (.inr (fun _ => none)))))), ((u 12), .inl (y 2, 2, .inl (fun _ => 0))), (x6, .inr (5, [.int 0, .ref (v 0), .int 0, .ref (v 1), .ref (v 2), .ref (v 3), .int 0, .ref (v 4), .ref (v 5), .int 0, .int 0])), ((v 0), .inl (y 0, 120, .inl (fun _ => 0))), ((v 1), .inl (y 0, 78, .inl (f_X6_clear (fun _ => 0)))), ((v 2), .inl (y 0, 78, .inl (fun _ => 0))), ((v 3), .inl (y 0, 1092, .inl (fun _ => 0))), ((v 4), .inl (y 0, 156, .inl (fun _ => 0))), ((v 5), .inl (y 2, 2, .inl (fun _ => 0)))] := hD
  refine W.widen (k := 21) (n := 1847) (Nat.le_of_ble_eq_true rfl) (Nat.le_of_ble_eq_true rfl) ?_
  refine lv_astore_n (lv' := [(2, .ref x6), (1, .ref x5), (0, .ref b)]) hx hb dL_law_15 rfl hl (by decide) rfl (fun ls hl => ?_)
  refine lv_iconst (v := 1) hx hb dL_law_16 (by decide) ?_
  refine va_newa (atype := .long) (ty := .long) (N' := 1) (a0 := (1, .inr (.inl (fun _ => 0)))) hx hb (hts (.arrayClass .long) (by decide +kernel)) rfl hE.1 hP hD hS hA (fun cA => rfl) (by decide) rfl (Nat.le_of_ble_eq_true rfl) (Nat.le_of_ble_eq_true rfl) (Nat.le_of_ble_eq_true rfl) dL_law_17 (fun o cA H hK hP hD hS => ?_)
  obtain rfl : cA = y 4 := va_K_eq hK 5 4 rfl rfl
  have hP : va_P D vwCl [(x5, .inr (4, [.ref (u 0), .ref (u 2), .ref (u 5), .ref (u 8), .ref (u 10)])), ((u 0), .inr (3, [.ref (u 1), .int 0])), ((u 1), .inl (y 1, 120, .inl (fun _ => 0))), ((u 2), soF (u 3) (u 4) iniR), ((u 3), soV y iniR), ((u 4), soW y iniR), ((u 5), soF (u 6) (u 7) iniR), ((u 6), soV y iniR), ((u 7), soW y iniR), ((u 8), .inr (0, [.ref (u 9), .int 0, .int 0])), ((u 9), .inl (y 3, 14, .inr (.inr (.inr (.inr (fun _ => none)))))), ((u 10), .inr (1, [.ref (u 11), .ref (u 12)])), ((u 11), .inl (y 3, 2, .inr (.inr (.inr (.inr (fun _ => none)))))), ((u 12), .inl (y 2, 2, .inl (fun _ => 0))), (x6, .inr (5, [.int 0, .ref (v 0), .int 0, .ref (v 1), .ref (v 2), .ref (v 3), .int 0, .ref (v 4), .ref (v 5), .int 0, .int 0])), ((v 0), .inl (y 0, 120, .inl (fun _ => 0))), ((v 1), .inl (y 0, 78, .inl (f_X6_clear (fun _ => 0)))), ((v 2), .inl (y 0, 78, .inl (fun _ => 0))), ((v 3), .inl (y 0, 1092, .inl (fun _ => 0))), ((v 4), .inl (y 0, 156, .inl (fun _ => 0))), ((v 5), .inl (y 2, 2, .inl (fun _ => 0))), (o, .inl (y 4, 1, .inr (.inl (fun _ => 0))))] H := hP
  have hD : va_D (fun q : Nat => s.heap.size ≤ q) [(x5, .inr (4, [.ref (u 0), .ref (u 2), .ref (u 5), .ref (u 8), .ref (u 10)])), ((u 0), .inr (3, [.ref (u 1), .int 0])), ((u 1), .inl (y 1, 120, .inl (fun _ => 0))), ((u 2), soF (u 3) (u 4) iniR), ((u 3), soV y iniR), ((u 4), soW y iniR), ((u 5), soF (u 6) (u 7) iniR), ((u 6), soV y iniR), ((u 7), soW y iniR), ((u 8), .inr (0, [.ref (u 9), .int 0, .int 0])), ((u 9), .inl (y 3, 14, .inr (.inr (.inr (.inr (fun _ => none)))))), ((u 10), .inr (1, [.ref (u 11), .ref (u 12)])), ((u 11), .inl (y 3, 2, .inr (.inr (.inr (.inr (fun _ => none)))))), ((u 12), .inl (y 2, 2, .inl (fun _ => 0))), (x6, .inr (5, [.int 0, .ref (v 0), .int 0, .ref (v 1), .ref (v 2), .ref (v 3), .int 0, .ref (v 4), .ref (v 5), .int 0, .int 0])), ((v 0), .inl (y 0, 120, .inl (fun _ => 0))), ((v 1), .inl (y 0, 78, .inl (f_X6_clear (fun _ => 0)))), ((v 2), .inl (y 0, 78, .inl (fun _ => 0))), ((v 3), .inl (y 0, 1092, .inl (fun _ => 0))), ((v 4), .inl (y 0, 156, .inl (fun _ => 0))), ((v 5), .inl (y 2, 2, .inl (fun _ => 0))), (o, .inl (y 4, 1, .inr (.inl (fun _ => 0))))] := hD
  refine W.widen (k := 30) (n := 1900) (Nat.le_of_ble_eq_true rfl) (Nat.le_of_ble_eq_true rfl) ?_
  refine lv_astore_n (lv' := [(3, .ref o), (2, .ref x6), (1, .ref x5), (0, .ref b)]) hx hb dL_law_19 rfl hl (by decide) rfl (fun ls hl => ?_)
  refine lv_iconst (v := 0) hx hb dL_law_20 (by decide) ?_
  refine lv_istore (lv' := [(4, .int 0), (3, .ref o), (2, .ref x6), (1, .ref x5), (0, .ref b)]) hx hb dL_law_21 hl (by decide) rfl (fun ls hl => ?_)
  refine law_loop (D := D) (y := y) (av := fun k => match k with | 0 => o | 1 => x5 | 2 => u 0 | 3 => u 2 | 4 => u 5 | 5 => u 8 | 6 => u 10 | 7 => u 1 | 8 => u 3 | 9 => u 4 | 10 => u 6 | 11 => u 7 | 12 => u 9 | 13 => u 11 | _ => u 12) (bv := fun k => match k with | 0 => x6 | 1 => v 0 | 2 => v 1 | 3 => v 2 | 4 => v 3 | 5 => v 4 | _ => v 5) ⟨C0, hE, hXE, hLN, hXZ⟩ hst hL (L + 1) 0 (by omega) (by omega) H locs ls ?_ hS (lv_sub hl [4, 3, 2, 1, 0] rfl)
  refine ⟨(fun _ => 0), 0, (fun _ => 0), iniR, iniR, 0, 0, (fun _ => none), (fun _ => none), (fun _ => 0), (0, 0, 0, 0, 0, (fun _ => 0), f_X6_clear (fun _ => 0), (fun _ => 0), (fun _ => 0), (fun _ => 0), (fun _ => 0)), (fun _ => (0, 0, 0)), (fun _ => (0, 0, 0)), ?_, ?_, rel_0⟩
  · rw [gTail0]; exact hP.sub [14, 15, 16, 17, 18, 19, 20, 21, 0, 1, 2, 3, 4, 5, 6, 7, 8, 9, 10, 11, 12, 13] rfl
  · rw [gTail0]; exact hD.sub [14, 15, 16, 17, 18, 19, 20, 21, 0, 1, 2, 3, 4, 5, 6, 7, 8, 9, 10, 11, 12, 13] (by decide) rfl
