/-! WHAT IS SAVED -/

def f_X2_keep (r : gR) (lq : Nat → Option gR) (lfl : Nat → Int32) (p0 : Int32) : (Nat → Option gR) × (Nat → Int32) :=
  if f_X2_has p0 = 0 then (lq, lfl) else (gPut lq p0.toNatClampNeg r, upd lfl p0.toNatClampNeg 1)
theorem has_ix {p v : Int32} (h : f_X2_has p = v) (hv : ¬ v = 0) : vp_in p 2 := by
  unfold f_X2_has at h
  split at h
  · exact absurd h.symm hv
  · rename_i c
    split at h
    · exact absurd h.symm hv
    · rename_i c2
      exact ix_btl c c2 (by decide)
theorem hd_X2_keep : yX2_keep.cls = RX2 ∧ yX2_keep.cls ≠ "java/lang/invoke/MethodHandle" ∧ yX2_keep.cls ≠ "java/lang/invoke/VarHandle" ∧ (parseMethodDescriptor yX2_keep.desc).map (fun d => d.parameters.length) = some 2 := by decide +kernel
set_option maxHeartbeats 4000000 in
set_option maxRecDepth 100000 in
theorem c_X2_keep (l : Launch) (D : va_G) (y : Nat → ClassId) (a0 a1 a2 a3 a4 a5 a6 a7 a8 a9 a10 a11 a12 a13 : Nat) (ga gb : Nat → Nat × Nat × Nat) (zh : Nat) (tn : Int32) (tf : Nat → Int32) (r : gR) (rc : gR) (qz : Int32) (qn : Int32) (hq : Nat → Option gR) (lq : Nat → Option gR) (lfl : Nat → Int32) (p0 : Int32) (ho : okC r) : Met l yX2_keep wsX2_keep ({ frames := 2, cells := 3, slots := 80, locals := 39 }) (gP D y [.ref a5, .int p0, .ref a2] zh ((a0, .inr (4, [.ref a1, .ref a2, .ref a3, .ref a4, .ref a5])) :: (a1, .inr (3, [.ref a6, .int tn])) :: (a6, .inl (y 1, 120, .inl tf)) :: (a2, soF a7 a8 r) :: (a7, soV y r) :: (a8, soW y r) :: (a3, soF a9 a10 rc) :: (a9, soV y rc) :: (a10, soW y rc) :: (a4, .inr (0, [.ref a11, .int qz, .int qn])) :: (a11, .inl (y 3, 14, .inr (.inr (.inr (.inr (gRf ga hq)))))) :: (a5, .inr (1, [.ref a12, .ref a13])) :: (a12, .inl (y 3, 2, .inr (.inr (.inr (.inr (gRf gb lq)))))) :: (a13, .inl (y 2, 2, .inl lfl)) :: gTail y ga gb hq lq)) (va_Qv (fun u : (Nat → Option gR) × (Nat → Int32) => f_X2_keep r lq lfl p0 = u) (fun (u : (Nat → Option gR) × (Nat → Int32)) t => ∃ (g1 g2 : Nat → Nat × Nat × Nat), va_P D vwCl ((a0, .inr (4, [.ref a1, .ref a2, .ref a3, .ref a4, .ref a5])) :: (a1, .inr (3, [.ref a6, .int tn])) :: (a6, .inl (y 1, 120, .inl tf)) :: (a2, soF a7 a8 r) :: (a7, soV y r) :: (a8, soW y r) :: (a3, soF a9 a10 rc) :: (a9, soV y rc) :: (a10, soW y rc) :: (a4, .inr (0, [.ref a11, .int qz, .int qn])) :: (a11, .inl (y 3, 14, .inr (.inr (.inr (.inr (gRf g1 hq)))))) :: (a5, .inr (1, [.ref a12, .ref a13])) :: (a12, .inl (y 3, 2, .inr (.inr (.inr (.inr (gRf g2 u.1)))))) :: (a13, .inl (y 2, 2, .inl u.2)) :: gTail y g1 g2 hq u.1) t.heap ∧ va_D (va_A ((a0, .inr (4, [.ref a1, .ref a2, .ref a3, .ref a4, .ref a5])) :: (a1, .inr (3, [.ref a6, .int tn])) :: (a6, .inl (y 1, 120, .inl tf)) :: (a2, soF a7 a8 r) :: (a7, soV y r) :: (a8, soW y r) :: (a3, soF a9 a10 rc) :: (a9, soV y rc) :: (a10, soW y rc) :: (a4, .inr (0, [.ref a11, .int qz, .int qn])) :: (a11, .inl (y 3, 14, .inr (.inr (.inr (.inr (gRf ga hq)))))) :: (a5, .inr (1, [.ref a12, .ref a13])) :: (a12, .inl (y 3, 2, .inr (.inr (.inr (.inr (gRf gb lq)))))) :: (a13, .inl (y 2, 2, .inl lfl)) :: gTail y ga gb hq lq) zh) ((a0, .inr (4, [.ref a1, .ref a2, .ref a3, .ref a4, .ref a5])) :: (a1, .inr (3, [.ref a6, .int tn])) :: (a6, .inl (y 1, 120, .inl tf)) :: (a2, soF a7 a8 r) :: (a7, soV y r) :: (a8, soW y r) :: (a3, soF a9 a10 rc) :: (a9, soV y rc) :: (a10, soW y rc) :: (a4, .inr (0, [.ref a11, .int qz, .int qn])) :: (a11, .inl (y 3, 14, .inr (.inr (.inr (.inr (gRf g1 hq)))))) :: (a5, .inr (1, [.ref a12, .ref a13])) :: (a12, .inl (y 3, 2, .inr (.inr (.inr (.inr (gRf g2 u.1)))))) :: (a13, .inl (y 2, 2, .inl u.2)) :: gTail y g1 g2 hq u.1)) (va_A ((a0, .inr (4, [.ref a1, .ref a2, .ref a3, .ref a4, .ref a5])) :: (a1, .inr (3, [.ref a6, .int tn])) :: (a6, .inl (y 1, 120, .inl tf)) :: (a2, soF a7 a8 r) :: (a7, soV y r) :: (a8, soW y r) :: (a3, soF a9 a10 rc) :: (a9, soV y rc) :: (a10, soW y rc) :: (a4, .inr (0, [.ref a11, .int qz, .int qn])) :: (a11, .inl (y 3, 14, .inr (.inr (.inr (.inr (gRf ga hq)))))) :: (a5, .inr (1, [.ref a12, .ref a13])) :: (a12, .inl (y 3, 2, .inr (.inr (.inr (.inr (gRf gb lq)))))) :: (a13, .inl (y 2, 2, .inl lfl)) :: gTail y ga gb hq lq) zh)) 3 80 (va_A ((a0, .inr (4, [.ref a1, .ref a2, .ref a3, .ref a4, .ref a5])) :: (a1, .inr (3, [.ref a6, .int tn])) :: (a6, .inl (y 1, 120, .inl tf)) :: (a2, soF a7 a8 r) :: (a7, soV y r) :: (a8, soW y r) :: (a3, soF a9 a10 rc) :: (a9, soV y rc) :: (a10, soW y rc) :: (a4, .inr (0, [.ref a11, .int qz, .int qn])) :: (a11, .inl (y 3, 14, .inr (.inr (.inr (.inr (gRf ga hq)))))) :: (a5, .inr (1, [.ref a12, .ref a13])) :: (a12, .inl (y 3, 2, .inr (.inr (.inr (.inr (gRf gb lq)))))) :: (a13, .inl (y 2, 2, .inl lfl)) :: gTail y ga gb hq lq) zh) := by
  refine Met.ofW (cc := cX2_keep) (maxL := 3) (ret := none) (by decide) rfl ?_
  intro p e s m args below meth c s₁ B hml hv
  obtain ⟨rfl, hsz, hP, hE, hD⟩ := hv
  have hx := B.exec
  have hb := B.bytes
  have hr := B.returns
  have hts := atoms_spec (ws := wsX2_keep) B.pre
  have hown : s.vm.findClass RX2 = some m.cls := findClass_of_methodNamed B.named
  have hlocks := B.notSynchronized
  have w_0 := hts (.fieldLink RX2 11 "GapLines$Slots" "states" "[LGapLines$State;") (List.mem_cons_of_mem _ (List.mem_append_left _ (List.mem_append_left _ (List.mem_append_left _ (List.mem_of_getElem? (i := 0) rfl)))))
  have hi2 : ∀ w ∈ u_ws RX2 TX2 2, w ∈ wsX2_keep := fun w h => (List.mem_cons_of_mem _ (List.mem_append_left _ (List.mem_append_right _ h)))
  have hi3 : ∀ w ∈ u_ws RX3 TX3 15, w ∈ wsX2_keep := fun w h => (List.mem_cons_of_mem _ (List.mem_append_right _ h))
  have w_3 := hts (.classLink RX2 9 RX3) (List.mem_cons_of_mem _ (List.mem_append_left _ (List.mem_append_left _ (List.mem_append_left _ (List.mem_of_getElem? (i := 1) rfl)))))
  have w_4 := hts (.instantiable RX3 15) (List.mem_cons_of_mem _ (List.mem_append_left _ (List.mem_append_left _ (List.mem_append_left _ (List.mem_of_getElem? (i := 2) rfl)))))
  have w_5 := hts (.initialized RX3) (List.mem_cons_of_mem _ (List.mem_append_left _ (List.mem_append_left _ (List.mem_append_left _ (List.mem_of_getElem? (i := 3) rfl)))))
  have w_6 := hts (.instanceMethod yX3_init) (List.mem_cons_of_mem _ (List.mem_append_left _ (List.mem_append_left _ (List.mem_append_left _ (List.mem_of_getElem? (i := 9) rfl)))))
  have w_7 := hts (.fieldLink RX2 15 "GapLines$Slots" "filled" "[Z") (List.mem_cons_of_mem _ (List.mem_append_left _ (List.mem_append_left _ (List.mem_append_left _ (List.mem_of_getElem? (i := 4) rfl)))))
  subst hsz
  have hD := hD.self (sz := s.heap.size)
  generalize hAe : va_A ((a0, .inr (4, [.ref a1, .ref a2, .ref a3, .ref a4, .ref a5])) :: (a1, .inr (3, [.ref a6, .int tn])) :: (a6, .inl (y 1, 120, .inl tf)) :: (a2, soF a7 a8 r) :: (a7, soV y r) :: (a8, soW y r) :: (a3, soF a9 a10 rc) :: (a9, soV y rc) :: (a10, soW y rc) :: (a4, .inr (0, [.ref a11, .int qz, .int qn])) :: (a11, .inl (y 3, 14, .inr (.inr (.inr (.inr (gRf ga hq)))))) :: (a5, .inr (1, [.ref a12, .ref a13])) :: (a12, .inl (y 3, 2, .inr (.inr (.inr (.inr (gRf gb lq)))))) :: (a13, .inl (y 2, 2, .inl lfl)) :: gTail y ga gb hq lq) s.heap.size = A at hD ⊢
  have hA : ∀ q : Nat, s.heap.size ≤ q → A q := fun q h => by rw [← hAe]; exact Or.inr h
  have hS : va_S A s.heap s.heap [] := va_S.rf
  have hl := lv_entry ([.ref a5, .int p0, .ref a2]) (n := 3) (Nat.le_of_ble_eq_true rfl)
  rw [lg_entry_eq]
  generalize (lg_sl ([.ref a5, .int p0, .ref a2]) ++ List.replicate (3 - (lg_sl ([.ref a5, .int p0, .ref a2])).length) Slot.unset).toArray = ls at hl ⊢
  have hl : lv_has ls 3 [(0, .ref a5), (1, .int p0), (2, .ref a2)] := hl
  obtain ⟨T, hT⟩ : ∃ T : va_W, gTail y ga gb hq lq = T := ⟨_, rfl⟩
  rw [hT] at hP hD
  refine lv_iload_n hx hb dX2_keep_0 rfl (lv_at hl 1 rfl) ?_
  refine xs_calli (va_runS (As := [.int p0]) (rest := []) ⟨hx, hb, hml, hown, hts⟩ (c_X2_has l D y s.heap.size p0) (va_cwS 1 hts gX2_keep_X2_has rfl rfl rfl hd_X2_has ⟨Nat.le_of_ble_eq_true rfl, Nat.le_of_ble_eq_true rfl⟩) (gS hE (hP.sub [] rfl) (hD.sub [] (by decide) rfl)) rfl rfl hl.1 rfl (lv_room (Nat.le_of_ble_eq_true rfl)) dX2_keep_1 ⟨Nat.le_of_ble_eq_true rfl, Nat.le_of_ble_eq_true rfl⟩) (fun v2 h1 => ?_)
  skip
  refine lv_if_ne (tgt := 8) hx hb dX2_keep_4 (by decide) (fun c_3 => ?_) (fun c_3 => ?_)
  · skip
    refine lv_aload_n hx hb dX2_keep_8 rfl (lv_at hl 0 rfl) ?_
    refine va_get (D := D) (ci := 1) (v := .ref a12) (C := RX2) (T := TX2) (N := 2) hx hb hts hi2 hown hE.1 hP 11 rfl rfl 0 (by decide) w_0 (fun _ h9 => h9) rfl dX2_keep_9 ?_
    refine lv_iload_n hx hb dX2_keep_12 rfl (lv_at hl 1 rfl) ?_
    refine va_aldq hx hb hE.1 hP 12 3 rfl rfl (has_ix h1 (by assumption)) dX2_keep_13 ?_
    rcases hk4 : lq (p0.toNatClampNeg) with _ | s5
    · rw [gRf_none hk4]
      refine lv_ifnonnullN hx hb dX2_keep_14 ?_
      obtain ⟨T6, hT6⟩ : ∃ T : va_W, gPool y ga hq 14 ++ gPool y gb (gHole lq (p0.toNatClampNeg)) 2 = T := ⟨_, rfl⟩
      have hTT : T = T6 := by rw [← hT, ← hT6, gHole_none hk4, gTail]
      rw [hTT] at hP hD
      refine lv_aload_n hx hb dX2_keep_17 rfl (lv_at hl 0 rfl) ?_
      refine va_get (D := D) (ci := 1) (v := .ref a12) (C := RX2) (T := TX2) (N := 2) hx hb hts hi2 hown hE.1 hP 11 rfl rfl 0 (by decide) w_0 (fun _ h9 => h9) rfl dX2_keep_18 ?_
      refine lv_iload_n hx hb dX2_keep_21 rfl (lv_at hl 1 rfl) ?_
      refine va_new (ci := 2) (fs := [.int 0, .int 0, .int 0, .int 0, .int 0, .int 0, .int 0, .int 0, .int 0, .int 0, .int 0, .int 0, .int 0, .null, .null]) (C := RX3) (T := TX3) (N := 15) hx hb hts hi3 tyX3 tyX3_ok hown w_3 w_4 w_5 hE.1 hP hD hS hA rfl (fun j hj => by rcases (show j = 0 ∨ j = 1 ∨ j = 2 ∨ j = 3 ∨ j = 4 ∨ j = 5 ∨ j = 6 ∨ j = 7 ∨ j = 8 ∨ j = 9 ∨ j = 10 ∨ j = 11 ∨ j = 12 ∨ j = 13 ∨ j = 14 by omega) with rfl | rfl | rfl | rfl | rfl | rfl | rfl | rfl | rfl | rfl | rfl | rfl | rfl | rfl | rfl <;> rfl) (Nat.le_of_ble_eq_true rfl) (Nat.le_of_ble_eq_true rfl) dX2_keep_22 (fun q7 H hP hD hS => ?_)
      have hp := xa_swap [(a0, .inr (4, [.ref a1, .ref a2, .ref a3, .ref a4, .ref a5])), (a1, .inr (3, [.ref a6, .int tn])), (a6, .inl (y 1, 120, .inl tf)), (a2, soF a7 a8 r), (a7, soV y r), (a8, soW y r), (a3, soF a9 a10 rc), (a9, soV y rc), (a10, soW y rc), (a4, .inr (0, [.ref a11, .int qz, .int qn])), (a11, .inl (y 3, 14, .inr (.inr (.inr (.inr (gRf ga hq)))))), (a5, .inr (1, [.ref a12, .ref a13])), (a12, .inl (y 3, 2, .inr (.inr (.inr (.inr (gRf gb lq)))))), (a13, .inl (y 2, 2, .inl lfl))] T6 [(q7, .inr (2, [.int 0, .int 0, .int 0, .int 0, .int 0, .int 0, .int 0, .int 0, .int 0, .int 0, .int 0, .int 0, .int 0, .null, .null]))]
      have hP := xa_permP hp hP
      have hD := xa_permD hp hD
      have hP : va_P D vwCl ((a0, .inr (4, [.ref a1, .ref a2, .ref a3, .ref a4, .ref a5])) :: (a1, .inr (3, [.ref a6, .int tn])) :: (a6, .inl (y 1, 120, .inl tf)) :: (a2, soF a7 a8 r) :: (a7, soV y r) :: (a8, soW y r) :: (a3, soF a9 a10 rc) :: (a9, soV y rc) :: (a10, soW y rc) :: (a4, .inr (0, [.ref a11, .int qz, .int qn])) :: (a11, .inl (y 3, 14, .inr (.inr (.inr (.inr (gRf ga hq)))))) :: (a5, .inr (1, [.ref a12, .ref a13])) :: (a12, .inl (y 3, 2, .inr (.inr (.inr (.inr (gRf gb lq)))))) :: (a13, .inl (y 2, 2, .inl lfl)) :: (q7, .inr (2, [.int 0, .int 0, .int 0, .int 0, .int 0, .int 0, .int 0, .int 0, .int 0, .int 0, .int 0, .int 0, .int 0, .null, .null])) :: T6) H := hP
      have hD : va_D A ((a0, .inr (4, [.ref a1, .ref a2, .ref a3, .ref a4, .ref a5])) :: (a1, .inr (3, [.ref a6, .int tn])) :: (a6, .inl (y 1, 120, .inl tf)) :: (a2, soF a7 a8 r) :: (a7, soV y r) :: (a8, soW y r) :: (a3, soF a9 a10 rc) :: (a9, soV y rc) :: (a10, soW y rc) :: (a4, .inr (0, [.ref a11, .int qz, .int qn])) :: (a11, .inl (y 3, 14, .inr (.inr (.inr (.inr (gRf ga hq)))))) :: (a5, .inr (1, [.ref a12, .ref a13])) :: (a12, .inl (y 3, 2, .inr (.inr (.inr (.inr (gRf gb lq)))))) :: (a13, .inl (y 2, 2, .inl lfl)) :: (q7, .inr (2, [.int 0, .int 0, .int 0, .int 0, .int 0, .int 0, .int 0, .int 0, .int 0, .int 0, .int 0, .int 0, .int 0, .null, .null])) :: T6) := hD
      refine lv_dup hx hb dX2_keep_25 rfl ?_
      refine xw_new (w1a := fun (u : Nat × Nat) => [(q7, soF u.1 u.2 iniR)]) (w1b := fun (u : Nat × Nat) => [(u.1, soV y iniR), (u.2, soW y iniR)]) (va_runIN (As := []) (rest := [.ref q7, .int p0, .ref a12]) ⟨hx, hb, hml, hown, hts⟩ (c_X3_init l D y q7 H.size) ⟨va_cnB 0 hts gX2_keep_X3_init_n23 rfl rfl rfl (hE.2.1 _ (List.mem_of_getElem? (i := 5) rfl)) w_5 hd_X3_init ⟨Nat.le_of_ble_eq_true rfl, Nat.le_of_ble_eq_true rfl⟩, rfl, w_6⟩ (gS (As := [.ref q7]) hE (hP.sub [14] rfl) (hD.sub [14] (by decide) rfl)) rfl rfl hl.1 rfl (lv_room (Nat.le_of_ble_eq_true rfl)) dX2_keep_26 ⟨Nat.le_of_ble_eq_true rfl, Nat.le_of_ble_eq_true rfl⟩) hP hD hS hA [14] rfl (by decide) (fun _ => rfl) (fun u8 H locs h9 hP hD hS => ?_)
      have hp := xa_swap [(a0, .inr (4, [.ref a1, .ref a2, .ref a3, .ref a4, .ref a5])), (a1, .inr (3, [.ref a6, .int tn])), (a6, .inl (y 1, 120, .inl tf)), (a2, soF a7 a8 r), (a7, soV y r), (a8, soW y r), (a3, soF a9 a10 rc), (a9, soV y rc), (a10, soW y rc), (a4, .inr (0, [.ref a11, .int qz, .int qn])), (a11, .inl (y 3, 14, .inr (.inr (.inr (.inr (gRf ga hq)))))), (a5, .inr (1, [.ref a12, .ref a13])), (a12, .inl (y 3, 2, .inr (.inr (.inr (.inr (gRf gb lq)))))), (a13, .inl (y 2, 2, .inl lfl)), (q7, soF u8.1 u8.2 iniR)] T6 [(u8.1, soV y iniR), (u8.2, soW y iniR)]
      have hP := xa_permP hp hP
      have hD := xa_permD hp hD
      have hP : va_P D vwCl ((a0, .inr (4, [.ref a1, .ref a2, .ref a3, .ref a4, .ref a5])) :: (a1, .inr (3, [.ref a6, .int tn])) :: (a6, .inl (y 1, 120, .inl tf)) :: (a2, soF a7 a8 r) :: (a7, soV y r) :: (a8, soW y r) :: (a3, soF a9 a10 rc) :: (a9, soV y rc) :: (a10, soW y rc) :: (a4, .inr (0, [.ref a11, .int qz, .int qn])) :: (a11, .inl (y 3, 14, .inr (.inr (.inr (.inr (gRf ga hq)))))) :: (a5, .inr (1, [.ref a12, .ref a13])) :: (a12, .inl (y 3, 2, .inr (.inr (.inr (.inr (gRf gb lq)))))) :: (a13, .inl (y 2, 2, .inl lfl)) :: (q7, soF u8.1 u8.2 iniR) :: (u8.1, soV y iniR) :: (u8.2, soW y iniR) :: T6) H := hP
      have hD : va_D A ((a0, .inr (4, [.ref a1, .ref a2, .ref a3, .ref a4, .ref a5])) :: (a1, .inr (3, [.ref a6, .int tn])) :: (a6, .inl (y 1, 120, .inl tf)) :: (a2, soF a7 a8 r) :: (a7, soV y r) :: (a8, soW y r) :: (a3, soF a9 a10 rc) :: (a9, soV y rc) :: (a10, soW y rc) :: (a4, .inr (0, [.ref a11, .int qz, .int qn])) :: (a11, .inl (y 3, 14, .inr (.inr (.inr (.inr (gRf ga hq)))))) :: (a5, .inr (1, [.ref a12, .ref a13])) :: (a12, .inl (y 3, 2, .inr (.inr (.inr (.inr (gRf gb lq)))))) :: (a13, .inl (y 2, 2, .inl lfl)) :: (q7, soF u8.1 u8.2 iniR) :: (u8.1, soV y iniR) :: (u8.2, soW y iniR) :: T6) := hD
      refine va_astq hx hb hE.1 hP hD hS 12 3 14 2 rfl rfl rfl rfl (has_ix h1 (by assumption)) dX2_keep_29 (fun H locs hP hD hS => ?_)
      have hP : va_P D vwCl ((a0, .inr (4, [.ref a1, .ref a2, .ref a3, .ref a4, .ref a5])) :: (a1, .inr (3, [.ref a6, .int tn])) :: (a6, .inl (y 1, 120, .inl tf)) :: (a2, soF a7 a8 r) :: (a7, soV y r) :: (a8, soW y r) :: (a3, soF a9 a10 rc) :: (a9, soV y rc) :: (a10, soW y rc) :: (a4, .inr (0, [.ref a11, .int qz, .int qn])) :: (a11, .inl (y 3, 14, .inr (.inr (.inr (.inr (gRf ga hq)))))) :: (a5, .inr (1, [.ref a12, .ref a13])) :: (a12, .inl (y 3, 2, .inr (.inr (.inr (.inr (va_up (gRf gb lq) (p0.toNatClampNeg) (some q7))))))) :: (a13, .inl (y 2, 2, .inl lfl)) :: (q7, soF u8.1 u8.2 iniR) :: (u8.1, soV y iniR) :: (u8.2, soW y iniR) :: T6) H := hP
      have hD : va_D A ((a0, .inr (4, [.ref a1, .ref a2, .ref a3, .ref a4, .ref a5])) :: (a1, .inr (3, [.ref a6, .int tn])) :: (a6, .inl (y 1, 120, .inl tf)) :: (a2, soF a7 a8 r) :: (a7, soV y r) :: (a8, soW y r) :: (a3, soF a9 a10 rc) :: (a9, soV y rc) :: (a10, soW y rc) :: (a4, .inr (0, [.ref a11, .int qz, .int qn])) :: (a11, .inl (y 3, 14, .inr (.inr (.inr (.inr (gRf ga hq)))))) :: (a5, .inr (1, [.ref a12, .ref a13])) :: (a12, .inl (y 3, 2, .inr (.inr (.inr (.inr (va_up (gRf gb lq) (p0.toNatClampNeg) (some q7))))))) :: (a13, .inl (y 2, 2, .inl lfl)) :: (q7, soF u8.1 u8.2 iniR) :: (u8.1, soV y iniR) :: (u8.2, soW y iniR) :: T6) := hD
      refine lv_aload_n hx hb dX2_keep_30 rfl (lv_at hl 0 rfl) ?_
      refine va_get (D := D) (ci := 1) (v := .ref a12) (C := RX2) (T := TX2) (N := 2) hx hb hts hi2 hown hE.1 hP 11 rfl rfl 0 (by decide) w_0 (fun _ h9 => h9) rfl dX2_keep_31 ?_
      refine lv_iload_n hx hb dX2_keep_34 rfl (lv_at hl 1 rfl) ?_
      refine va_aldq hx hb hE.1 hP 12 3 rfl rfl (has_ix h1 (by assumption)) dX2_keep_35 ?_
      rw [gUp_at]
      refine W.eq (g2 := F0 m 36 ls (.ref q7 :: [])) rfl ?_
      refine lv_aload_n hx hb dX2_keep_36 rfl (lv_at hl 2 rfl) ?_
      refine xw_callv (va_runV (As := [.ref a2]) (rest := []) ⟨hx, hb, hml, hown, hts⟩ (c_X3_copyFrom l D y q7 u8.1 u8.2 a2 a7 a8 H.size iniR r ho) (cwV 1 hts gX2_keep_X3_copyFrom rfl rfl rfl hd_X3_copyFrom ⟨Nat.le_of_ble_eq_true rfl, Nat.le_of_ble_eq_true rfl⟩) (gV (q := (RX3, TX3, 15)) hE (hP.sub [14, 15, 16, 3, 4, 5] rfl) (hD.sub [14, 15, 16, 3, 4, 5] (by decide) rfl) 0 rfl rfl) rfl rfl hl.1 rfl (lv_room (Nat.le_of_ble_eq_true rfl)) dX2_keep_37 ⟨Nat.le_of_ble_eq_true rfl, Nat.le_of_ble_eq_true rfl⟩) hP hD hS hA [14, 15, 16, 3, 4, 5] rfl (by decide) (fun _ => rfl) (fun u11 H locs h10 hP hD hS => ?_)
      obtain rfl : r = u11 := h10
      have hP : va_P D vwCl ((a0, .inr (4, [.ref a1, .ref a2, .ref a3, .ref a4, .ref a5])) :: (a1, .inr (3, [.ref a6, .int tn])) :: (a6, .inl (y 1, 120, .inl tf)) :: (a2, soF a7 a8 r) :: (a7, soV y r) :: (a8, soW y r) :: (a3, soF a9 a10 rc) :: (a9, soV y rc) :: (a10, soW y rc) :: (a4, .inr (0, [.ref a11, .int qz, .int qn])) :: (a11, .inl (y 3, 14, .inr (.inr (.inr (.inr (gRf ga hq)))))) :: (a5, .inr (1, [.ref a12, .ref a13])) :: (a12, .inl (y 3, 2, .inr (.inr (.inr (.inr (va_up (gRf gb lq) (p0.toNatClampNeg) (some q7))))))) :: (a13, .inl (y 2, 2, .inl lfl)) :: (q7, soF u8.1 u8.2 r) :: (u8.1, soV y r) :: (u8.2, soW y r) :: T6) H := hP
      have hD : va_D A ((a0, .inr (4, [.ref a1, .ref a2, .ref a3, .ref a4, .ref a5])) :: (a1, .inr (3, [.ref a6, .int tn])) :: (a6, .inl (y 1, 120, .inl tf)) :: (a2, soF a7 a8 r) :: (a7, soV y r) :: (a8, soW y r) :: (a3, soF a9 a10 rc) :: (a9, soV y rc) :: (a10, soW y rc) :: (a4, .inr (0, [.ref a11, .int qz, .int qn])) :: (a11, .inl (y 3, 14, .inr (.inr (.inr (.inr (gRf ga hq)))))) :: (a5, .inr (1, [.ref a12, .ref a13])) :: (a12, .inl (y 3, 2, .inr (.inr (.inr (.inr (va_up (gRf gb lq) (p0.toNatClampNeg) (some q7))))))) :: (a13, .inl (y 2, 2, .inl lfl)) :: (q7, soF u8.1 u8.2 r) :: (u8.1, soV y r) :: (u8.2, soW y r) :: T6) := hD
      refine lv_aload_n hx hb dX2_keep_40 rfl (lv_at hl 0 rfl) ?_
      refine va_get (D := D) (ci := 1) (v := .ref a13) (C := RX2) (T := TX2) (N := 2) hx hb hts hi2 hown hE.1 hP 11 rfl rfl 1 (by decide) w_7 (fun _ h9 => h9) rfl dX2_keep_41 ?_
      refine lv_iload_n hx hb dX2_keep_44 rfl (lv_at hl 1 rfl) ?_
      refine lv_iconst (v := 1) hx hb dX2_keep_45 (by decide) ?_
      refine xa_zast (k := p0.toNatClampNeg) (x' := 1) hx hb hE.1 hP hD hS 13 2 rfl rfl (has_ix h1 (by assumption)) rfl rfl dX2_keep_46 (fun H locs hP hD hS => ?_)
      obtain ⟨r12, er12⟩ : ∃ z : Nat → Int32, upd lfl p0.toNatClampNeg 1 = z := ⟨_, rfl⟩
      skip
      rw [er12] at hP hD
      have hP : va_P D vwCl ((a0, .inr (4, [.ref a1, .ref a2, .ref a3, .ref a4, .ref a5])) :: (a1, .inr (3, [.ref a6, .int tn])) :: (a6, .inl (y 1, 120, .inl tf)) :: (a2, soF a7 a8 r) :: (a7, soV y r) :: (a8, soW y r) :: (a3, soF a9 a10 rc) :: (a9, soV y rc) :: (a10, soW y rc) :: (a4, .inr (0, [.ref a11, .int qz, .int qn])) :: (a11, .inl (y 3, 14, .inr (.inr (.inr (.inr (gRf ga hq)))))) :: (a5, .inr (1, [.ref a12, .ref a13])) :: (a12, .inl (y 3, 2, .inr (.inr (.inr (.inr (va_up (gRf gb lq) (p0.toNatClampNeg) (some q7))))))) :: (a13, .inl (y 2, 2, .inl r12)) :: (q7, soF u8.1 u8.2 r) :: (u8.1, soV y r) :: (u8.2, soW y r) :: T6) H := hP
      have hD : va_D A ((a0, .inr (4, [.ref a1, .ref a2, .ref a3, .ref a4, .ref a5])) :: (a1, .inr (3, [.ref a6, .int tn])) :: (a6, .inl (y 1, 120, .inl tf)) :: (a2, soF a7 a8 r) :: (a7, soV y r) :: (a8, soW y r) :: (a3, soF a9 a10 rc) :: (a9, soV y rc) :: (a10, soW y rc) :: (a4, .inr (0, [.ref a11, .int qz, .int qn])) :: (a11, .inl (y 3, 14, .inr (.inr (.inr (.inr (gRf ga hq)))))) :: (a5, .inr (1, [.ref a12, .ref a13])) :: (a12, .inl (y 3, 2, .inr (.inr (.inr (.inr (va_up (gRf gb lq) (p0.toNatClampNeg) (some q7))))))) :: (a13, .inl (y 2, 2, .inl r12)) :: (q7, soF u8.1 u8.2 r) :: (u8.1, soV y r) :: (u8.2, soW y r) :: T6) := hD
      obtain ⟨T13, hT13⟩ : ∃ T : va_W, gTail y ga (gSet gb (p0.toNatClampNeg) (q7, u8.1, u8.2)) hq (gPut lq (p0.toNatClampNeg) r) = T := ⟨_, rfl⟩
      have hp := gT_inL' hT13 hT6 (vp_lt (has_ix h1 (by assumption))) [(a0, .inr (4, [.ref a1, .ref a2, .ref a3, .ref a4, .ref a5])), (a1, .inr (3, [.ref a6, .int tn])), (a6, .inl (y 1, 120, .inl tf)), (a2, soF a7 a8 r), (a7, soV y r), (a8, soW y r), (a3, soF a9 a10 rc), (a9, soV y rc), (a10, soW y rc), (a4, .inr (0, [.ref a11, .int qz, .int qn])), (a11, .inl (y 3, 14, .inr (.inr (.inr (.inr (gRf ga hq)))))), (a5, .inr (1, [.ref a12, .ref a13])), (a12, .inl (y 3, 2, .inr (.inr (.inr (.inr (va_up (gRf gb lq) (p0.toNatClampNeg) (some q7))))))), (a13, .inl (y 2, 2, .inl r12))]
      have hP := xa_permP hp hP
      have hD := xa_permD hp hD
      have hP : va_P D vwCl ((a0, .inr (4, [.ref a1, .ref a2, .ref a3, .ref a4, .ref a5])) :: (a1, .inr (3, [.ref a6, .int tn])) :: (a6, .inl (y 1, 120, .inl tf)) :: (a2, soF a7 a8 r) :: (a7, soV y r) :: (a8, soW y r) :: (a3, soF a9 a10 rc) :: (a9, soV y rc) :: (a10, soW y rc) :: (a4, .inr (0, [.ref a11, .int qz, .int qn])) :: (a11, .inl (y 3, 14, .inr (.inr (.inr (.inr (gRf ga hq)))))) :: (a5, .inr (1, [.ref a12, .ref a13])) :: (a12, .inl (y 3, 2, .inr (.inr (.inr (.inr (va_up (gRf gb lq) (p0.toNatClampNeg) (some q7))))))) :: (a13, .inl (y 2, 2, .inl r12)) :: T13) H := hP
      have hD : va_D A ((a0, .inr (4, [.ref a1, .ref a2, .ref a3, .ref a4, .ref a5])) :: (a1, .inr (3, [.ref a6, .int tn])) :: (a6, .inl (y 1, 120, .inl tf)) :: (a2, soF a7 a8 r) :: (a7, soV y r) :: (a8, soW y r) :: (a3, soF a9 a10 rc) :: (a9, soV y rc) :: (a10, soW y rc) :: (a4, .inr (0, [.ref a11, .int qz, .int qn])) :: (a11, .inl (y 3, 14, .inr (.inr (.inr (.inr (gRf ga hq)))))) :: (a5, .inr (1, [.ref a12, .ref a13])) :: (a12, .inl (y 3, 2, .inr (.inr (.inr (.inr (va_up (gRf gb lq) (p0.toNatClampNeg) (some q7))))))) :: (a13, .inl (y 2, 2, .inl r12)) :: T13) := hD
      have hP : va_P D vwCl ((a0, .inr (4, [.ref a1, .ref a2, .ref a3, .ref a4, .ref a5])) :: (a1, .inr (3, [.ref a6, .int tn])) :: (a6, .inl (y 1, 120, .inl tf)) :: (a2, soF a7 a8 r) :: (a7, soV y r) :: (a8, soW y r) :: (a3, soF a9 a10 rc) :: (a9, soV y rc) :: (a10, soW y rc) :: (a4, .inr (0, [.ref a11, .int qz, .int qn])) :: (a11, .inl (y 3, 14, .inr (.inr (.inr (.inr (gRf ga hq)))))) :: (a5, .inr (1, [.ref a12, .ref a13])) :: (a12, .inl (y 3, 2, .inr (.inr (.inr (.inr (gRf (gSet gb (p0.toNatClampNeg) (q7, u8.1, u8.2)) (gPut lq (p0.toNatClampNeg) r))))))) :: (a13, .inl (y 2, 2, .inl r12)) :: T13) H := by rw [gRf_set]; exact hP
      have hD : va_D A ((a0, .inr (4, [.ref a1, .ref a2, .ref a3, .ref a4, .ref a5])) :: (a1, .inr (3, [.ref a6, .int tn])) :: (a6, .inl (y 1, 120, .inl tf)) :: (a2, soF a7 a8 r) :: (a7, soV y r) :: (a8, soW y r) :: (a3, soF a9 a10 rc) :: (a9, soV y rc) :: (a10, soW y rc) :: (a4, .inr (0, [.ref a11, .int qz, .int qn])) :: (a11, .inl (y 3, 14, .inr (.inr (.inr (.inr (gRf ga hq)))))) :: (a5, .inr (1, [.ref a12, .ref a13])) :: (a12, .inl (y 3, 2, .inr (.inr (.inr (.inr (gRf (gSet gb (p0.toNatClampNeg) (q7, u8.1, u8.2)) (gPut lq (p0.toNatClampNeg) r))))))) :: (a13, .inl (y 2, 2, .inl r12)) :: T13) := by rw [gRf_set]; exact hD
      have hF : f_X2_keep r lq lfl p0 = ((gPut lq (p0.toNatClampNeg) r), r12) := by
        unfold f_X2_keep; rw [h1, ← er12]; exact if_neg (by assumption)
      refine W.widen (k := 3) (n := 80) (Nat.le_of_ble_eq_true rfl) (Nat.le_of_ble_eq_true rfl) ?_
      rw [← hT13] at hP hD
      exact W.vret hx hb hr (fun t ht hW => ⟨⟨⟨(gPut lq (p0.toNatClampNeg) r), r12⟩, rfl, hF, ⟨ga, (gSet gb (p0.toNatClampNeg) (q7, u8.1, u8.2)), by rw [ht]; exact hP, hD⟩⟩, hS.F ht⟩) hS.2.2 dX2_keep_47
    · rw [gRf_some hk4]
      refine lv_ifnonnull (tgt := 30) hx hb dX2_keep_14 (by decide) ?_
      obtain ⟨T14, hT14⟩ : ∃ T : va_W, gPool y ga hq 14 ++ gPool y gb (gHole lq (p0.toNatClampNeg)) 2 = T := ⟨_, rfl⟩
      have hp := gT_outL' hT hT14 (vp_lt (has_ix h1 (by assumption))) hk4 [(a0, .inr (4, [.ref a1, .ref a2, .ref a3, .ref a4, .ref a5])), (a1, .inr (3, [.ref a6, .int tn])), (a6, .inl (y 1, 120, .inl tf)), (a2, soF a7 a8 r), (a7, soV y r), (a8, soW y r), (a3, soF a9 a10 rc), (a9, soV y rc), (a10, soW y rc), (a4, .inr (0, [.ref a11, .int qz, .int qn])), (a11, .inl (y 3, 14, .inr (.inr (.inr (.inr (gRf ga hq)))))), (a5, .inr (1, [.ref a12, .ref a13])), (a12, .inl (y 3, 2, .inr (.inr (.inr (.inr (gRf gb lq)))))), (a13, .inl (y 2, 2, .inl lfl))]
      have hP := xa_permP hp hP
      have hD := xa_permD hp hD
      have hP : va_P D vwCl ((a0, .inr (4, [.ref a1, .ref a2, .ref a3, .ref a4, .ref a5])) :: (a1, .inr (3, [.ref a6, .int tn])) :: (a6, .inl (y 1, 120, .inl tf)) :: (a2, soF a7 a8 r) :: (a7, soV y r) :: (a8, soW y r) :: (a3, soF a9 a10 rc) :: (a9, soV y rc) :: (a10, soW y rc) :: (a4, .inr (0, [.ref a11, .int qz, .int qn])) :: (a11, .inl (y 3, 14, .inr (.inr (.inr (.inr (gRf ga hq)))))) :: (a5, .inr (1, [.ref a12, .ref a13])) :: (a12, .inl (y 3, 2, .inr (.inr (.inr (.inr (gRf gb lq)))))) :: (a13, .inl (y 2, 2, .inl lfl)) :: ((gb (p0.toNatClampNeg)).1, soF (gb (p0.toNatClampNeg)).2.1 (gb (p0.toNatClampNeg)).2.2 s5) :: ((gb (p0.toNatClampNeg)).2.1, soV y s5) :: ((gb (p0.toNatClampNeg)).2.2, soW y s5) :: T14) s.heap := hP
      have hD : va_D A ((a0, .inr (4, [.ref a1, .ref a2, .ref a3, .ref a4, .ref a5])) :: (a1, .inr (3, [.ref a6, .int tn])) :: (a6, .inl (y 1, 120, .inl tf)) :: (a2, soF a7 a8 r) :: (a7, soV y r) :: (a8, soW y r) :: (a3, soF a9 a10 rc) :: (a9, soV y rc) :: (a10, soW y rc) :: (a4, .inr (0, [.ref a11, .int qz, .int qn])) :: (a11, .inl (y 3, 14, .inr (.inr (.inr (.inr (gRf ga hq)))))) :: (a5, .inr (1, [.ref a12, .ref a13])) :: (a12, .inl (y 3, 2, .inr (.inr (.inr (.inr (gRf gb lq)))))) :: (a13, .inl (y 2, 2, .inl lfl)) :: ((gb (p0.toNatClampNeg)).1, soF (gb (p0.toNatClampNeg)).2.1 (gb (p0.toNatClampNeg)).2.2 s5) :: ((gb (p0.toNatClampNeg)).2.1, soV y s5) :: ((gb (p0.toNatClampNeg)).2.2, soW y s5) :: T14) := hD
      refine lv_aload_n hx hb dX2_keep_30 rfl (lv_at hl 0 rfl) ?_
      refine va_get (D := D) (ci := 1) (v := .ref a12) (C := RX2) (T := TX2) (N := 2) hx hb hts hi2 hown hE.1 hP 11 rfl rfl 0 (by decide) w_0 (fun _ h9 => h9) rfl dX2_keep_31 ?_
      refine lv_iload_n hx hb dX2_keep_34 rfl (lv_at hl 1 rfl) ?_
      refine va_aldq hx hb hE.1 hP 12 3 rfl rfl (has_ix h1 (by assumption)) dX2_keep_35 ?_
      rw [gRf_some hk4]
      refine W.eq (g2 := F0 m 36 ls (.ref (gb (p0.toNatClampNeg)).1 :: [])) rfl ?_
      refine lv_aload_n hx hb dX2_keep_36 rfl (lv_at hl 2 rfl) ?_
      refine xw_callv (va_runV (As := [.ref a2]) (rest := []) ⟨hx, hb, hml, hown, hts⟩ (c_X3_copyFrom l D y (gb (p0.toNatClampNeg)).1 (gb (p0.toNatClampNeg)).2.1 (gb (p0.toNatClampNeg)).2.2 a2 a7 a8 s.heap.size s5 r ho) (cwV 1 hts gX2_keep_X3_copyFrom rfl rfl rfl hd_X3_copyFrom ⟨Nat.le_of_ble_eq_true rfl, Nat.le_of_ble_eq_true rfl⟩) (gV (q := (RX3, TX3, 15)) hE (hP.sub [14, 15, 16, 3, 4, 5] rfl) (hD.sub [14, 15, 16, 3, 4, 5] (by decide) rfl) 0 rfl rfl) rfl rfl hl.1 rfl (lv_room (Nat.le_of_ble_eq_true rfl)) dX2_keep_37 ⟨Nat.le_of_ble_eq_true rfl, Nat.le_of_ble_eq_true rfl⟩) hP hD hS hA [14, 15, 16, 3, 4, 5] rfl (by decide) (fun _ => rfl) (fun u16 H locs h15 hP hD hS => ?_)
      obtain rfl : r = u16 := h15
      have hP : va_P D vwCl ((a0, .inr (4, [.ref a1, .ref a2, .ref a3, .ref a4, .ref a5])) :: (a1, .inr (3, [.ref a6, .int tn])) :: (a6, .inl (y 1, 120, .inl tf)) :: (a2, soF a7 a8 r) :: (a7, soV y r) :: (a8, soW y r) :: (a3, soF a9 a10 rc) :: (a9, soV y rc) :: (a10, soW y rc) :: (a4, .inr (0, [.ref a11, .int qz, .int qn])) :: (a11, .inl (y 3, 14, .inr (.inr (.inr (.inr (gRf ga hq)))))) :: (a5, .inr (1, [.ref a12, .ref a13])) :: (a12, .inl (y 3, 2, .inr (.inr (.inr (.inr (gRf gb lq)))))) :: (a13, .inl (y 2, 2, .inl lfl)) :: ((gb (p0.toNatClampNeg)).1, soF (gb (p0.toNatClampNeg)).2.1 (gb (p0.toNatClampNeg)).2.2 r) :: ((gb (p0.toNatClampNeg)).2.1, soV y r) :: ((gb (p0.toNatClampNeg)).2.2, soW y r) :: T14) H := hP
      have hD : va_D A ((a0, .inr (4, [.ref a1, .ref a2, .ref a3, .ref a4, .ref a5])) :: (a1, .inr (3, [.ref a6, .int tn])) :: (a6, .inl (y 1, 120, .inl tf)) :: (a2, soF a7 a8 r) :: (a7, soV y r) :: (a8, soW y r) :: (a3, soF a9 a10 rc) :: (a9, soV y rc) :: (a10, soW y rc) :: (a4, .inr (0, [.ref a11, .int qz, .int qn])) :: (a11, .inl (y 3, 14, .inr (.inr (.inr (.inr (gRf ga hq)))))) :: (a5, .inr (1, [.ref a12, .ref a13])) :: (a12, .inl (y 3, 2, .inr (.inr (.inr (.inr (gRf gb lq)))))) :: (a13, .inl (y 2, 2, .inl lfl)) :: ((gb (p0.toNatClampNeg)).1, soF (gb (p0.toNatClampNeg)).2.1 (gb (p0.toNatClampNeg)).2.2 r) :: ((gb (p0.toNatClampNeg)).2.1, soV y r) :: ((gb (p0.toNatClampNeg)).2.2, soW y r) :: T14) := hD
      refine lv_aload_n hx hb dX2_keep_40 rfl (lv_at hl 0 rfl) ?_
      refine va_get (D := D) (ci := 1) (v := .ref a13) (C := RX2) (T := TX2) (N := 2) hx hb hts hi2 hown hE.1 hP 11 rfl rfl 1 (by decide) w_7 (fun _ h9 => h9) rfl dX2_keep_41 ?_
      refine lv_iload_n hx hb dX2_keep_44 rfl (lv_at hl 1 rfl) ?_
      refine lv_iconst (v := 1) hx hb dX2_keep_45 (by decide) ?_
      refine xa_zast (k := p0.toNatClampNeg) (x' := 1) hx hb hE.1 hP hD hS 13 2 rfl rfl (has_ix h1 (by assumption)) rfl rfl dX2_keep_46 (fun H locs hP hD hS => ?_)
      obtain ⟨r17, er17⟩ : ∃ z : Nat → Int32, upd lfl p0.toNatClampNeg 1 = z := ⟨_, rfl⟩
      skip
      rw [er17] at hP hD
      have hP : va_P D vwCl ((a0, .inr (4, [.ref a1, .ref a2, .ref a3, .ref a4, .ref a5])) :: (a1, .inr (3, [.ref a6, .int tn])) :: (a6, .inl (y 1, 120, .inl tf)) :: (a2, soF a7 a8 r) :: (a7, soV y r) :: (a8, soW y r) :: (a3, soF a9 a10 rc) :: (a9, soV y rc) :: (a10, soW y rc) :: (a4, .inr (0, [.ref a11, .int qz, .int qn])) :: (a11, .inl (y 3, 14, .inr (.inr (.inr (.inr (gRf ga hq)))))) :: (a5, .inr (1, [.ref a12, .ref a13])) :: (a12, .inl (y 3, 2, .inr (.inr (.inr (.inr (gRf gb lq)))))) :: (a13, .inl (y 2, 2, .inl r17)) :: ((gb (p0.toNatClampNeg)).1, soF (gb (p0.toNatClampNeg)).2.1 (gb (p0.toNatClampNeg)).2.2 r) :: ((gb (p0.toNatClampNeg)).2.1, soV y r) :: ((gb (p0.toNatClampNeg)).2.2, soW y r) :: T14) H := hP
      have hD : va_D A ((a0, .inr (4, [.ref a1, .ref a2, .ref a3, .ref a4, .ref a5])) :: (a1, .inr (3, [.ref a6, .int tn])) :: (a6, .inl (y 1, 120, .inl tf)) :: (a2, soF a7 a8 r) :: (a7, soV y r) :: (a8, soW y r) :: (a3, soF a9 a10 rc) :: (a9, soV y rc) :: (a10, soW y rc) :: (a4, .inr (0, [.ref a11, .int qz, .int qn])) :: (a11, .inl (y 3, 14, .inr (.inr (.inr (.inr (gRf ga hq)))))) :: (a5, .inr (1, [.ref a12, .ref a13])) :: (a12, .inl (y 3, 2, .inr (.inr (.inr (.inr (gRf gb lq)))))) :: (a13, .inl (y 2, 2, .inl r17)) :: ((gb (p0.toNatClampNeg)).1, soF (gb (p0.toNatClampNeg)).2.1 (gb (p0.toNatClampNeg)).2.2 r) :: ((gb (p0.toNatClampNeg)).2.1, soV y r) :: ((gb (p0.toNatClampNeg)).2.2, soW y r) :: T14) := hD
      obtain ⟨T18, hT18⟩ : ∃ T : va_W, gTail y ga (gSet gb (p0.toNatClampNeg) ((gb (p0.toNatClampNeg)).1, (gb (p0.toNatClampNeg)).2.1, (gb (p0.toNatClampNeg)).2.2)) hq (gPut lq (p0.toNatClampNeg) r) = T := ⟨_, rfl⟩
      have hp := gT_inL' hT18 hT14 (vp_lt (has_ix h1 (by assumption))) [(a0, .inr (4, [.ref a1, .ref a2, .ref a3, .ref a4, .ref a5])), (a1, .inr (3, [.ref a6, .int tn])), (a6, .inl (y 1, 120, .inl tf)), (a2, soF a7 a8 r), (a7, soV y r), (a8, soW y r), (a3, soF a9 a10 rc), (a9, soV y rc), (a10, soW y rc), (a4, .inr (0, [.ref a11, .int qz, .int qn])), (a11, .inl (y 3, 14, .inr (.inr (.inr (.inr (gRf ga hq)))))), (a5, .inr (1, [.ref a12, .ref a13])), (a12, .inl (y 3, 2, .inr (.inr (.inr (.inr (gRf gb lq)))))), (a13, .inl (y 2, 2, .inl r17))]
      have hP := xa_permP hp hP
      have hD := xa_permD hp hD
      have hP : va_P D vwCl ((a0, .inr (4, [.ref a1, .ref a2, .ref a3, .ref a4, .ref a5])) :: (a1, .inr (3, [.ref a6, .int tn])) :: (a6, .inl (y 1, 120, .inl tf)) :: (a2, soF a7 a8 r) :: (a7, soV y r) :: (a8, soW y r) :: (a3, soF a9 a10 rc) :: (a9, soV y rc) :: (a10, soW y rc) :: (a4, .inr (0, [.ref a11, .int qz, .int qn])) :: (a11, .inl (y 3, 14, .inr (.inr (.inr (.inr (gRf ga hq)))))) :: (a5, .inr (1, [.ref a12, .ref a13])) :: (a12, .inl (y 3, 2, .inr (.inr (.inr (.inr (gRf gb lq)))))) :: (a13, .inl (y 2, 2, .inl r17)) :: T18) H := hP
      have hD : va_D A ((a0, .inr (4, [.ref a1, .ref a2, .ref a3, .ref a4, .ref a5])) :: (a1, .inr (3, [.ref a6, .int tn])) :: (a6, .inl (y 1, 120, .inl tf)) :: (a2, soF a7 a8 r) :: (a7, soV y r) :: (a8, soW y r) :: (a3, soF a9 a10 rc) :: (a9, soV y rc) :: (a10, soW y rc) :: (a4, .inr (0, [.ref a11, .int qz, .int qn])) :: (a11, .inl (y 3, 14, .inr (.inr (.inr (.inr (gRf ga hq)))))) :: (a5, .inr (1, [.ref a12, .ref a13])) :: (a12, .inl (y 3, 2, .inr (.inr (.inr (.inr (gRf gb lq)))))) :: (a13, .inl (y 2, 2, .inl r17)) :: T18) := hD
      have hP : va_P D vwCl ((a0, .inr (4, [.ref a1, .ref a2, .ref a3, .ref a4, .ref a5])) :: (a1, .inr (3, [.ref a6, .int tn])) :: (a6, .inl (y 1, 120, .inl tf)) :: (a2, soF a7 a8 r) :: (a7, soV y r) :: (a8, soW y r) :: (a3, soF a9 a10 rc) :: (a9, soV y rc) :: (a10, soW y rc) :: (a4, .inr (0, [.ref a11, .int qz, .int qn])) :: (a11, .inl (y 3, 14, .inr (.inr (.inr (.inr (gRf ga hq)))))) :: (a5, .inr (1, [.ref a12, .ref a13])) :: (a12, .inl (y 3, 2, .inr (.inr (.inr (.inr (gRf (gSet gb (p0.toNatClampNeg) ((gb (p0.toNatClampNeg)).1, (gb (p0.toNatClampNeg)).2.1, (gb (p0.toNatClampNeg)).2.2)) (gPut lq (p0.toNatClampNeg) r))))))) :: (a13, .inl (y 2, 2, .inl r17)) :: T18) H := by rw [gRf_set, gRf_self (gRf_some hk4)]; exact hP
      have hD : va_D A ((a0, .inr (4, [.ref a1, .ref a2, .ref a3, .ref a4, .ref a5])) :: (a1, .inr (3, [.ref a6, .int tn])) :: (a6, .inl (y 1, 120, .inl tf)) :: (a2, soF a7 a8 r) :: (a7, soV y r) :: (a8, soW y r) :: (a3, soF a9 a10 rc) :: (a9, soV y rc) :: (a10, soW y rc) :: (a4, .inr (0, [.ref a11, .int qz, .int qn])) :: (a11, .inl (y 3, 14, .inr (.inr (.inr (.inr (gRf ga hq)))))) :: (a5, .inr (1, [.ref a12, .ref a13])) :: (a12, .inl (y 3, 2, .inr (.inr (.inr (.inr (gRf (gSet gb (p0.toNatClampNeg) ((gb (p0.toNatClampNeg)).1, (gb (p0.toNatClampNeg)).2.1, (gb (p0.toNatClampNeg)).2.2)) (gPut lq (p0.toNatClampNeg) r))))))) :: (a13, .inl (y 2, 2, .inl r17)) :: T18) := by rw [gRf_set, gRf_self (gRf_some hk4)]; exact hD
      have hF : f_X2_keep r lq lfl p0 = ((gPut lq (p0.toNatClampNeg) r), r17) := by
        unfold f_X2_keep; rw [h1, ← er17]; exact if_neg (by assumption)
      refine W.widen (k := 3) (n := 80) (Nat.le_of_ble_eq_true rfl) (Nat.le_of_ble_eq_true rfl) ?_
      rw [← hT18] at hP hD
      exact W.vret hx hb hr (fun t ht hW => ⟨⟨⟨(gPut lq (p0.toNatClampNeg) r), r17⟩, rfl, hF, ⟨ga, (gSet gb (p0.toNatClampNeg) ((gb (p0.toNatClampNeg)).1, (gb (p0.toNatClampNeg)).2.1, (gb (p0.toNatClampNeg)).2.2)), by rw [ht]; exact hP, hD⟩⟩, hS.F ht⟩) hS.2.2 dX2_keep_47
  · skip
    have hF : f_X2_keep r lq lfl p0 = (lq, lfl) := by
      unfold f_X2_keep; rw [h1]; exact if_pos (by assumption)
    refine W.widen (k := 3) (n := 80) (Nat.le_of_ble_eq_true rfl) (Nat.le_of_ble_eq_true rfl) ?_
    rw [← hT] at hP hD
    exact W.vret hx hb hr (fun t ht hW => ⟨⟨⟨lq, lfl⟩, rfl, hF, ⟨ga, gb, by rw [ht]; exact hP, hD⟩⟩, hS.F ht⟩) hS.2.2 dX2_keep_7

def f_X2_bringBack (r : gR) (lq : Nat → Option gR) (lfl : Nat → Int32) (p0 : Int32) : Int32 × gR :=
  if f_X2_has p0 = 0 then (0, r) else if lfl p0.toNatClampNeg = 0 then (0, r) else match lq p0.toNatClampNeg with
    | none => (0, r)
    | some s => (1, s)
theorem hd_X2_bringBack : yX2_bringBack.cls = RX2 ∧ yX2_bringBack.cls ≠ "java/lang/invoke/MethodHandle" ∧ yX2_bringBack.cls ≠ "java/lang/invoke/VarHandle" ∧ (parseMethodDescriptor yX2_bringBack.desc).map (fun d => d.parameters.length) = some 2 := by decide +kernel
set_option maxHeartbeats 4000000 in
set_option maxRecDepth 100000 in
theorem c_X2_bringBack (l : Launch) (D : va_G) (y : Nat → ClassId) (a0 a1 a2 a3 a4 a5 a6 a7 a8 a9 a10 a11 a12 a13 : Nat) (ga gb : Nat → Nat × Nat × Nat) (zh : Nat) (tn : Int32) (tf : Nat → Int32) (r : gR) (rc : gR) (qz : Int32) (qn : Int32) (hq : Nat → Option gR) (lq : Nat → Option gR) (lfl : Nat → Int32) (p0 : Int32) (hoq : okQ lq) : Met l yX2_bringBack wsX2_bringBack ({ frames := 2, cells := 0, slots := 0, locals := 39 }) (gP D y [.ref a5, .int p0, .ref a2] zh ((a0, .inr (4, [.ref a1, .ref a2, .ref a3, .ref a4, .ref a5])) :: (a1, .inr (3, [.ref a6, .int tn])) :: (a6, .inl (y 1, 120, .inl tf)) :: (a2, soF a7 a8 r) :: (a7, soV y r) :: (a8, soW y r) :: (a3, soF a9 a10 rc) :: (a9, soV y rc) :: (a10, soW y rc) :: (a4, .inr (0, [.ref a11, .int qz, .int qn])) :: (a11, .inl (y 3, 14, .inr (.inr (.inr (.inr (gRf ga hq)))))) :: (a5, .inr (1, [.ref a12, .ref a13])) :: (a12, .inl (y 3, 2, .inr (.inr (.inr (.inr (gRf gb lq)))))) :: (a13, .inl (y 2, 2, .inl lfl)) :: gTail y ga gb hq lq)) (va_Qi (fun (v : Int32) (u : gR) => f_X2_bringBack r lq lfl p0 = (v, u)) (fun (u : gR) t => ∃ (g1 g2 : Nat → Nat × Nat × Nat), va_P D vwCl ((a0, .inr (4, [.ref a1, .ref a2, .ref a3, .ref a4, .ref a5])) :: (a1, .inr (3, [.ref a6, .int tn])) :: (a6, .inl (y 1, 120, .inl tf)) :: (a2, soF a7 a8 u) :: (a7, soV y u) :: (a8, soW y u) :: (a3, soF a9 a10 rc) :: (a9, soV y rc) :: (a10, soW y rc) :: (a4, .inr (0, [.ref a11, .int qz, .int qn])) :: (a11, .inl (y 3, 14, .inr (.inr (.inr (.inr (gRf g1 hq)))))) :: (a5, .inr (1, [.ref a12, .ref a13])) :: (a12, .inl (y 3, 2, .inr (.inr (.inr (.inr (gRf g2 lq)))))) :: (a13, .inl (y 2, 2, .inl lfl)) :: gTail y g1 g2 hq lq) t.heap ∧ va_D (va_A ((a0, .inr (4, [.ref a1, .ref a2, .ref a3, .ref a4, .ref a5])) :: (a1, .inr (3, [.ref a6, .int tn])) :: (a6, .inl (y 1, 120, .inl tf)) :: (a2, soF a7 a8 r) :: (a7, soV y r) :: (a8, soW y r) :: (a3, soF a9 a10 rc) :: (a9, soV y rc) :: (a10, soW y rc) :: (a4, .inr (0, [.ref a11, .int qz, .int qn])) :: (a11, .inl (y 3, 14, .inr (.inr (.inr (.inr (gRf ga hq)))))) :: (a5, .inr (1, [.ref a12, .ref a13])) :: (a12, .inl (y 3, 2, .inr (.inr (.inr (.inr (gRf gb lq)))))) :: (a13, .inl (y 2, 2, .inl lfl)) :: gTail y ga gb hq lq) zh) ((a0, .inr (4, [.ref a1, .ref a2, .ref a3, .ref a4, .ref a5])) :: (a1, .inr (3, [.ref a6, .int tn])) :: (a6, .inl (y 1, 120, .inl tf)) :: (a2, soF a7 a8 u) :: (a7, soV y u) :: (a8, soW y u) :: (a3, soF a9 a10 rc) :: (a9, soV y rc) :: (a10, soW y rc) :: (a4, .inr (0, [.ref a11, .int qz, .int qn])) :: (a11, .inl (y 3, 14, .inr (.inr (.inr (.inr (gRf g1 hq)))))) :: (a5, .inr (1, [.ref a12, .ref a13])) :: (a12, .inl (y 3, 2, .inr (.inr (.inr (.inr (gRf g2 lq)))))) :: (a13, .inl (y 2, 2, .inl lfl)) :: gTail y g1 g2 hq lq)) (va_A ((a0, .inr (4, [.ref a1, .ref a2, .ref a3, .ref a4, .ref a5])) :: (a1, .inr (3, [.ref a6, .int tn])) :: (a6, .inl (y 1, 120, .inl tf)) :: (a2, soF a7 a8 r) :: (a7, soV y r) :: (a8, soW y r) :: (a3, soF a9 a10 rc) :: (a9, soV y rc) :: (a10, soW y rc) :: (a4, .inr (0, [.ref a11, .int qz, .int qn])) :: (a11, .inl (y 3, 14, .inr (.inr (.inr (.inr (gRf ga hq)))))) :: (a5, .inr (1, [.ref a12, .ref a13])) :: (a12, .inl (y 3, 2, .inr (.inr (.inr (.inr (gRf gb lq)))))) :: (a13, .inl (y 2, 2, .inl lfl)) :: gTail y ga gb hq lq) zh)) 0 0 (va_A ((a0, .inr (4, [.ref a1, .ref a2, .ref a3, .ref a4, .ref a5])) :: (a1, .inr (3, [.ref a6, .int tn])) :: (a6, .inl (y 1, 120, .inl tf)) :: (a2, soF a7 a8 r) :: (a7, soV y r) :: (a8, soW y r) :: (a3, soF a9 a10 rc) :: (a9, soV y rc) :: (a10, soW y rc) :: (a4, .inr (0, [.ref a11, .int qz, .int qn])) :: (a11, .inl (y 3, 14, .inr (.inr (.inr (.inr (gRf ga hq)))))) :: (a5, .inr (1, [.ref a12, .ref a13])) :: (a12, .inl (y 3, 2, .inr (.inr (.inr (.inr (gRf gb lq)))))) :: (a13, .inl (y 2, 2, .inl lfl)) :: gTail y ga gb hq lq) zh) := by
  refine Met.ofW (cc := cX2_bringBack) (maxL := 3) (ret := (some .boolean)) (by decide) rfl ?_
  intro p e s m args below meth c s₁ B hml hv
  obtain ⟨rfl, hsz, hP, hE, hD⟩ := hv
  have hx := B.exec
  have hb := B.bytes
  have hr := B.returns
  have hts := atoms_spec (ws := wsX2_bringBack) B.pre
  have hown : s.vm.findClass RX2 = some m.cls := findClass_of_methodNamed B.named
  have hlocks := B.notSynchronized
  have w_0 := hts (.fieldLink RX2 15 "GapLines$Slots" "filled" "[Z") (List.mem_cons_of_mem _ (List.mem_append_left _ (List.mem_append_left _ (List.mem_append_left _ (List.mem_of_getElem? (i := 0) rfl)))))
  have hi2 : ∀ w ∈ u_ws RX2 TX2 2, w ∈ wsX2_bringBack := fun w h => (List.mem_cons_of_mem _ (List.mem_append_left _ (List.mem_append_right _ h)))
  have w_2 := hts (.fieldLink RX2 11 "GapLines$Slots" "states" "[LGapLines$State;") (List.mem_cons_of_mem _ (List.mem_append_left _ (List.mem_append_left _ (List.mem_append_left _ (List.mem_of_getElem? (i := 1) rfl)))))
  subst hsz
  have hD := hD.self (sz := s.heap.size)
  generalize hAe : va_A ((a0, .inr (4, [.ref a1, .ref a2, .ref a3, .ref a4, .ref a5])) :: (a1, .inr (3, [.ref a6, .int tn])) :: (a6, .inl (y 1, 120, .inl tf)) :: (a2, soF a7 a8 r) :: (a7, soV y r) :: (a8, soW y r) :: (a3, soF a9 a10 rc) :: (a9, soV y rc) :: (a10, soW y rc) :: (a4, .inr (0, [.ref a11, .int qz, .int qn])) :: (a11, .inl (y 3, 14, .inr (.inr (.inr (.inr (gRf ga hq)))))) :: (a5, .inr (1, [.ref a12, .ref a13])) :: (a12, .inl (y 3, 2, .inr (.inr (.inr (.inr (gRf gb lq)))))) :: (a13, .inl (y 2, 2, .inl lfl)) :: gTail y ga gb hq lq) s.heap.size = A at hD ⊢
  have hA : ∀ q : Nat, s.heap.size ≤ q → A q := fun q h => by rw [← hAe]; exact Or.inr h
  have hS : va_S A s.heap s.heap [] := va_S.rf
  have hl := lv_entry ([.ref a5, .int p0, .ref a2]) (n := 3) (Nat.le_of_ble_eq_true rfl)
  rw [lg_entry_eq]
  generalize (lg_sl ([.ref a5, .int p0, .ref a2]) ++ List.replicate (3 - (lg_sl ([.ref a5, .int p0, .ref a2])).length) Slot.unset).toArray = ls at hl ⊢
  have hl : lv_has ls 3 [(0, .ref a5), (1, .int p0), (2, .ref a2)] := hl
  obtain ⟨T, hT⟩ : ∃ T : va_W, gTail y ga gb hq lq = T := ⟨_, rfl⟩
  rw [hT] at hP hD
  refine lv_iload_n hx hb dX2_bringBack_0 rfl (lv_at hl 1 rfl) ?_
  refine xs_calli (va_runS (As := [.int p0]) (rest := []) ⟨hx, hb, hml, hown, hts⟩ (c_X2_has l D y s.heap.size p0) (va_cwS 1 hts gX2_bringBack_X2_has rfl rfl rfl hd_X2_has ⟨Nat.le_of_ble_eq_true rfl, Nat.le_of_ble_eq_true rfl⟩) (gS hE (hP.sub [] rfl) (hD.sub [] (by decide) rfl)) rfl rfl hl.1 rfl (lv_room (Nat.le_of_ble_eq_true rfl)) dX2_bringBack_1 ⟨Nat.le_of_ble_eq_true rfl, Nat.le_of_ble_eq_true rfl⟩) (fun v2 h1 => ?_)
  skip
  refine lv_if_eq (tgt := 25) hx hb dX2_bringBack_4 (by decide) (fun c_3 => ?_) (fun c_3 => ?_)
  · skip
    refine lv_iconst (v := 0) hx hb dX2_bringBack_25 (by decide) ?_
    have hF : f_X2_bringBack r lq lfl p0 = (0, r) := by
      unfold f_X2_bringBack; rw [h1]
      first | exact if_pos (by assumption) | (rw [if_neg (by assumption)]; exact if_pos (by assumption))
    rw [← hT] at hP hD
    exact W.zret (v := 0) hx hb hr rfl (fun t ht hW => ⟨⟨0, r, rfl, hF, ⟨ga, gb, by rw [ht]; exact hP, hD⟩⟩, hS.F ht⟩) hS.2.2 dX2_bringBack_26
  · skip
    refine lv_aload_n hx hb dX2_bringBack_7 rfl (lv_at hl 0 rfl) ?_
    refine va_get (D := D) (ci := 1) (v := .ref a13) (C := RX2) (T := TX2) (N := 2) hx hb hts hi2 hown hE.1 hP 11 rfl rfl 1 (by decide) w_0 (fun _ h9 => h9) rfl dX2_bringBack_8 ?_
    refine lv_iload_n hx hb dX2_bringBack_11 rfl (lv_at hl 1 rfl) ?_
    refine xa_zald (k := p0.toNatClampNeg) (v := lfl p0.toNatClampNeg) hx hb hE.1 hP 13 2 rfl rfl (has_ix h1 (by assumption)) rfl rfl dX2_bringBack_12 ?_
    refine lv_if_eq (tgt := 25) hx hb dX2_bringBack_13 (by decide) (fun c_4 => ?_) (fun c_4 => ?_)
    · skip
      refine lv_iconst (v := 0) hx hb dX2_bringBack_25 (by decide) ?_
      have hF : f_X2_bringBack r lq lfl p0 = (0, r) := by
        unfold f_X2_bringBack; rw [h1]
        first | exact if_pos (by assumption) | (rw [if_neg (by assumption)]; exact if_pos (by assumption))
      rw [← hT] at hP hD
      exact W.zret (v := 0) hx hb hr rfl (fun t ht hW => ⟨⟨0, r, rfl, hF, ⟨ga, gb, by rw [ht]; exact hP, hD⟩⟩, hS.F ht⟩) hS.2.2 dX2_bringBack_26
    · skip
      refine lv_aload_n hx hb dX2_bringBack_16 rfl (lv_at hl 0 rfl) ?_
      refine va_get (D := D) (ci := 1) (v := .ref a12) (C := RX2) (T := TX2) (N := 2) hx hb hts hi2 hown hE.1 hP 11 rfl rfl 0 (by decide) w_2 (fun _ h9 => h9) rfl dX2_bringBack_17 ?_
      refine lv_iload_n hx hb dX2_bringBack_20 rfl (lv_at hl 1 rfl) ?_
      refine va_aldq hx hb hE.1 hP 12 3 rfl rfl (has_ix h1 (by assumption)) dX2_bringBack_21 ?_
      rcases hk5 : lq (p0.toNatClampNeg) with _ | s6
      · rw [gRf_none hk5]
        refine lv_ifnonnullN hx hb dX2_bringBack_22 ?_
        obtain ⟨T7, hT7⟩ : ∃ T : va_W, gPool y ga hq 14 ++ gPool y gb (gHole lq (p0.toNatClampNeg)) 2 = T := ⟨_, rfl⟩
        have hTT : T = T7 := by rw [← hT, ← hT7, gHole_none hk5, gTail]
        rw [hTT] at hP hD
        refine lv_iconst (v := 0) hx hb dX2_bringBack_25 (by decide) ?_
        rw [← hTT] at hP hD
        have hF : f_X2_bringBack r lq lfl p0 = (0, r) := by
          unfold f_X2_bringBack; rw [h1]
          rw [if_neg (by assumption), if_neg (by assumption), hk5]
        rw [← hT] at hP hD
        exact W.zret (v := 0) hx hb hr rfl (fun t ht hW => ⟨⟨0, r, rfl, hF, ⟨ga, gb, by rw [ht]; exact hP, hD⟩⟩, hS.F ht⟩) hS.2.2 dX2_bringBack_26
      · rw [gRf_some hk5]
        refine lv_ifnonnull (tgt := 27) hx hb dX2_bringBack_22 (by decide) ?_
        obtain ⟨T8, hT8⟩ : ∃ T : va_W, gPool y ga hq 14 ++ gPool y gb (gHole lq (p0.toNatClampNeg)) 2 = T := ⟨_, rfl⟩
        have hp := gT_outL' hT hT8 (vp_lt (has_ix h1 (by assumption))) hk5 [(a0, .inr (4, [.ref a1, .ref a2, .ref a3, .ref a4, .ref a5])), (a1, .inr (3, [.ref a6, .int tn])), (a6, .inl (y 1, 120, .inl tf)), (a2, soF a7 a8 r), (a7, soV y r), (a8, soW y r), (a3, soF a9 a10 rc), (a9, soV y rc), (a10, soW y rc), (a4, .inr (0, [.ref a11, .int qz, .int qn])), (a11, .inl (y 3, 14, .inr (.inr (.inr (.inr (gRf ga hq)))))), (a5, .inr (1, [.ref a12, .ref a13])), (a12, .inl (y 3, 2, .inr (.inr (.inr (.inr (gRf gb lq)))))), (a13, .inl (y 2, 2, .inl lfl))]
        have hP := xa_permP hp hP
        have hD := xa_permD hp hD
        have hP : va_P D vwCl ((a0, .inr (4, [.ref a1, .ref a2, .ref a3, .ref a4, .ref a5])) :: (a1, .inr (3, [.ref a6, .int tn])) :: (a6, .inl (y 1, 120, .inl tf)) :: (a2, soF a7 a8 r) :: (a7, soV y r) :: (a8, soW y r) :: (a3, soF a9 a10 rc) :: (a9, soV y rc) :: (a10, soW y rc) :: (a4, .inr (0, [.ref a11, .int qz, .int qn])) :: (a11, .inl (y 3, 14, .inr (.inr (.inr (.inr (gRf ga hq)))))) :: (a5, .inr (1, [.ref a12, .ref a13])) :: (a12, .inl (y 3, 2, .inr (.inr (.inr (.inr (gRf gb lq)))))) :: (a13, .inl (y 2, 2, .inl lfl)) :: ((gb (p0.toNatClampNeg)).1, soF (gb (p0.toNatClampNeg)).2.1 (gb (p0.toNatClampNeg)).2.2 s6) :: ((gb (p0.toNatClampNeg)).2.1, soV y s6) :: ((gb (p0.toNatClampNeg)).2.2, soW y s6) :: T8) s.heap := hP
        have hD : va_D A ((a0, .inr (4, [.ref a1, .ref a2, .ref a3, .ref a4, .ref a5])) :: (a1, .inr (3, [.ref a6, .int tn])) :: (a6, .inl (y 1, 120, .inl tf)) :: (a2, soF a7 a8 r) :: (a7, soV y r) :: (a8, soW y r) :: (a3, soF a9 a10 rc) :: (a9, soV y rc) :: (a10, soW y rc) :: (a4, .inr (0, [.ref a11, .int qz, .int qn])) :: (a11, .inl (y 3, 14, .inr (.inr (.inr (.inr (gRf ga hq)))))) :: (a5, .inr (1, [.ref a12, .ref a13])) :: (a12, .inl (y 3, 2, .inr (.inr (.inr (.inr (gRf gb lq)))))) :: (a13, .inl (y 2, 2, .inl lfl)) :: ((gb (p0.toNatClampNeg)).1, soF (gb (p0.toNatClampNeg)).2.1 (gb (p0.toNatClampNeg)).2.2 s6) :: ((gb (p0.toNatClampNeg)).2.1, soV y s6) :: ((gb (p0.toNatClampNeg)).2.2, soW y s6) :: T8) := hD
        refine lv_aload_n hx hb dX2_bringBack_27 rfl (lv_at hl 2 rfl) ?_
        refine lv_aload_n hx hb dX2_bringBack_28 rfl (lv_at hl 0 rfl) ?_
        refine va_get (D := D) (ci := 1) (v := .ref a12) (C := RX2) (T := TX2) (N := 2) hx hb hts hi2 hown hE.1 hP 11 rfl rfl 0 (by decide) w_2 (fun _ h9 => h9) rfl dX2_bringBack_29 ?_
        refine lv_iload_n hx hb dX2_bringBack_32 rfl (lv_at hl 1 rfl) ?_
        refine va_aldq hx hb hE.1 hP 12 3 rfl rfl (has_ix h1 (by assumption)) dX2_bringBack_33 ?_
        rw [gRf_some hk5]
        refine W.eq (g2 := F0 m 34 ls (.ref (gb (p0.toNatClampNeg)).1 :: [.ref a2])) rfl ?_
        refine xw_callv (va_runV (As := [.ref (gb (p0.toNatClampNeg)).1]) (rest := []) ⟨hx, hb, hml, hown, hts⟩ (c_X3_copyFrom l D y a2 a7 a8 (gb (p0.toNatClampNeg)).1 (gb (p0.toNatClampNeg)).2.1 (gb (p0.toNatClampNeg)).2.2 s.heap.size r s6 (hoq _ _ hk5)) (cwV 1 hts gX2_bringBack_X3_copyFrom rfl rfl rfl hd_X3_copyFrom ⟨Nat.le_of_ble_eq_true rfl, Nat.le_of_ble_eq_true rfl⟩) (gV (q := (RX3, TX3, 15)) hE (hP.sub [3, 4, 5, 14, 15, 16] rfl) (hD.sub [3, 4, 5, 14, 15, 16] (by decide) rfl) 0 rfl rfl) rfl rfl hl.1 rfl (lv_room (Nat.le_of_ble_eq_true rfl)) dX2_bringBack_34 ⟨Nat.le_of_ble_eq_true rfl, Nat.le_of_ble_eq_true rfl⟩) hP hD hS hA [3, 4, 5, 14, 15, 16] rfl (by decide) (fun _ => rfl) (fun u10 H locs h9 hP hD hS => ?_)
        obtain rfl : s6 = u10 := h9
        have hP : va_P D vwCl ((a0, .inr (4, [.ref a1, .ref a2, .ref a3, .ref a4, .ref a5])) :: (a1, .inr (3, [.ref a6, .int tn])) :: (a6, .inl (y 1, 120, .inl tf)) :: (a2, soF a7 a8 s6) :: (a7, soV y s6) :: (a8, soW y s6) :: (a3, soF a9 a10 rc) :: (a9, soV y rc) :: (a10, soW y rc) :: (a4, .inr (0, [.ref a11, .int qz, .int qn])) :: (a11, .inl (y 3, 14, .inr (.inr (.inr (.inr (gRf ga hq)))))) :: (a5, .inr (1, [.ref a12, .ref a13])) :: (a12, .inl (y 3, 2, .inr (.inr (.inr (.inr (gRf gb lq)))))) :: (a13, .inl (y 2, 2, .inl lfl)) :: ((gb (p0.toNatClampNeg)).1, soF (gb (p0.toNatClampNeg)).2.1 (gb (p0.toNatClampNeg)).2.2 s6) :: ((gb (p0.toNatClampNeg)).2.1, soV y s6) :: ((gb (p0.toNatClampNeg)).2.2, soW y s6) :: T8) H := hP
        have hD : va_D A ((a0, .inr (4, [.ref a1, .ref a2, .ref a3, .ref a4, .ref a5])) :: (a1, .inr (3, [.ref a6, .int tn])) :: (a6, .inl (y 1, 120, .inl tf)) :: (a2, soF a7 a8 s6) :: (a7, soV y s6) :: (a8, soW y s6) :: (a3, soF a9 a10 rc) :: (a9, soV y rc) :: (a10, soW y rc) :: (a4, .inr (0, [.ref a11, .int qz, .int qn])) :: (a11, .inl (y 3, 14, .inr (.inr (.inr (.inr (gRf ga hq)))))) :: (a5, .inr (1, [.ref a12, .ref a13])) :: (a12, .inl (y 3, 2, .inr (.inr (.inr (.inr (gRf gb lq)))))) :: (a13, .inl (y 2, 2, .inl lfl)) :: ((gb (p0.toNatClampNeg)).1, soF (gb (p0.toNatClampNeg)).2.1 (gb (p0.toNatClampNeg)).2.2 s6) :: ((gb (p0.toNatClampNeg)).2.1, soV y s6) :: ((gb (p0.toNatClampNeg)).2.2, soW y s6) :: T8) := hD
        refine lv_iconst (v := 1) hx hb dX2_bringBack_37 (by decide) ?_
        have hp := (gT_outL' hT hT8 (vp_lt (has_ix h1 (by assumption))) hk5 [(a0, .inr (4, [.ref a1, .ref a2, .ref a3, .ref a4, .ref a5])), (a1, .inr (3, [.ref a6, .int tn])), (a6, .inl (y 1, 120, .inl tf)), (a2, soF a7 a8 s6), (a7, soV y s6), (a8, soW y s6), (a3, soF a9 a10 rc), (a9, soV y rc), (a10, soW y rc), (a4, .inr (0, [.ref a11, .int qz, .int qn])), (a11, .inl (y 3, 14, .inr (.inr (.inr (.inr (gRf ga hq)))))), (a5, .inr (1, [.ref a12, .ref a13])), (a12, .inl (y 3, 2, .inr (.inr (.inr (.inr (gRf gb lq)))))), (a13, .inl (y 2, 2, .inl lfl))]).symm
        have hP := xa_permP hp hP
        have hD := xa_permD hp hD
        have hP : va_P D vwCl ((a0, .inr (4, [.ref a1, .ref a2, .ref a3, .ref a4, .ref a5])) :: (a1, .inr (3, [.ref a6, .int tn])) :: (a6, .inl (y 1, 120, .inl tf)) :: (a2, soF a7 a8 s6) :: (a7, soV y s6) :: (a8, soW y s6) :: (a3, soF a9 a10 rc) :: (a9, soV y rc) :: (a10, soW y rc) :: (a4, .inr (0, [.ref a11, .int qz, .int qn])) :: (a11, .inl (y 3, 14, .inr (.inr (.inr (.inr (gRf ga hq)))))) :: (a5, .inr (1, [.ref a12, .ref a13])) :: (a12, .inl (y 3, 2, .inr (.inr (.inr (.inr (gRf gb lq)))))) :: (a13, .inl (y 2, 2, .inl lfl)) :: T) H := hP
        have hD : va_D A ((a0, .inr (4, [.ref a1, .ref a2, .ref a3, .ref a4, .ref a5])) :: (a1, .inr (3, [.ref a6, .int tn])) :: (a6, .inl (y 1, 120, .inl tf)) :: (a2, soF a7 a8 s6) :: (a7, soV y s6) :: (a8, soW y s6) :: (a3, soF a9 a10 rc) :: (a9, soV y rc) :: (a10, soW y rc) :: (a4, .inr (0, [.ref a11, .int qz, .int qn])) :: (a11, .inl (y 3, 14, .inr (.inr (.inr (.inr (gRf ga hq)))))) :: (a5, .inr (1, [.ref a12, .ref a13])) :: (a12, .inl (y 3, 2, .inr (.inr (.inr (.inr (gRf gb lq)))))) :: (a13, .inl (y 2, 2, .inl lfl)) :: T) := hD
        have hF : f_X2_bringBack r lq lfl p0 = (1, s6) := by
          unfold f_X2_bringBack; rw [h1]
          rw [if_neg (by assumption), if_neg (by assumption), hk5]
        rw [← hT] at hP hD
        exact W.zret (v := 1) hx hb hr rfl (fun t ht hW => ⟨⟨1, s6, rfl, hF, ⟨ga, gb, by rw [ht]; exact hP, hD⟩⟩, hS.F ht⟩) hS.2.2 dX2_bringBack_38
