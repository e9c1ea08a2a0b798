/-! THE LAW'S OWN METHODS, 3 -/

def f_L_life (od : Nat → Int64) (r : gR) (rc : gR) (p1 : Int32) : Int32 × gR × (Nat → Int64) :=
    gLet (f_X5_life r rc p1) (fun (q1 : Nat × Int32 × gR) =>
    if q1.1 = 0 then
      (0, q1.2.2, (vp_updL od ((0 : Int32).toNatClampNeg) q1.2.1.toInt64))
    else
      (1, q1.2.2, od))
theorem f_L_life_s (od : Nat → Int64) (r : gR) (rc : gR) (p1 : Int32) : f_L_life od r rc p1 =
    (gLet (f_X5_life r rc p1) (fun (q1 : Nat × Int32 × gR) =>
    if q1.1 = 0 then
      (0, q1.2.2, (vp_updL od ((0 : Int32).toNatClampNeg) q1.2.1.toInt64))
    else
      (1, q1.2.2, od))) := rfl
theorem hd_L_life : yL_life.cls ≠ "java/lang/invoke/MethodHandle" ∧ yL_life.cls ≠ "java/lang/invoke/VarHandle" ∧ (parseMethodDescriptor yL_life.desc).map (fun d => d.parameters.length) = some 3 := by decide +kernel
set_option maxHeartbeats 4000000 in
set_option maxRecDepth 100000 in
theorem c_L_life (l : Launch) (hst : l.stackTraces = false) (D : va_G) (y : Nat → ClassId) (a0 a1 a2 a3 a4 a5 a6 a7 a8 a9 a10 : Nat) (zh : Nat) (od : Nat → Int64) (r : gR) (rc : gR) (p1 : Int32) (ho : okC r) : Met l yL_life wsL_life ({ frames := 8, cells := 2, slots := 12, locals := 124 }) (lP D y [.ref a1, .int p1, .ref a0] zh [(a0, .inl (y 4, 1, .inr (.inl od))), (a1, .inr (4, [.ref a2, .ref a3, .ref a4, .ref a5, .ref a6])), (a3, soF a7 a8 r), (a7, soV y r), (a8, soW y r), (a4, soF a9 a10 rc), (a9, soV y rc), (a10, soW y rc)]) (va_Qi (fun (v : Int32) (u : gR × (Nat → Int64)) => f_L_life od r rc p1 = (v, u)) (fun (u : gR × (Nat → Int64)) t => va_P D vwCl [(a0, .inl (y 4, 1, .inr (.inl u.2))), (a1, .inr (4, [.ref a2, .ref a3, .ref a4, .ref a5, .ref a6])), (a3, soF a7 a8 r), (a7, soV y r), (a8, soW y r), (a4, soF a9 a10 u.1), (a9, soV y u.1), (a10, soW y u.1)] t.heap ∧ va_D (va_A [(a0, .inl (y 4, 1, .inr (.inl od))), (a1, .inr (4, [.ref a2, .ref a3, .ref a4, .ref a5, .ref a6])), (a3, soF a7 a8 r), (a7, soV y r), (a8, soW y r), (a4, soF a9 a10 rc), (a9, soV y rc), (a10, soW y rc)] zh) [(a0, .inl (y 4, 1, .inr (.inl u.2))), (a1, .inr (4, [.ref a2, .ref a3, .ref a4, .ref a5, .ref a6])), (a3, soF a7 a8 r), (a7, soV y r), (a8, soW y r), (a4, soF a9 a10 u.1), (a9, soV y u.1), (a10, soW y u.1)]) (va_A [(a0, .inl (y 4, 1, .inr (.inl od))), (a1, .inr (4, [.ref a2, .ref a3, .ref a4, .ref a5, .ref a6])), (a3, soF a7 a8 r), (a7, soV y r), (a8, soW y r), (a4, soF a9 a10 rc), (a9, soV y rc), (a10, soW y rc)] zh)) 2 12 (va_A [(a0, .inl (y 4, 1, .inr (.inl od))), (a1, .inr (4, [.ref a2, .ref a3, .ref a4, .ref a5, .ref a6])), (a3, soF a7 a8 r), (a7, soV y r), (a8, soW y r), (a4, soF a9 a10 rc), (a9, soV y rc), (a10, soW y rc)] zh) := by
  refine xL_of (vx_ofWH (cc := cL_life) (maxL := 4) (ret := (some .int)) (hh := [(0, 9, 12, 27)]) (by decide) rfl ?_)
  intro p e s m args below meth c s₁ B hml hv
  obtain ⟨⟨⟨rfl, hsz, hP, hE, hD⟩, hXE, hXZ⟩, hLN⟩ := hv
  have hx := B.exec
  have hb := B.bytes
  have hr := B.returns
  have hts := atoms_spec (ws := wsL_life) B.pre
  have hown : s.vm.findClass RL = some m.cls := findClass_of_methodNamed B.named
  have hlocks := B.notSynchronized
  have htab := vx_table (x := yL_life) B (hts _ List.mem_cons_self)
  have w_0 := hts (.classLink RL 27 "java/lang/IndexOutOfBoundsException") (List.mem_cons_of_mem _ (List.mem_append_left _ (List.mem_append_left _ (List.mem_append_left _ (List.mem_append_left _ (List.mem_of_getElem? (i := 0) rfl))))))
  subst hsz
  have hD := hD.self (sz := s.heap.size)
  generalize hAe : va_A [(a0, .inl (y 4, 1, .inr (.inl od))), (a1, .inr (4, [.ref a2, .ref a3, .ref a4, .ref a5, .ref a6])), (a3, soF a7 a8 r), (a7, soV y r), (a8, soW y r), (a4, soF a9 a10 rc), (a9, soV y rc), (a10, soW y rc)] s.heap.size = A at hD hXZ ⊢
  have hA : ∀ q : Nat, s.heap.size ≤ q → A q := fun q h => by rw [← hAe]; exact Or.inr h
  have hS : va_S A s.heap s.heap [] := va_S.rf
  have hl := lv_entry ([.ref a1, .int p1, .ref a0]) (n := 4) (Nat.le_of_ble_eq_true rfl)
  rw [lg_entry_eq]
  generalize (lg_sl ([.ref a1, .int p1, .ref a0]) ++ List.replicate (4 - (lg_sl ([.ref a1, .int p1, .ref a0])).length) Slot.unset).toArray = ls at hl ⊢
  have hl : lv_has ls 4 [(0, .ref a1), (1, .int p1), (2, .ref a0)] := hl
  have hF := f_L_life_s od r rc p1
  refine lv_aload_n hx hb dL_life_0 rfl (lv_at hl 2 rfl) ?_
  refine lv_iconst (v := 0) hx hb dL_life_1 (by decide) ?_
  refine lv_aload_n hx hb dL_life_2 rfl (lv_at hl 0 rfl) ?_
  refine lv_iload_n hx hb dL_life_3 rfl (lv_at hl 1 rfl) ?_
  obtain ⟨q1, eq1⟩ : ∃ z : Nat × Int32 × gR, f_X5_life r rc p1 = z := ⟨_, rfl⟩
  have hF := hF.trans (gLet_e eq1)
  refine xq_calli (vx_runV (As := [.int p1]) (rest := [.int 0, .ref a0]) ⟨hx, hb, hml, hown, hts⟩ (c_X5_life l hst D y a1 a2 a3 a4 a5 a6 a7 a8 a9 a10 s.heap.size r rc p1 ho) (cwV 1 hts gL_life_X5_life rfl rfl rfl hd_X5_life ⟨Nat.le_of_ble_eq_true rfl, Nat.le_of_ble_eq_true rfl⟩) (xV (q := (RX5, TX5, 5)) hE hXE hXZ hS hA (hP.sub [1, 2, 3, 4, 5, 6, 7] rfl) (hD.sub [1, 2, 3, 4, 5, 6, 7] (by decide) rfl) 0 rfl rfl) rfl rfl hl.1 rfl (lv_room (Nat.le_of_ble_eq_true rfl)) dL_life_4 ⟨Nat.le_of_ble_eq_true rfl, Nat.le_of_ble_eq_true rfl⟩) hP hD hS hA [1, 2, 3, 4, 5, 6, 7] rfl (by decide) (fun _ => rfl) (fun E5 ce6 a97 u3 H locs h4 hP hD hS h4a h4b h4c => ?_) (fun v2 u3 H locs h4 hP hD hS => ?_)
  · have h4q : q1.1 = xc E5 := by rw [← eq1, h4.1]
    obtain rfl : q1.2.2 = u3 := by rw [← eq1, h4.1]
    have hP : va_P D vwCl [(a0, .inl (y 4, 1, .inr (.inl od))), (a1, .inr (4, [.ref a2, .ref a3, .ref a4, .ref a5, .ref a6])), (a3, soF a7 a8 r), (a7, soV y r), (a8, soW y r), (a4, soF a9 a10 q1.2.2), (a9, soV y q1.2.2), (a10, soW y q1.2.2)] H := hP
    have hD : va_D A [(a0, .inl (y 4, 1, .inr (.inl od))), (a1, .inr (4, [.ref a2, .ref a3, .ref a4, .ref a5, .ref a6])), (a3, soF a7 a8 r), (a7, soV y r), (a8, soW y r), (a4, soF a9 a10 q1.2.2), (a9, soV y q1.2.2), (a10, soW y q1.2.2)] := hD
    rcases xc_E h4.2 with rfl | rfl | rfl
    · rw [xc_IA] at h4q
      have hc := cd_X5_life r rc p1
      rw [eq1, h4q] at hc
      exact absurd hc (by decide)
    · rw [xc_IS] at h4q
      have hc := cd_X5_life r rc p1
      rw [eq1, h4q] at hc
      exact absurd hc (by decide)
    · rw [xc_IO] at h4q
      have hF := hF.trans (if_neg (show ¬ q1.1 = 0 by rw [h4q]; decide))
      refine vx_catch hown (tableOf []) ⟨0, 9, 12, 27⟩ (tableOf []) (htab.trans rfl) (fun z hz => nomatch hz) (by decide) (by decide) w_0 (hXE.1.1.2.2.use rfl) h4a h4b h4c ?_
      refine W.eq (g2 := F0 m 12 ls [.ref a97]) rfl ?_
      refine lv_astore_n (lv' := [(3, .ref a97), (0, .ref a1), (1, .int p1), (2, .ref a0)]) hx hb dL_life_12 rfl hl (by decide) rfl (fun ls hl => ?_)
      refine lv_iconst (v := 1) hx hb dL_life_13 (by decide) ?_
      refine W.widen (k := 2) (n := 12) (Nat.le_of_ble_eq_true rfl) (Nat.le_of_ble_eq_true rfl) ?_
      refine vx_ret ?_
      exact W.iret (v := 1) hx hb hr (fun t ht hW => ⟨⟨1, ⟨q1.2.2, od⟩, rfl, hF, ⟨by rw [ht]; exact hP, hD⟩⟩, hS.F ht⟩) hS.2.2 dL_life_14
  · have h4q : q1.1 = 0 := by rw [← eq1, h4]
    obtain ⟨rfl, rfl⟩ : q1.2.1 = v2 ∧ q1.2.2 = u3 := ⟨by rw [← eq1, h4], by rw [← eq1, h4]⟩
    have hP : va_P D vwCl [(a0, .inl (y 4, 1, .inr (.inl od))), (a1, .inr (4, [.ref a2, .ref a3, .ref a4, .ref a5, .ref a6])), (a3, soF a7 a8 r), (a7, soV y r), (a8, soW y r), (a4, soF a9 a10 q1.2.2), (a9, soV y q1.2.2), (a10, soW y q1.2.2)] H := hP
    have hD : va_D A [(a0, .inl (y 4, 1, .inr (.inl od))), (a1, .inr (4, [.ref a2, .ref a3, .ref a4, .ref a5, .ref a6])), (a3, soF a7 a8 r), (a7, soV y r), (a8, soW y r), (a4, soF a9 a10 q1.2.2), (a9, soV y q1.2.2), (a10, soW y q1.2.2)] := hD
    have hF := hF.trans (if_pos h4q)
    refine lv_i2l (v := q1.2.1.toInt64) hx hb dL_life_7 rfl ?_
    refine va_last hx hb hE.1 hP hD hS 0 4 rfl rfl (xin (by decide)) dL_life_8 (fun H locs hP hD hS => ?_)
    have hP : va_P D vwCl [(a0, .inl (y 4, 1, .inr (.inl (vp_updL od ((0 : Int32).toNatClampNeg) q1.2.1.toInt64)))), (a1, .inr (4, [.ref a2, .ref a3, .ref a4, .ref a5, .ref a6])), (a3, soF a7 a8 r), (a7, soV y r), (a8, soW y r), (a4, soF a9 a10 q1.2.2), (a9, soV y q1.2.2), (a10, soW y q1.2.2)] H := hP
    have hD : va_D A [(a0, .inl (y 4, 1, .inr (.inl (vp_updL od ((0 : Int32).toNatClampNeg) q1.2.1.toInt64)))), (a1, .inr (4, [.ref a2, .ref a3, .ref a4, .ref a5, .ref a6])), (a3, soF a7 a8 r), (a7, soV y r), (a8, soW y r), (a4, soF a9 a10 q1.2.2), (a9, soV y q1.2.2), (a10, soW y q1.2.2)] := hD
    refine lv_goto (tgt := 15) hx hb dL_life_9 (by decide) ?_
    refine lv_iconst (v := 0) hx hb dL_life_15 (by decide) ?_
    refine W.widen (k := 2) (n := 12) (Nat.le_of_ble_eq_true rfl) (Nat.le_of_ble_eq_true rfl) ?_
    refine vx_ret ?_
    exact W.iret (v := 0) hx hb hr (fun t ht hW => ⟨⟨0, ⟨q1.2.2, (vp_updL od ((0 : Int32).toNatClampNeg) q1.2.1.toInt64)⟩, rfl, hF, ⟨by rw [ht]; exact hP, hD⟩⟩, hS.F ht⟩) hS.2.2 dL_life_16

def f_L_lifeOfAll (od : Nat → Int64) (r : gR) (rc : gR) : Int32 × gR × (Nat → Int64) :=
    gLet (f_X5_lifeOfAll r rc) (fun (q1 : Nat × Int32 × gR) =>
    if q1.1 = 0 then
      (0, q1.2.2, (vp_updL od ((0 : Int32).toNatClampNeg) q1.2.1.toInt64))
    else
      (1, q1.2.2, od))
theorem f_L_lifeOfAll_s (od : Nat → Int64) (r : gR) (rc : gR) : f_L_lifeOfAll od r rc =
    (gLet (f_X5_lifeOfAll r rc) (fun (q1 : Nat × Int32 × gR) =>
    if q1.1 = 0 then
      (0, q1.2.2, (vp_updL od ((0 : Int32).toNatClampNeg) q1.2.1.toInt64))
    else
      (1, q1.2.2, od))) := rfl
theorem hd_L_lifeOfAll : yL_lifeOfAll.cls ≠ "java/lang/invoke/MethodHandle" ∧ yL_lifeOfAll.cls ≠ "java/lang/invoke/VarHandle" ∧ (parseMethodDescriptor yL_lifeOfAll.desc).map (fun d => d.parameters.length) = some 2 := by decide +kernel
set_option maxHeartbeats 4000000 in
set_option maxRecDepth 100000 in
theorem c_L_lifeOfAll (l : Launch) (hst : l.stackTraces = false) (D : va_G) (y : Nat → ClassId) (a0 a1 a2 a3 a4 a5 a6 a7 a8 a9 a10 : Nat) (zh : Nat) (od : Nat → Int64) (r : gR) (rc : gR) (ho : okC r) : Met l yL_lifeOfAll wsL_lifeOfAll ({ frames := 8, cells := 2, slots := 12, locals := 122 }) (lP D y [.ref a1, .ref a0] zh [(a0, .inl (y 4, 1, .inr (.inl od))), (a1, .inr (4, [.ref a2, .ref a3, .ref a4, .ref a5, .ref a6])), (a3, soF a7 a8 r), (a7, soV y r), (a8, soW y r), (a4, soF a9 a10 rc), (a9, soV y rc), (a10, soW y rc)]) (va_Qi (fun (v : Int32) (u : gR × (Nat → Int64)) => f_L_lifeOfAll od r rc = (v, u)) (fun (u : gR × (Nat → Int64)) t => va_P D vwCl [(a0, .inl (y 4, 1, .inr (.inl u.2))), (a1, .inr (4, [.ref a2, .ref a3, .ref a4, .ref a5, .ref a6])), (a3, soF a7 a8 r), (a7, soV y r), (a8, soW y r), (a4, soF a9 a10 u.1), (a9, soV y u.1), (a10, soW y u.1)] t.heap ∧ va_D (va_A [(a0, .inl (y 4, 1, .inr (.inl od))), (a1, .inr (4, [.ref a2, .ref a3, .ref a4, .ref a5, .ref a6])), (a3, soF a7 a8 r), (a7, soV y r), (a8, soW y r), (a4, soF a9 a10 rc), (a9, soV y rc), (a10, soW y rc)] zh) [(a0, .inl (y 4, 1, .inr (.inl u.2))), (a1, .inr (4, [.ref a2, .ref a3, .ref a4, .ref a5, .ref a6])), (a3, soF a7 a8 r), (a7, soV y r), (a8, soW y r), (a4, soF a9 a10 u.1), (a9, soV y u.1), (a10, soW y u.1)]) (va_A [(a0, .inl (y 4, 1, .inr (.inl od))), (a1, .inr (4, [.ref a2, .ref a3, .ref a4, .ref a5, .ref a6])), (a3, soF a7 a8 r), (a7, soV y r), (a8, soW y r), (a4, soF a9 a10 rc), (a9, soV y rc), (a10, soW y rc)] zh)) 2 12 (va_A [(a0, .inl (y 4, 1, .inr (.inl od))), (a1, .inr (4, [.ref a2, .ref a3, .ref a4, .ref a5, .ref a6])), (a3, soF a7 a8 r), (a7, soV y r), (a8, soW y r), (a4, soF a9 a10 rc), (a9, soV y rc), (a10, soW y rc)] zh) := by
  refine xL_of (vx_ofWH (cc := cL_lifeOfAll) (maxL := 3) (ret := (some .int)) (hh := [(0, 8, 11, 15)]) (by decide) rfl ?_)
  intro p e s m args below meth c s₁ B hml hv
  obtain ⟨⟨⟨rfl, hsz, hP, hE, hD⟩, hXE, hXZ⟩, hLN⟩ := hv
  have hx := B.exec
  have hb := B.bytes
  have hr := B.returns
  have hts := atoms_spec (ws := wsL_lifeOfAll) B.pre
  have hown : s.vm.findClass RL = some m.cls := findClass_of_methodNamed B.named
  have hlocks := B.notSynchronized
  have htab := vx_table (x := yL_lifeOfAll) B (hts _ List.mem_cons_self)
  have w_0 := hts (.classLink RL 15 "java/lang/IllegalStateException") (List.mem_cons_of_mem _ (List.mem_append_left _ (List.mem_append_left _ (List.mem_append_left _ (List.mem_append_left _ (List.mem_of_getElem? (i := 0) rfl))))))
  subst hsz
  have hD := hD.self (sz := s.heap.size)
  generalize hAe : va_A [(a0, .inl (y 4, 1, .inr (.inl od))), (a1, .inr (4, [.ref a2, .ref a3, .ref a4, .ref a5, .ref a6])), (a3, soF a7 a8 r), (a7, soV y r), (a8, soW y r), (a4, soF a9 a10 rc), (a9, soV y rc), (a10, soW y rc)] s.heap.size = A at hD hXZ ⊢
  have hA : ∀ q : Nat, s.heap.size ≤ q → A q := fun q h => by rw [← hAe]; exact Or.inr h
  have hS : va_S A s.heap s.heap [] := va_S.rf
  have hl := lv_entry ([.ref a1, .ref a0]) (n := 3) (Nat.le_of_ble_eq_true rfl)
  rw [lg_entry_eq]
  generalize (lg_sl ([.ref a1, .ref a0]) ++ List.replicate (3 - (lg_sl ([.ref a1, .ref a0])).length) Slot.unset).toArray = ls at hl ⊢
  have hl : lv_has ls 3 [(0, .ref a1), (1, .ref a0)] := hl
  have hF := f_L_lifeOfAll_s od r rc
  refine lv_aload_n hx hb dL_lifeOfAll_0 rfl (lv_at hl 1 rfl) ?_
  refine lv_iconst (v := 0) hx hb dL_lifeOfAll_1 (by decide) ?_
  refine lv_aload_n hx hb dL_lifeOfAll_2 rfl (lv_at hl 0 rfl) ?_
  obtain ⟨q1, eq1⟩ : ∃ z : Nat × Int32 × gR, f_X5_lifeOfAll r rc = z := ⟨_, rfl⟩
  have hF := hF.trans (gLet_e eq1)
  refine xq_calli (vx_runV (As := []) (rest := [.int 0, .ref a0]) ⟨hx, hb, hml, hown, hts⟩ (c_X5_lifeOfAll l hst D y a1 a2 a3 a4 a5 a6 a7 a8 a9 a10 s.heap.size r rc ho) (cwV 0 hts gL_lifeOfAll_X5_lifeOfAll rfl rfl rfl hd_X5_lifeOfAll ⟨Nat.le_of_ble_eq_true rfl, Nat.le_of_ble_eq_true rfl⟩) (xV (q := (RX5, TX5, 5)) hE hXE hXZ hS hA (hP.sub [1, 2, 3, 4, 5, 6, 7] rfl) (hD.sub [1, 2, 3, 4, 5, 6, 7] (by decide) rfl) 0 rfl rfl) rfl rfl hl.1 rfl (lv_room (Nat.le_of_ble_eq_true rfl)) dL_lifeOfAll_3 ⟨Nat.le_of_ble_eq_true rfl, Nat.le_of_ble_eq_true rfl⟩) hP hD hS hA [1, 2, 3, 4, 5, 6, 7] rfl (by decide) (fun _ => rfl) (fun E5 ce6 a97 u3 H locs h4 hP hD hS h4a h4b h4c => ?_) (fun v2 u3 H locs h4 hP hD hS => ?_)
  · have h4q : q1.1 = xc E5 := by rw [← eq1, h4.1]
    obtain rfl : q1.2.2 = u3 := by rw [← eq1, h4.1]
    have hP : va_P D vwCl [(a0, .inl (y 4, 1, .inr (.inl od))), (a1, .inr (4, [.ref a2, .ref a3, .ref a4, .ref a5, .ref a6])), (a3, soF a7 a8 r), (a7, soV y r), (a8, soW y r), (a4, soF a9 a10 q1.2.2), (a9, soV y q1.2.2), (a10, soW y q1.2.2)] H := hP
    have hD : va_D A [(a0, .inl (y 4, 1, .inr (.inl od))), (a1, .inr (4, [.ref a2, .ref a3, .ref a4, .ref a5, .ref a6])), (a3, soF a7 a8 r), (a7, soV y r), (a8, soW y r), (a4, soF a9 a10 q1.2.2), (a9, soV y q1.2.2), (a10, soW y q1.2.2)] := hD
    rcases xc_E h4.2 with rfl | rfl | rfl
    · rw [xc_IA] at h4q
      have hc := cd_X5_lifeOfAll r rc
      rw [eq1, h4q] at hc
      exact absurd hc (by decide)
    · rw [xc_IS] at h4q
      have hF := hF.trans (if_neg (show ¬ q1.1 = 0 by rw [h4q]; decide))
      refine vx_catch hown (tableOf []) ⟨0, 8, 11, 15⟩ (tableOf []) (htab.trans rfl) (fun z hz => nomatch hz) (by decide) (by decide) w_0 (hXE.1.1.2.1.use rfl) h4a h4b h4c ?_
      refine W.eq (g2 := F0 m 11 ls [.ref a97]) rfl ?_
      refine lv_astore_n (lv' := [(2, .ref a97), (0, .ref a1), (1, .ref a0)]) hx hb dL_lifeOfAll_11 rfl hl (by decide) rfl (fun ls hl => ?_)
      refine lv_iconst (v := 1) hx hb dL_lifeOfAll_12 (by decide) ?_
      refine W.widen (k := 2) (n := 12) (Nat.le_of_ble_eq_true rfl) (Nat.le_of_ble_eq_true rfl) ?_
      refine vx_ret ?_
      exact W.iret (v := 1) hx hb hr (fun t ht hW => ⟨⟨1, ⟨q1.2.2, od⟩, rfl, hF, ⟨by rw [ht]; exact hP, hD⟩⟩, hS.F ht⟩) hS.2.2 dL_lifeOfAll_13
    · rw [xc_IO] at h4q
      have hc := cd_X5_lifeOfAll r rc
      rw [eq1, h4q] at hc
      exact absurd hc (by decide)
  · have h4q : q1.1 = 0 := by rw [← eq1, h4]
    obtain ⟨rfl, rfl⟩ : q1.2.1 = v2 ∧ q1.2.2 = u3 := ⟨by rw [← eq1, h4], by rw [← eq1, h4]⟩
    have hP : va_P D vwCl [(a0, .inl (y 4, 1, .inr (.inl od))), (a1, .inr (4, [.ref a2, .ref a3, .ref a4, .ref a5, .ref a6])), (a3, soF a7 a8 r), (a7, soV y r), (a8, soW y r), (a4, soF a9 a10 q1.2.2), (a9, soV y q1.2.2), (a10, soW y q1.2.2)] H := hP
    have hD : va_D A [(a0, .inl (y 4, 1, .inr (.inl od))), (a1, .inr (4, [.ref a2, .ref a3, .ref a4, .ref a5, .ref a6])), (a3, soF a7 a8 r), (a7, soV y r), (a8, soW y r), (a4, soF a9 a10 q1.2.2), (a9, soV y q1.2.2), (a10, soW y q1.2.2)] := hD
    have hF := hF.trans (if_pos h4q)
    refine lv_i2l (v := q1.2.1.toInt64) hx hb dL_lifeOfAll_6 rfl ?_
    refine va_last hx hb hE.1 hP hD hS 0 4 rfl rfl (xin (by decide)) dL_lifeOfAll_7 (fun H locs hP hD hS => ?_)
    have hP : va_P D vwCl [(a0, .inl (y 4, 1, .inr (.inl (vp_updL od ((0 : Int32).toNatClampNeg) q1.2.1.toInt64)))), (a1, .inr (4, [.ref a2, .ref a3, .ref a4, .ref a5, .ref a6])), (a3, soF a7 a8 r), (a7, soV y r), (a8, soW y r), (a4, soF a9 a10 q1.2.2), (a9, soV y q1.2.2), (a10, soW y q1.2.2)] H := hP
    have hD : va_D A [(a0, .inl (y 4, 1, .inr (.inl (vp_updL od ((0 : Int32).toNatClampNeg) q1.2.1.toInt64)))), (a1, .inr (4, [.ref a2, .ref a3, .ref a4, .ref a5, .ref a6])), (a3, soF a7 a8 r), (a7, soV y r), (a8, soW y r), (a4, soF a9 a10 q1.2.2), (a9, soV y q1.2.2), (a10, soW y q1.2.2)] := hD
    refine lv_goto (tgt := 14) hx hb dL_lifeOfAll_8 (by decide) ?_
    refine lv_iconst (v := 0) hx hb dL_lifeOfAll_14 (by decide) ?_
    refine W.widen (k := 2) (n := 12) (Nat.le_of_ble_eq_true rfl) (Nat.le_of_ble_eq_true rfl) ?_
    refine vx_ret ?_
    exact W.iret (v := 0) hx hb hr (fun t ht hW => ⟨⟨0, ⟨q1.2.2, (vp_updL od ((0 : Int32).toNatClampNeg) q1.2.1.toInt64)⟩, rfl, hF, ⟨by rw [ht]; exact hP, hD⟩⟩, hS.F ht⟩) hS.2.2 dL_lifeOfAll_15

def f_L_ifEvery (od : Nat → Int64) (r : gR) (rc : gR) (p1 : Int32) (p2 : Int32) (p3 : Int32) : Int32 × gR × (Nat → Int64) :=
    gLet (f_X5_ifEvery r rc p1 p2 p3) (fun (q1 : Nat × Int32 × gR) =>
    if q1.1 = 0 then
      (0, q1.2.2, (vp_updL od ((0 : Int32).toNatClampNeg) q1.2.1.toInt64))
    else
      if q1.1 = 3 then
        (1, q1.2.2, od)
      else
        (2, q1.2.2, od))
theorem f_L_ifEvery_s (od : Nat → Int64) (r : gR) (rc : gR) (p1 : Int32) (p2 : Int32) (p3 : Int32) : f_L_ifEvery od r rc p1 p2 p3 =
    (gLet (f_X5_ifEvery r rc p1 p2 p3) (fun (q1 : Nat × Int32 × gR) =>
    if q1.1 = 0 then
      (0, q1.2.2, (vp_updL od ((0 : Int32).toNatClampNeg) q1.2.1.toInt64))
    else
      if q1.1 = 3 then
        (1, q1.2.2, od)
      else
        (2, q1.2.2, od))) := rfl
theorem hd_L_ifEvery : yL_ifEvery.cls ≠ "java/lang/invoke/MethodHandle" ∧ yL_ifEvery.cls ≠ "java/lang/invoke/VarHandle" ∧ (parseMethodDescriptor yL_ifEvery.desc).map (fun d => d.parameters.length) = some 5 := by decide +kernel
set_option maxHeartbeats 4000000 in
set_option maxRecDepth 100000 in
theorem c_L_ifEvery (l : Launch) (hst : l.stackTraces = false) (D : va_G) (y : Nat → ClassId) (a0 a1 a2 a3 a4 a5 a6 a7 a8 a9 a10 : Nat) (zh : Nat) (od : Nat → Int64) (r : gR) (rc : gR) (p1 : Int32) (p2 : Int32) (p3 : Int32) (ho : okC r) : Met l yL_ifEvery wsL_ifEvery ({ frames := 8, cells := 2, slots := 12, locals := 136 }) (lP D y [.ref a1, .int p1, .int p2, .int p3, .ref a0] zh [(a0, .inl (y 4, 1, .inr (.inl od))), (a1, .inr (4, [.ref a2, .ref a3, .ref a4, .ref a5, .ref a6])), (a3, soF a7 a8 r), (a7, soV y r), (a8, soW y r), (a4, soF a9 a10 rc), (a9, soV y rc), (a10, soW y rc)]) (va_Qi (fun (v : Int32) (u : gR × (Nat → Int64)) => f_L_ifEvery od r rc p1 p2 p3 = (v, u)) (fun (u : gR × (Nat → Int64)) t => va_P D vwCl [(a0, .inl (y 4, 1, .inr (.inl u.2))), (a1, .inr (4, [.ref a2, .ref a3, .ref a4, .ref a5, .ref a6])), (a3, soF a7 a8 r), (a7, soV y r), (a8, soW y r), (a4, soF a9 a10 u.1), (a9, soV y u.1), (a10, soW y u.1)] t.heap ∧ va_D (va_A [(a0, .inl (y 4, 1, .inr (.inl od))), (a1, .inr (4, [.ref a2, .ref a3, .ref a4, .ref a5, .ref a6])), (a3, soF a7 a8 r), (a7, soV y r), (a8, soW y r), (a4, soF a9 a10 rc), (a9, soV y rc), (a10, soW y rc)] zh) [(a0, .inl (y 4, 1, .inr (.inl u.2))), (a1, .inr (4, [.ref a2, .ref a3, .ref a4, .ref a5, .ref a6])), (a3, soF a7 a8 r), (a7, soV y r), (a8, soW y r), (a4, soF a9 a10 u.1), (a9, soV y u.1), (a10, soW y u.1)]) (va_A [(a0, .inl (y 4, 1, .inr (.inl od))), (a1, .inr (4, [.ref a2, .ref a3, .ref a4, .ref a5, .ref a6])), (a3, soF a7 a8 r), (a7, soV y r), (a8, soW y r), (a4, soF a9 a10 rc), (a9, soV y rc), (a10, soW y rc)] zh)) 2 12 (va_A [(a0, .inl (y 4, 1, .inr (.inl od))), (a1, .inr (4, [.ref a2, .ref a3, .ref a4, .ref a5, .ref a6])), (a3, soF a7 a8 r), (a7, soV y r), (a8, soW y r), (a4, soF a9 a10 rc), (a9, soV y rc), (a10, soW y rc)] zh) := by
  refine xL_of (vx_ofWH (cc := cL_ifEvery) (maxL := 6) (ret := (some .int)) (hh := [(0, 12, 15, 27), (0, 12, 19, 13)]) (by decide) rfl ?_)
  intro p e s m args below meth c s₁ B hml hv
  obtain ⟨⟨⟨rfl, hsz, hP, hE, hD⟩, hXE, hXZ⟩, hLN⟩ := hv
  have hx := B.exec
  have hb := B.bytes
  have hr := B.returns
  have hts := atoms_spec (ws := wsL_ifEvery) B.pre
  have hown : s.vm.findClass RL = some m.cls := findClass_of_methodNamed B.named
  have hlocks := B.notSynchronized
  have htab := vx_table (x := yL_ifEvery) B (hts _ List.mem_cons_self)
  have w_0 := hts (.classLink RL 27 "java/lang/IndexOutOfBoundsException") (List.mem_cons_of_mem _ (List.mem_append_left _ (List.mem_append_left _ (List.mem_append_left _ (List.mem_append_left _ (List.mem_append_left _ (List.mem_of_getElem? (i := 0) rfl)))))))
  have w_1 := hts (.classLink RL 13 "java/lang/IllegalArgumentException") (List.mem_cons_of_mem _ (List.mem_append_left _ (List.mem_append_left _ (List.mem_append_left _ (List.mem_append_left _ (List.mem_append_left _ (List.mem_of_getElem? (i := 1) rfl)))))))
  subst hsz
  have hD := hD.self (sz := s.heap.size)
  generalize hAe : va_A [(a0, .inl (y 4, 1, .inr (.inl od))), (a1, .inr (4, [.ref a2, .ref a3, .ref a4, .ref a5, .ref a6])), (a3, soF a7 a8 r), (a7, soV y r), (a8, soW y r), (a4, soF a9 a10 rc), (a9, soV y rc), (a10, soW y rc)] s.heap.size = A at hD hXZ ⊢
  have hA : ∀ q : Nat, s.heap.size ≤ q → A q := fun q h => by rw [← hAe]; exact Or.inr h
  have hS : va_S A s.heap s.heap [] := va_S.rf
  have hl := lv_entry ([.ref a1, .int p1, .int p2, .int p3, .ref a0]) (n := 6) (Nat.le_of_ble_eq_true rfl)
  rw [lg_entry_eq]
  generalize (lg_sl ([.ref a1, .int p1, .int p2, .int p3, .ref a0]) ++ List.replicate (6 - (lg_sl ([.ref a1, .int p1, .int p2, .int p3, .ref a0])).length) Slot.unset).toArray = ls at hl ⊢
  have hl : lv_has ls 6 [(0, .ref a1), (1, .int p1), (2, .int p2), (3, .int p3), (4, .ref a0)] := hl
  have hF := f_L_ifEvery_s od r rc p1 p2 p3
  refine lv_aload hx hb dL_ifEvery_0 (lv_at hl 4 rfl) ?_
  refine lv_iconst (v := 0) hx hb dL_ifEvery_2 (by decide) ?_
  refine lv_aload_n hx hb dL_ifEvery_3 rfl (lv_at hl 0 rfl) ?_
  refine lv_iload_n hx hb dL_ifEvery_4 rfl (lv_at hl 1 rfl) ?_
  refine lv_iload_n hx hb dL_ifEvery_5 rfl (lv_at hl 2 rfl) ?_
  refine lv_iload_n hx hb dL_ifEvery_6 rfl (lv_at hl 3 rfl) ?_
  obtain ⟨q1, eq1⟩ : ∃ z : Nat × Int32 × gR, f_X5_ifEvery r rc p1 p2 p3 = z := ⟨_, rfl⟩
  have hF := hF.trans (gLet_e eq1)
  refine xq_calli (vx_runV (As := [.int p1, .int p2, .int p3]) (rest := [.int 0, .ref a0]) ⟨hx, hb, hml, hown, hts⟩ (c_X5_ifEvery l hst D y a1 a2 a3 a4 a5 a6 a7 a8 a9 a10 s.heap.size r rc p1 p2 p3 ho) (cwV 3 hts gL_ifEvery_X5_ifEvery rfl rfl rfl hd_X5_ifEvery ⟨Nat.le_of_ble_eq_true rfl, Nat.le_of_ble_eq_true rfl⟩) (xV (q := (RX5, TX5, 5)) hE hXE hXZ hS hA (hP.sub [1, 2, 3, 4, 5, 6, 7] rfl) (hD.sub [1, 2, 3, 4, 5, 6, 7] (by decide) rfl) 0 rfl rfl) rfl rfl hl.1 rfl (lv_room (Nat.le_of_ble_eq_true rfl)) dL_ifEvery_7 ⟨Nat.le_of_ble_eq_true rfl, Nat.le_of_ble_eq_true rfl⟩) hP hD hS hA [1, 2, 3, 4, 5, 6, 7] rfl (by decide) (fun _ => rfl) (fun E5 ce6 a97 u3 H locs h4 hP hD hS h4a h4b h4c => ?_) (fun v2 u3 H locs h4 hP hD hS => ?_)
  · have h4q : q1.1 = xc E5 := by rw [← eq1, h4.1]
    obtain rfl : q1.2.2 = u3 := by rw [← eq1, h4.1]
    have hP : va_P D vwCl [(a0, .inl (y 4, 1, .inr (.inl od))), (a1, .inr (4, [.ref a2, .ref a3, .ref a4, .ref a5, .ref a6])), (a3, soF a7 a8 r), (a7, soV y r), (a8, soW y r), (a4, soF a9 a10 q1.2.2), (a9, soV y q1.2.2), (a10, soW y q1.2.2)] H := hP
    have hD : va_D A [(a0, .inl (y 4, 1, .inr (.inl od))), (a1, .inr (4, [.ref a2, .ref a3, .ref a4, .ref a5, .ref a6])), (a3, soF a7 a8 r), (a7, soV y r), (a8, soW y r), (a4, soF a9 a10 q1.2.2), (a9, soV y q1.2.2), (a10, soW y q1.2.2)] := hD
    rcases xc_E h4.2 with rfl | rfl | rfl
    · rw [xc_IA] at h4q
      have hF := hF.trans (if_neg (show ¬ q1.1 = 0 by rw [h4q]; decide))
      have hF := hF.trans (if_neg (show ¬ q1.1 = 3 by rw [h4q]; decide))
      refine vx_catch hown (tableOf [(0, 12, 15, 27)]) ⟨0, 12, 19, 13⟩ (tableOf []) (htab.trans rfl) (fun z hz => by simp only [tableOf, List.map_cons, List.map_nil, List.mem_cons, List.not_mem_nil, or_false] at hz; rcases hz with rfl; exact Or.inr ⟨by decide, _, w_0, hLN.1.2⟩) (by decide) (by decide) w_1 (hXE.1.1.1.use rfl) h4a h4b h4c ?_
      refine W.eq (g2 := F0 m 19 ls [.ref a97]) rfl ?_
      refine lv_astore (lv' := [(5, .ref a97), (0, .ref a1), (1, .int p1), (2, .int p2), (3, .int p3), (4, .ref a0)]) hx hb dL_ifEvery_19 hl (by decide) rfl (fun ls hl => ?_)
      refine lv_iconst (v := 2) hx hb dL_ifEvery_21 (by decide) ?_
      refine W.widen (k := 2) (n := 12) (Nat.le_of_ble_eq_true rfl) (Nat.le_of_ble_eq_true rfl) ?_
      refine vx_ret ?_
      exact W.iret (v := 2) hx hb hr (fun t ht hW => ⟨⟨2, ⟨q1.2.2, od⟩, rfl, hF, ⟨by rw [ht]; exact hP, hD⟩⟩, hS.F ht⟩) hS.2.2 dL_ifEvery_22
    · rw [xc_IS] at h4q
      have hc := cd_X5_ifEvery r rc p1 p2 p3
      rw [eq1, h4q] at hc
      exact absurd hc (by decide)
    · rw [xc_IO] at h4q
      have hF := hF.trans (if_neg (show ¬ q1.1 = 0 by rw [h4q]; decide))
      have hF := hF.trans (if_pos h4q)
      refine vx_catch hown (tableOf []) ⟨0, 12, 15, 27⟩ (tableOf [(0, 12, 19, 13)]) (htab.trans rfl) (fun z hz => nomatch hz) (by decide) (by decide) w_0 (hXE.1.1.2.2.use rfl) h4a h4b h4c ?_
      refine W.eq (g2 := F0 m 15 ls [.ref a97]) rfl ?_
      refine lv_astore (lv' := [(5, .ref a97), (0, .ref a1), (1, .int p1), (2, .int p2), (3, .int p3), (4, .ref a0)]) hx hb dL_ifEvery_15 hl (by decide) rfl (fun ls hl => ?_)
      refine lv_iconst (v := 1) hx hb dL_ifEvery_17 (by decide) ?_
      refine W.widen (k := 2) (n := 12) (Nat.le_of_ble_eq_true rfl) (Nat.le_of_ble_eq_true rfl) ?_
      refine vx_ret ?_
      exact W.iret (v := 1) hx hb hr (fun t ht hW => ⟨⟨1, ⟨q1.2.2, od⟩, rfl, hF, ⟨by rw [ht]; exact hP, hD⟩⟩, hS.F ht⟩) hS.2.2 dL_ifEvery_18
  · have h4q : q1.1 = 0 := by rw [← eq1, h4]
    obtain ⟨rfl, rfl⟩ : q1.2.1 = v2 ∧ q1.2.2 = u3 := ⟨by rw [← eq1, h4], by rw [← eq1, h4]⟩
    have hP : va_P D vwCl [(a0, .inl (y 4, 1, .inr (.inl od))), (a1, .inr (4, [.ref a2, .ref a3, .ref a4, .ref a5, .ref a6])), (a3, soF a7 a8 r), (a7, soV y r), (a8, soW y r), (a4, soF a9 a10 q1.2.2), (a9, soV y q1.2.2), (a10, soW y q1.2.2)] H := hP
    have hD : va_D A [(a0, .inl (y 4, 1, .inr (.inl od))), (a1, .inr (4, [.ref a2, .ref a3, .ref a4, .ref a5, .ref a6])), (a3, soF a7 a8 r), (a7, soV y r), (a8, soW y r), (a4, soF a9 a10 q1.2.2), (a9, soV y q1.2.2), (a10, soW y q1.2.2)] := hD
    have hF := hF.trans (if_pos h4q)
    refine lv_i2l (v := q1.2.1.toInt64) hx hb dL_ifEvery_10 rfl ?_
    refine va_last hx hb hE.1 hP hD hS 0 4 rfl rfl (xin (by decide)) dL_ifEvery_11 (fun H locs hP hD hS => ?_)
    have hP : va_P D vwCl [(a0, .inl (y 4, 1, .inr (.inl (vp_updL od ((0 : Int32).toNatClampNeg) q1.2.1.toInt64)))), (a1, .inr (4, [.ref a2, .ref a3, .ref a4, .ref a5, .ref a6])), (a3, soF a7 a8 r), (a7, soV y r), (a8, soW y r), (a4, soF a9 a10 q1.2.2), (a9, soV y q1.2.2), (a10, soW y q1.2.2)] H := hP
    have hD : va_D A [(a0, .inl (y 4, 1, .inr (.inl (vp_updL od ((0 : Int32).toNatClampNeg) q1.2.1.toInt64)))), (a1, .inr (4, [.ref a2, .ref a3, .ref a4, .ref a5, .ref a6])), (a3, soF a7 a8 r), (a7, soV y r), (a8, soW y r), (a4, soF a9 a10 q1.2.2), (a9, soV y q1.2.2), (a10, soW y q1.2.2)] := hD
    refine lv_goto (tgt := 23) hx hb dL_ifEvery_12 (by decide) ?_
    refine lv_iconst (v := 0) hx hb dL_ifEvery_23 (by decide) ?_
    refine W.widen (k := 2) (n := 12) (Nat.le_of_ble_eq_true rfl) (Nat.le_of_ble_eq_true rfl) ?_
    refine vx_ret ?_
    exact W.iret (v := 0) hx hb hr (fun t ht hW => ⟨⟨0, ⟨q1.2.2, (vp_updL od ((0 : Int32).toNatClampNeg) q1.2.1.toInt64)⟩, rfl, hF, ⟨by rw [ht]; exact hP, hD⟩⟩, hS.F ht⟩) hS.2.2 dL_ifEvery_24

def f_L_bestEvery (od : Nat → Int64) (r : gR) (rc : gR) (p1 : Int32) (p2 : Int32) : Int32 × gR × (Nat → Int64) :=
    gLet (f_X5_bestEvery r rc p1 p2) (fun (q1 : Nat × Int32 × gR) =>
    if q1.1 = 0 then
      (0, q1.2.2, (vp_updL od ((0 : Int32).toNatClampNeg) q1.2.1.toInt64))
    else
      if q1.1 = 3 then
        (1, q1.2.2, od)
      else
        (2, q1.2.2, od))
theorem f_L_bestEvery_s (od : Nat → Int64) (r : gR) (rc : gR) (p1 : Int32) (p2 : Int32) : f_L_bestEvery od r rc p1 p2 =
    (gLet (f_X5_bestEvery r rc p1 p2) (fun (q1 : Nat × Int32 × gR) =>
    if q1.1 = 0 then
      (0, q1.2.2, (vp_updL od ((0 : Int32).toNatClampNeg) q1.2.1.toInt64))
    else
      if q1.1 = 3 then
        (1, q1.2.2, od)
      else
        (2, q1.2.2, od))) := rfl
theorem hd_L_bestEvery : yL_bestEvery.cls ≠ "java/lang/invoke/MethodHandle" ∧ yL_bestEvery.cls ≠ "java/lang/invoke/VarHandle" ∧ (parseMethodDescriptor yL_bestEvery.desc).map (fun d => d.parameters.length) = some 4 := by decide +kernel
set_option maxHeartbeats 4000000 in
set_option maxRecDepth 100000 in
theorem c_L_bestEvery (l : Launch) (hst : l.stackTraces = false) (D : va_G) (y : Nat → ClassId) (a0 a1 a2 a3 a4 a5 a6 a7 a8 a9 a10 : Nat) (zh : Nat) (od : Nat → Int64) (r : gR) (rc : gR) (p1 : Int32) (p2 : Int32) (ho : okC r) : Met l yL_bestEvery wsL_bestEvery ({ frames := 8, cells := 2, slots := 12, locals := 139 }) (lP D y [.ref a1, .int p1, .int p2, .ref a0] zh [(a0, .inl (y 4, 1, .inr (.inl od))), (a1, .inr (4, [.ref a2, .ref a3, .ref a4, .ref a5, .ref a6])), (a3, soF a7 a8 r), (a7, soV y r), (a8, soW y r), (a4, soF a9 a10 rc), (a9, soV y rc), (a10, soW y rc)]) (va_Qi (fun (v : Int32) (u : gR × (Nat → Int64)) => f_L_bestEvery od r rc p1 p2 = (v, u)) (fun (u : gR × (Nat → Int64)) t => va_P D vwCl [(a0, .inl (y 4, 1, .inr (.inl u.2))), (a1, .inr (4, [.ref a2, .ref a3, .ref a4, .ref a5, .ref a6])), (a3, soF a7 a8 r), (a7, soV y r), (a8, soW y r), (a4, soF a9 a10 u.1), (a9, soV y u.1), (a10, soW y u.1)] t.heap ∧ va_D (va_A [(a0, .inl (y 4, 1, .inr (.inl od))), (a1, .inr (4, [.ref a2, .ref a3, .ref a4, .ref a5, .ref a6])), (a3, soF a7 a8 r), (a7, soV y r), (a8, soW y r), (a4, soF a9 a10 rc), (a9, soV y rc), (a10, soW y rc)] zh) [(a0, .inl (y 4, 1, .inr (.inl u.2))), (a1, .inr (4, [.ref a2, .ref a3, .ref a4, .ref a5, .ref a6])), (a3, soF a7 a8 r), (a7, soV y r), (a8, soW y r), (a4, soF a9 a10 u.1), (a9, soV y u.1), (a10, soW y u.1)]) (va_A [(a0, .inl (y 4, 1, .inr (.inl od))), (a1, .inr (4, [.ref a2, .ref a3, .ref a4, .ref a5, .ref a6])), (a3, soF a7 a8 r), (a7, soV y r), (a8, soW y r), (a4, soF a9 a10 rc), (a9, soV y rc), (a10, soW y rc)] zh)) 2 12 (va_A [(a0, .inl (y 4, 1, .inr (.inl od))), (a1, .inr (4, [.ref a2, .ref a3, .ref a4, .ref a5, .ref a6])), (a3, soF a7 a8 r), (a7, soV y r), (a8, soW y r), (a4, soF a9 a10 rc), (a9, soV y rc), (a10, soW y rc)] zh) := by
  refine xL_of (vx_ofWH (cc := cL_bestEvery) (maxL := 5) (ret := (some .int)) (hh := [(0, 10, 13, 27), (0, 10, 17, 13)]) (by decide) rfl ?_)
  intro p e s m args below meth c s₁ B hml hv
  obtain ⟨⟨⟨rfl, hsz, hP, hE, hD⟩, hXE, hXZ⟩, hLN⟩ := hv
  have hx := B.exec
  have hb := B.bytes
  have hr := B.returns
  have hts := atoms_spec (ws := wsL_bestEvery) B.pre
  have hown : s.vm.findClass RL = some m.cls := findClass_of_methodNamed B.named
  have hlocks := B.notSynchronized
  have htab := vx_table (x := yL_bestEvery) B (hts _ List.mem_cons_self)
  have w_0 := hts (.classLink RL 27 "java/lang/IndexOutOfBoundsException") (List.mem_cons_of_mem _ (List.mem_append_left _ (List.mem_append_left _ (List.mem_append_left _ (List.mem_append_left _ (List.mem_append_left _ (List.mem_of_getElem? (i := 0) rfl)))))))
  have w_1 := hts (.classLink RL 13 "java/lang/IllegalArgumentException") (List.mem_cons_of_mem _ (List.mem_append_left _ (List.mem_append_left _ (List.mem_append_left _ (List.mem_append_left _ (List.mem_append_left _ (List.mem_of_getElem? (i := 1) rfl)))))))
  subst hsz
  have hD := hD.self (sz := s.heap.size)
  generalize hAe : va_A [(a0, .inl (y 4, 1, .inr (.inl od))), (a1, .inr (4, [.ref a2, .ref a3, .ref a4, .ref a5, .ref a6])), (a3, soF a7 a8 r), (a7, soV y r), (a8, soW y r), (a4, soF a9 a10 rc), (a9, soV y rc), (a10, soW y rc)] s.heap.size = A at hD hXZ ⊢
  have hA : ∀ q : Nat, s.heap.size ≤ q → A q := fun q h => by rw [← hAe]; exact Or.inr h
  have hS : va_S A s.heap s.heap [] := va_S.rf
  have hl := lv_entry ([.ref a1, .int p1, .int p2, .ref a0]) (n := 5) (Nat.le_of_ble_eq_true rfl)
  rw [lg_entry_eq]
  generalize (lg_sl ([.ref a1, .int p1, .int p2, .ref a0]) ++ List.replicate (5 - (lg_sl ([.ref a1, .int p1, .int p2, .ref a0])).length) Slot.unset).toArray = ls at hl ⊢
  have hl : lv_has ls 5 [(0, .ref a1), (1, .int p1), (2, .int p2), (3, .ref a0)] := hl
  have hF := f_L_bestEvery_s od r rc p1 p2
  refine lv_aload_n hx hb dL_bestEvery_0 rfl (lv_at hl 3 rfl) ?_
  refine lv_iconst (v := 0) hx hb dL_bestEvery_1 (by decide) ?_
  refine lv_aload_n hx hb dL_bestEvery_2 rfl (lv_at hl 0 rfl) ?_
  refine lv_iload_n hx hb dL_bestEvery_3 rfl (lv_at hl 1 rfl) ?_
  refine lv_iload_n hx hb dL_bestEvery_4 rfl (lv_at hl 2 rfl) ?_
  obtain ⟨q1, eq1⟩ : ∃ z : Nat × Int32 × gR, f_X5_bestEvery r rc p1 p2 = z := ⟨_, rfl⟩
  have hF := hF.trans (gLet_e eq1)
  refine xq_calli (vx_runV (As := [.int p1, .int p2]) (rest := [.int 0, .ref a0]) ⟨hx, hb, hml, hown, hts⟩ (c_X5_bestEvery l hst D y a1 a2 a3 a4 a5 a6 a7 a8 a9 a10 s.heap.size r rc p1 p2 ho) (cwV 2 hts gL_bestEvery_X5_bestEvery rfl rfl rfl hd_X5_bestEvery ⟨Nat.le_of_ble_eq_true rfl, Nat.le_of_ble_eq_true rfl⟩) (xV (q := (RX5, TX5, 5)) hE hXE hXZ hS hA (hP.sub [1, 2, 3, 4, 5, 6, 7] rfl) (hD.sub [1, 2, 3, 4, 5, 6, 7] (by decide) rfl) 0 rfl rfl) rfl rfl hl.1 rfl (lv_room (Nat.le_of_ble_eq_true rfl)) dL_bestEvery_5 ⟨Nat.le_of_ble_eq_true rfl, Nat.le_of_ble_eq_true rfl⟩) hP hD hS hA [1, 2, 3, 4, 5, 6, 7] rfl (by decide) (fun _ => rfl) (fun E5 ce6 a97 u3 H locs h4 hP hD hS h4a h4b h4c => ?_) (fun v2 u3 H locs h4 hP hD hS => ?_)
  · have h4q : q1.1 = xc E5 := by rw [← eq1, h4.1]
    obtain rfl : q1.2.2 = u3 := by rw [← eq1, h4.1]
    have hP : va_P D vwCl [(a0, .inl (y 4, 1, .inr (.inl od))), (a1, .inr (4, [.ref a2, .ref a3, .ref a4, .ref a5, .ref a6])), (a3, soF a7 a8 r), (a7, soV y r), (a8, soW y r), (a4, soF a9 a10 q1.2.2), (a9, soV y q1.2.2), (a10, soW y q1.2.2)] H := hP
    have hD : va_D A [(a0, .inl (y 4, 1, .inr (.inl od))), (a1, .inr (4, [.ref a2, .ref a3, .ref a4, .ref a5, .ref a6])), (a3, soF a7 a8 r), (a7, soV y r), (a8, soW y r), (a4, soF a9 a10 q1.2.2), (a9, soV y q1.2.2), (a10, soW y q1.2.2)] := hD
    rcases xc_E h4.2 with rfl | rfl | rfl
    · rw [xc_IA] at h4q
      have hF := hF.trans (if_neg (show ¬ q1.1 = 0 by rw [h4q]; decide))
      have hF := hF.trans (if_neg (show ¬ q1.1 = 3 by rw [h4q]; decide))
      refine vx_catch hown (tableOf [(0, 10, 13, 27)]) ⟨0, 10, 17, 13⟩ (tableOf []) (htab.trans rfl) (fun z hz => by simp only [tableOf, List.map_cons, List.map_nil, List.mem_cons, List.not_mem_nil, or_false] at hz; rcases hz with rfl; exact Or.inr ⟨by decide, _, w_0, hLN.1.2⟩) (by decide) (by decide) w_1 (hXE.1.1.1.use rfl) h4a h4b h4c ?_
      refine W.eq (g2 := F0 m 17 ls [.ref a97]) rfl ?_
      refine lv_astore (lv' := [(4, .ref a97), (0, .ref a1), (1, .int p1), (2, .int p2), (3, .ref a0)]) hx hb dL_bestEvery_17 hl (by decide) rfl (fun ls hl => ?_)
      refine lv_iconst (v := 2) hx hb dL_bestEvery_19 (by decide) ?_
      refine W.widen (k := 2) (n := 12) (Nat.le_of_ble_eq_true rfl) (Nat.le_of_ble_eq_true rfl) ?_
      refine vx_ret ?_
      exact W.iret (v := 2) hx hb hr (fun t ht hW => ⟨⟨2, ⟨q1.2.2, od⟩, rfl, hF, ⟨by rw [ht]; exact hP, hD⟩⟩, hS.F ht⟩) hS.2.2 dL_bestEvery_20
    · rw [xc_IS] at h4q
      have hc := cd_X5_bestEvery r rc p1 p2
      rw [eq1, h4q] at hc
      exact absurd hc (by decide)
    · rw [xc_IO] at h4q
      have hF := hF.trans (if_neg (show ¬ q1.1 = 0 by rw [h4q]; decide))
      have hF := hF.trans (if_pos h4q)
      refine vx_catch hown (tableOf []) ⟨0, 10, 13, 27⟩ (tableOf [(0, 10, 17, 13)]) (htab.trans rfl) (fun z hz => nomatch hz) (by decide) (by decide) w_0 (hXE.1.1.2.2.use rfl) h4a h4b h4c ?_
      refine W.eq (g2 := F0 m 13 ls [.ref a97]) rfl ?_
      refine lv_astore (lv' := [(4, .ref a97), (0, .ref a1), (1, .int p1), (2, .int p2), (3, .ref a0)]) hx hb dL_bestEvery_13 hl (by decide) rfl (fun ls hl => ?_)
      refine lv_iconst (v := 1) hx hb dL_bestEvery_15 (by decide) ?_
      refine W.widen (k := 2) (n := 12) (Nat.le_of_ble_eq_true rfl) (Nat.le_of_ble_eq_true rfl) ?_
      refine vx_ret ?_
      exact W.iret (v := 1) hx hb hr (fun t ht hW => ⟨⟨1, ⟨q1.2.2, od⟩, rfl, hF, ⟨by rw [ht]; exact hP, hD⟩⟩, hS.F ht⟩) hS.2.2 dL_bestEvery_16
  · have h4q : q1.1 = 0 := by rw [← eq1, h4]
    obtain ⟨rfl, rfl⟩ : q1.2.1 = v2 ∧ q1.2.2 = u3 := ⟨by rw [← eq1, h4], by rw [← eq1, h4]⟩
    have hP : va_P D vwCl [(a0, .inl (y 4, 1, .inr (.inl od))), (a1, .inr (4, [.ref a2, .ref a3, .ref a4, .ref a5, .ref a6])), (a3, soF a7 a8 r), (a7, soV y r), (a8, soW y r), (a4, soF a9 a10 q1.2.2), (a9, soV y q1.2.2), (a10, soW y q1.2.2)] H := hP
    have hD : va_D A [(a0, .inl (y 4, 1, .inr (.inl od))), (a1, .inr (4, [.ref a2, .ref a3, .ref a4, .ref a5, .ref a6])), (a3, soF a7 a8 r), (a7, soV y r), (a8, soW y r), (a4, soF a9 a10 q1.2.2), (a9, soV y q1.2.2), (a10, soW y q1.2.2)] := hD
    have hF := hF.trans (if_pos h4q)
    refine lv_i2l (v := q1.2.1.toInt64) hx hb dL_bestEvery_8 rfl ?_
    refine va_last hx hb hE.1 hP hD hS 0 4 rfl rfl (xin (by decide)) dL_bestEvery_9 (fun H locs hP hD hS => ?_)
    have hP : va_P D vwCl [(a0, .inl (y 4, 1, .inr (.inl (vp_updL od ((0 : Int32).toNatClampNeg) q1.2.1.toInt64)))), (a1, .inr (4, [.ref a2, .ref a3, .ref a4, .ref a5, .ref a6])), (a3, soF a7 a8 r), (a7, soV y r), (a8, soW y r), (a4, soF a9 a10 q1.2.2), (a9, soV y q1.2.2), (a10, soW y q1.2.2)] H := hP
    have hD : va_D A [(a0, .inl (y 4, 1, .inr (.inl (vp_updL od ((0 : Int32).toNatClampNeg) q1.2.1.toInt64)))), (a1, .inr (4, [.ref a2, .ref a3, .ref a4, .ref a5, .ref a6])), (a3, soF a7 a8 r), (a7, soV y r), (a8, soW y r), (a4, soF a9 a10 q1.2.2), (a9, soV y q1.2.2), (a10, soW y q1.2.2)] := hD
    refine lv_goto (tgt := 21) hx hb dL_bestEvery_10 (by decide) ?_
    refine lv_iconst (v := 0) hx hb dL_bestEvery_21 (by decide) ?_
    refine W.widen (k := 2) (n := 12) (Nat.le_of_ble_eq_true rfl) (Nat.le_of_ble_eq_true rfl) ?_
    refine vx_ret ?_
    exact W.iret (v := 0) hx hb hr (fun t ht hW => ⟨⟨0, ⟨q1.2.2, (vp_updL od ((0 : Int32).toNatClampNeg) q1.2.1.toInt64)⟩, rfl, hF, ⟨by rw [ht]; exact hP, hD⟩⟩, hS.F ht⟩) hS.2.2 dL_bestEvery_22

def f_L_movesTo (od : Nat → Int64) (r : gR) (p1 : Int32) : Int32 × (Nat → Int64) :=
    gLet (f_X5_movesTo r p1) (fun (q1 : Nat × Int32) =>
    if q1.1 = 0 then
      (0, (vp_updL od ((0 : Int32).toNatClampNeg) q1.2.toInt64))
    else
      (1, od))
theorem f_L_movesTo_s (od : Nat → Int64) (r : gR) (p1 : Int32) : f_L_movesTo od r p1 =
    (gLet (f_X5_movesTo r p1) (fun (q1 : Nat × Int32) =>
    if q1.1 = 0 then
      (0, (vp_updL od ((0 : Int32).toNatClampNeg) q1.2.toInt64))
    else
      (1, od))) := rfl
theorem hd_L_movesTo : yL_movesTo.cls ≠ "java/lang/invoke/MethodHandle" ∧ yL_movesTo.cls ≠ "java/lang/invoke/VarHandle" ∧ (parseMethodDescriptor yL_movesTo.desc).map (fun d => d.parameters.length) = some 3 := by decide +kernel
set_option maxHeartbeats 4000000 in
set_option maxRecDepth 100000 in
theorem c_L_movesTo (l : Launch) (hst : l.stackTraces = false) (D : va_G) (y : Nat → ClassId) (a0 a1 a2 a3 a4 a5 a6 a7 a8 : Nat) (zh : Nat) (od : Nat → Int64) (r : gR) (p1 : Int32) (ho : okC r) : Met l yL_movesTo wsL_movesTo ({ frames := 8, cells := 2, slots := 12, locals := 124 }) (lP D y [.ref a1, .int p1, .ref a0] zh [(a0, .inl (y 4, 1, .inr (.inl od))), (a1, .inr (4, [.ref a2, .ref a3, .ref a4, .ref a5, .ref a6])), (a3, soF a7 a8 r), (a7, soV y r), (a8, soW y r)]) (va_Qi (fun (v : Int32) (u : (Nat → Int64)) => f_L_movesTo od r p1 = (v, u)) (fun (u : (Nat → Int64)) t => va_P D vwCl [(a0, .inl (y 4, 1, .inr (.inl u))), (a1, .inr (4, [.ref a2, .ref a3, .ref a4, .ref a5, .ref a6])), (a3, soF a7 a8 r), (a7, soV y r), (a8, soW y r)] t.heap ∧ va_D (va_A [(a0, .inl (y 4, 1, .inr (.inl od))), (a1, .inr (4, [.ref a2, .ref a3, .ref a4, .ref a5, .ref a6])), (a3, soF a7 a8 r), (a7, soV y r), (a8, soW y r)] zh) [(a0, .inl (y 4, 1, .inr (.inl u))), (a1, .inr (4, [.ref a2, .ref a3, .ref a4, .ref a5, .ref a6])), (a3, soF a7 a8 r), (a7, soV y r), (a8, soW y r)]) (va_A [(a0, .inl (y 4, 1, .inr (.inl od))), (a1, .inr (4, [.ref a2, .ref a3, .ref a4, .ref a5, .ref a6])), (a3, soF a7 a8 r), (a7, soV y r), (a8, soW y r)] zh)) 2 12 (va_A [(a0, .inl (y 4, 1, .inr (.inl od))), (a1, .inr (4, [.ref a2, .ref a3, .ref a4, .ref a5, .ref a6])), (a3, soF a7 a8 r), (a7, soV y r), (a8, soW y r)] zh) := by
  refine xL_of (vx_ofWH (cc := cL_movesTo) (maxL := 4) (ret := (some .int)) (hh := [(0, 9, 12, 27)]) (by decide) rfl ?_)
  intro p e s m args below meth c s₁ B hml hv
  obtain ⟨⟨⟨rfl, hsz, hP, hE, hD⟩, hXE, hXZ⟩, hLN⟩ := hv
  have hx := B.exec
  have hb := B.bytes
  have hr := B.returns
  have hts := atoms_spec (ws := wsL_movesTo) B.pre
  have hown : s.vm.findClass RL = some m.cls := findClass_of_methodNamed B.named
  have hlocks := B.notSynchronized
  have htab := vx_table (x := yL_movesTo) B (hts _ List.mem_cons_self)
  have w_0 := hts (.classLink RL 27 "java/lang/IndexOutOfBoundsException") (List.mem_cons_of_mem _ (List.mem_append_left _ (List.mem_append_left _ (List.mem_append_left _ (List.mem_append_left _ (List.mem_of_getElem? (i := 0) rfl))))))
  subst hsz
  have hD := hD.self (sz := s.heap.size)
  generalize hAe : va_A [(a0, .inl (y 4, 1, .inr (.inl od))), (a1, .inr (4, [.ref a2, .ref a3, .ref a4, .ref a5, .ref a6])), (a3, soF a7 a8 r), (a7, soV y r), (a8, soW y r)] s.heap.size = A at hD hXZ ⊢
  have hA : ∀ q : Nat, s.heap.size ≤ q → A q := fun q h => by rw [← hAe]; exact Or.inr h
  have hS : va_S A s.heap s.heap [] := va_S.rf
  have hl := lv_entry ([.ref a1, .int p1, .ref a0]) (n := 4) (Nat.le_of_ble_eq_true rfl)
  rw [lg_entry_eq]
  generalize (lg_sl ([.ref a1, .int p1, .ref a0]) ++ List.replicate (4 - (lg_sl ([.ref a1, .int p1, .ref a0])).length) Slot.unset).toArray = ls at hl ⊢
  have hl : lv_has ls 4 [(0, .ref a1), (1, .int p1), (2, .ref a0)] := hl
  have hF := f_L_movesTo_s od r p1
  refine lv_aload_n hx hb dL_movesTo_0 rfl (lv_at hl 2 rfl) ?_
  refine lv_iconst (v := 0) hx hb dL_movesTo_1 (by decide) ?_
  refine lv_aload_n hx hb dL_movesTo_2 rfl (lv_at hl 0 rfl) ?_
  refine lv_iload_n hx hb dL_movesTo_3 rfl (lv_at hl 1 rfl) ?_
  obtain ⟨q1, eq1⟩ : ∃ z : Nat × Int32, f_X5_movesTo r p1 = z := ⟨_, rfl⟩
  have hF := hF.trans (gLet_e eq1)
  refine xq_calli (vx_runV (As := [.int p1]) (rest := [.int 0, .ref a0]) ⟨hx, hb, hml, hown, hts⟩ (c_X5_movesTo l hst D y a1 a2 a3 a4 a5 a6 a7 a8 s.heap.size r p1 ho) (cwV 1 hts gL_movesTo_X5_movesTo rfl rfl rfl hd_X5_movesTo ⟨Nat.le_of_ble_eq_true rfl, Nat.le_of_ble_eq_true rfl⟩) (xV (q := (RX5, TX5, 5)) hE hXE hXZ hS hA (hP.sub [1, 2, 3, 4] rfl) (hD.sub [1, 2, 3, 4] (by decide) rfl) 0 rfl rfl) rfl rfl hl.1 rfl (lv_room (Nat.le_of_ble_eq_true rfl)) dL_movesTo_4 ⟨Nat.le_of_ble_eq_true rfl, Nat.le_of_ble_eq_true rfl⟩) hP hD hS hA [1, 2, 3, 4] rfl (by decide) (fun _ => rfl) (fun E5 ce6 a97 u3 H locs h4 hP hD hS h4a h4b h4c => ?_) (fun v2 u3 H locs h4 hP hD hS => ?_)
  · have h4q : q1.1 = xc E5 := by rw [← eq1, h4.1]
    have hP : va_P D vwCl [(a0, .inl (y 4, 1, .inr (.inl od))), (a1, .inr (4, [.ref a2, .ref a3, .ref a4, .ref a5, .ref a6])), (a3, soF a7 a8 r), (a7, soV y r), (a8, soW y r)] H := hP
    have hD : va_D A [(a0, .inl (y 4, 1, .inr (.inl od))), (a1, .inr (4, [.ref a2, .ref a3, .ref a4, .ref a5, .ref a6])), (a3, soF a7 a8 r), (a7, soV y r), (a8, soW y r)] := hD
    rcases xc_E h4.2 with rfl | rfl | rfl
    · rw [xc_IA] at h4q
      have hc := cd_X5_movesTo r p1
      rw [eq1, h4q] at hc
      exact absurd hc (by decide)
    · rw [xc_IS] at h4q
      have hc := cd_X5_movesTo r p1
      rw [eq1, h4q] at hc
      exact absurd hc (by decide)
    · rw [xc_IO] at h4q
      have hF := hF.trans (if_neg (show ¬ q1.1 = 0 by rw [h4q]; decide))
      refine vx_catch hown (tableOf []) ⟨0, 9, 12, 27⟩ (tableOf []) (htab.trans rfl) (fun z hz => nomatch hz) (by decide) (by decide) w_0 (hXE.1.1.2.2.use rfl) h4a h4b h4c ?_
      refine W.eq (g2 := F0 m 12 ls [.ref a97]) rfl ?_
      refine lv_astore_n (lv' := [(3, .ref a97), (0, .ref a1), (1, .int p1), (2, .ref a0)]) hx hb dL_movesTo_12 rfl hl (by decide) rfl (fun ls hl => ?_)
      refine lv_iconst (v := 1) hx hb dL_movesTo_13 (by decide) ?_
      refine W.widen (k := 2) (n := 12) (Nat.le_of_ble_eq_true rfl) (Nat.le_of_ble_eq_true rfl) ?_
      refine vx_ret ?_
      exact W.iret (v := 1) hx hb hr (fun t ht hW => ⟨⟨1, od, rfl, hF, ⟨by rw [ht]; exact hP, hD⟩⟩, hS.F ht⟩) hS.2.2 dL_movesTo_14
  · have h4q : q1.1 = 0 := by rw [← eq1, h4]
    obtain rfl : q1.2 = v2 := by rw [← eq1, h4]
    have hP : va_P D vwCl [(a0, .inl (y 4, 1, .inr (.inl od))), (a1, .inr (4, [.ref a2, .ref a3, .ref a4, .ref a5, .ref a6])), (a3, soF a7 a8 r), (a7, soV y r), (a8, soW y r)] H := hP
    have hD : va_D A [(a0, .inl (y 4, 1, .inr (.inl od))), (a1, .inr (4, [.ref a2, .ref a3, .ref a4, .ref a5, .ref a6])), (a3, soF a7 a8 r), (a7, soV y r), (a8, soW y r)] := hD
    have hF := hF.trans (if_pos h4q)
    refine lv_i2l (v := q1.2.toInt64) hx hb dL_movesTo_7 rfl ?_
    refine va_last hx hb hE.1 hP hD hS 0 4 rfl rfl (xin (by decide)) dL_movesTo_8 (fun H locs hP hD hS => ?_)
    have hP : va_P D vwCl [(a0, .inl (y 4, 1, .inr (.inl (vp_updL od ((0 : Int32).toNatClampNeg) q1.2.toInt64)))), (a1, .inr (4, [.ref a2, .ref a3, .ref a4, .ref a5, .ref a6])), (a3, soF a7 a8 r), (a7, soV y r), (a8, soW y r)] H := hP
    have hD : va_D A [(a0, .inl (y 4, 1, .inr (.inl (vp_updL od ((0 : Int32).toNatClampNeg) q1.2.toInt64)))), (a1, .inr (4, [.ref a2, .ref a3, .ref a4, .ref a5, .ref a6])), (a3, soF a7 a8 r), (a7, soV y r), (a8, soW y r)] := hD
    refine lv_goto (tgt := 15) hx hb dL_movesTo_9 (by decide) ?_
    refine lv_iconst (v := 0) hx hb dL_movesTo_15 (by decide) ?_
    refine W.widen (k := 2) (n := 12) (Nat.le_of_ble_eq_true rfl) (Nat.le_of_ble_eq_true rfl) ?_
    refine vx_ret ?_
    exact W.iret (v := 0) hx hb hr (fun t ht hW => ⟨⟨0, (vp_updL od ((0 : Int32).toNatClampNeg) q1.2.toInt64), rfl, hF, ⟨by rw [ht]; exact hP, hD⟩⟩, hS.F ht⟩) hS.2.2 dL_movesTo_16

def f_L_placeBehind (od : Nat → Int64) (r : gR) (p1 : Int32) (p2 : Int32) : Int32 × (Nat → Int64) :=
    gLet (f_X5_placeBehind r p1 p2) (fun (q1 : Nat × Int32) =>
    if q1.1 = 0 then
      (0, (vp_updL od ((0 : Int32).toNatClampNeg) q1.2.toInt64))
    else
      if q1.1 = 3 then
        (1, od)
      else
        (2, od))
theorem f_L_placeBehind_s (od : Nat → Int64) (r : gR) (p1 : Int32) (p2 : Int32) : f_L_placeBehind od r p1 p2 =
    (gLet (f_X5_placeBehind r p1 p2) (fun (q1 : Nat × Int32) =>
    if q1.1 = 0 then
      (0, (vp_updL od ((0 : Int32).toNatClampNeg) q1.2.toInt64))
    else
      if q1.1 = 3 then
        (1, od)
      else
        (2, od))) := rfl
theorem hd_L_placeBehind : yL_placeBehind.cls ≠ "java/lang/invoke/MethodHandle" ∧ yL_placeBehind.cls ≠ "java/lang/invoke/VarHandle" ∧ (parseMethodDescriptor yL_placeBehind.desc).map (fun d => d.parameters.length) = some 4 := by decide +kernel
set_option maxHeartbeats 4000000 in
set_option maxRecDepth 100000 in
theorem c_L_placeBehind (l : Launch) (hst : l.stackTraces = false) (D : va_G) (y : Nat → ClassId) (a0 a1 a2 a3 a4 a5 a6 a7 a8 : Nat) (zh : Nat) (od : Nat → Int64) (r : gR) (p1 : Int32) (p2 : Int32) (ho : okC r) : Met l yL_placeBehind wsL_placeBehind ({ frames := 8, cells := 2, slots := 12, locals := 125 }) (lP D y [.ref a1, .int p1, .int p2, .ref a0] zh [(a0, .inl (y 4, 1, .inr (.inl od))), (a1, .inr (4, [.ref a2, .ref a3, .ref a4, .ref a5, .ref a6])), (a3, soF a7 a8 r), (a7, soV y r), (a8, soW y r)]) (va_Qi (fun (v : Int32) (u : (Nat → Int64)) => f_L_placeBehind od r p1 p2 = (v, u)) (fun (u : (Nat → Int64)) t => va_P D vwCl [(a0, .inl (y 4, 1, .inr (.inl u))), (a1, .inr (4, [.ref a2, .ref a3, .ref a4, .ref a5, .ref a6])), (a3, soF a7 a8 r), (a7, soV y r), (a8, soW y r)] t.heap ∧ va_D (va_A [(a0, .inl (y 4, 1, .inr (.inl od))), (a1, .inr (4, [.ref a2, .ref a3, .ref a4, .ref a5, .ref a6])), (a3, soF a7 a8 r), (a7, soV y r), (a8, soW y r)] zh) [(a0, .inl (y 4, 1, .inr (.inl u))), (a1, .inr (4, [.ref a2, .ref a3, .ref a4, .ref a5, .ref a6])), (a3, soF a7 a8 r), (a7, soV y r), (a8, soW y r)]) (va_A [(a0, .inl (y 4, 1, .inr (.inl od))), (a1, .inr (4, [.ref a2, .ref a3, .ref a4, .ref a5, .ref a6])), (a3, soF a7 a8 r), (a7, soV y r), (a8, soW y r)] zh)) 2 12 (va_A [(a0, .inl (y 4, 1, .inr (.inl od))), (a1, .inr (4, [.ref a2, .ref a3, .ref a4, .ref a5, .ref a6])), (a3, soF a7 a8 r), (a7, soV y r), (a8, soW y r)] zh) := by
  refine xL_of (vx_ofWH (cc := cL_placeBehind) (maxL := 5) (ret := (some .int)) (hh := [(0, 10, 13, 27), (0, 10, 17, 13)]) (by decide) rfl ?_)
  intro p e s m args below meth c s₁ B hml hv
  obtain ⟨⟨⟨rfl, hsz, hP, hE, hD⟩, hXE, hXZ⟩, hLN⟩ := hv
  have hx := B.exec
  have hb := B.bytes
  have hr := B.returns
  have hts := atoms_spec (ws := wsL_placeBehind) B.pre
  have hown : s.vm.findClass RL = some m.cls := findClass_of_methodNamed B.named
  have hlocks := B.notSynchronized
  have htab := vx_table (x := yL_placeBehind) B (hts _ List.mem_cons_self)
  have w_0 := hts (.classLink RL 27 "java/lang/IndexOutOfBoundsException") (List.mem_cons_of_mem _ (List.mem_append_left _ (List.mem_append_left _ (List.mem_append_left _ (List.mem_append_left _ (List.mem_append_left _ (List.mem_of_getElem? (i := 0) rfl)))))))
  have w_1 := hts (.classLink RL 13 "java/lang/IllegalArgumentException") (List.mem_cons_of_mem _ (List.mem_append_left _ (List.mem_append_left _ (List.mem_append_left _ (List.mem_append_left _ (List.mem_append_left _ (List.mem_of_getElem? (i := 1) rfl)))))))
  subst hsz
  have hD := hD.self (sz := s.heap.size)
  generalize hAe : va_A [(a0, .inl (y 4, 1, .inr (.inl od))), (a1, .inr (4, [.ref a2, .ref a3, .ref a4, .ref a5, .ref a6])), (a3, soF a7 a8 r), (a7, soV y r), (a8, soW y r)] s.heap.size = A at hD hXZ ⊢
  have hA : ∀ q : Nat, s.heap.size ≤ q → A q := fun q h => by rw [← hAe]; exact Or.inr h
  have hS : va_S A s.heap s.heap [] := va_S.rf
  have hl := lv_entry ([.ref a1, .int p1, .int p2, .ref a0]) (n := 5) (Nat.le_of_ble_eq_true rfl)
  rw [lg_entry_eq]
  generalize (lg_sl ([.ref a1, .int p1, .int p2, .ref a0]) ++ List.replicate (5 - (lg_sl ([.ref a1, .int p1, .int p2, .ref a0])).length) Slot.unset).toArray = ls at hl ⊢
  have hl : lv_has ls 5 [(0, .ref a1), (1, .int p1), (2, .int p2), (3, .ref a0)] := hl
  have hF := f_L_placeBehind_s od r p1 p2
  refine lv_aload_n hx hb dL_placeBehind_0 rfl (lv_at hl 3 rfl) ?_
  refine lv_iconst (v := 0) hx hb dL_placeBehind_1 (by decide) ?_
  refine lv_aload_n hx hb dL_placeBehind_2 rfl (lv_at hl 0 rfl) ?_
  refine lv_iload_n hx hb dL_placeBehind_3 rfl (lv_at hl 1 rfl) ?_
  refine lv_iload_n hx hb dL_placeBehind_4 rfl (lv_at hl 2 rfl) ?_
  obtain ⟨q1, eq1⟩ : ∃ z : Nat × Int32, f_X5_placeBehind r p1 p2 = z := ⟨_, rfl⟩
  have hF := hF.trans (gLet_e eq1)
  refine xq_calli (vx_runV (As := [.int p1, .int p2]) (rest := [.int 0, .ref a0]) ⟨hx, hb, hml, hown, hts⟩ (c_X5_placeBehind l hst D y a1 a2 a3 a4 a5 a6 a7 a8 s.heap.size r p1 p2 ho) (cwV 2 hts gL_placeBehind_X5_placeBehind rfl rfl rfl hd_X5_placeBehind ⟨Nat.le_of_ble_eq_true rfl, Nat.le_of_ble_eq_true rfl⟩) (xV (q := (RX5, TX5, 5)) hE hXE hXZ hS hA (hP.sub [1, 2, 3, 4] rfl) (hD.sub [1, 2, 3, 4] (by decide) rfl) 0 rfl rfl) rfl rfl hl.1 rfl (lv_room (Nat.le_of_ble_eq_true rfl)) dL_placeBehind_5 ⟨Nat.le_of_ble_eq_true rfl, Nat.le_of_ble_eq_true rfl⟩) hP hD hS hA [1, 2, 3, 4] rfl (by decide) (fun _ => rfl) (fun E5 ce6 a97 u3 H locs h4 hP hD hS h4a h4b h4c => ?_) (fun v2 u3 H locs h4 hP hD hS => ?_)
  · have h4q : q1.1 = xc E5 := by rw [← eq1, h4.1]
    have hP : va_P D vwCl [(a0, .inl (y 4, 1, .inr (.inl od))), (a1, .inr (4, [.ref a2, .ref a3, .ref a4, .ref a5, .ref a6])), (a3, soF a7 a8 r), (a7, soV y r), (a8, soW y r)] H := hP
    have hD : va_D A [(a0, .inl (y 4, 1, .inr (.inl od))), (a1, .inr (4, [.ref a2, .ref a3, .ref a4, .ref a5, .ref a6])), (a3, soF a7 a8 r), (a7, soV y r), (a8, soW y r)] := hD
    rcases xc_E h4.2 with rfl | rfl | rfl
    · rw [xc_IA] at h4q
      have hF := hF.trans (if_neg (show ¬ q1.1 = 0 by rw [h4q]; decide))
      have hF := hF.trans (if_neg (show ¬ q1.1 = 3 by rw [h4q]; decide))
      refine vx_catch hown (tableOf [(0, 10, 13, 27)]) ⟨0, 10, 17, 13⟩ (tableOf []) (htab.trans rfl) (fun z hz => by simp only [tableOf, List.map_cons, List.map_nil, List.mem_cons, List.not_mem_nil, or_false] at hz; rcases hz with rfl; exact Or.inr ⟨by decide, _, w_0, hLN.1.2⟩) (by decide) (by decide) w_1 (hXE.1.1.1.use rfl) h4a h4b h4c ?_
      refine W.eq (g2 := F0 m 17 ls [.ref a97]) rfl ?_
      refine lv_astore (lv' := [(4, .ref a97), (0, .ref a1), (1, .int p1), (2, .int p2), (3, .ref a0)]) hx hb dL_placeBehind_17 hl (by decide) rfl (fun ls hl => ?_)
      refine lv_iconst (v := 2) hx hb dL_placeBehind_19 (by decide) ?_
      refine W.widen (k := 2) (n := 12) (Nat.le_of_ble_eq_true rfl) (Nat.le_of_ble_eq_true rfl) ?_
      refine vx_ret ?_
      exact W.iret (v := 2) hx hb hr (fun t ht hW => ⟨⟨2, od, rfl, hF, ⟨by rw [ht]; exact hP, hD⟩⟩, hS.F ht⟩) hS.2.2 dL_placeBehind_20
    · rw [xc_IS] at h4q
      have hc := cd_X5_placeBehind r p1 p2
      rw [eq1, h4q] at hc
      exact absurd hc (by decide)
    · rw [xc_IO] at h4q
      have hF := hF.trans (if_neg (show ¬ q1.1 = 0 by rw [h4q]; decide))
      have hF := hF.trans (if_pos h4q)
      refine vx_catch hown (tableOf []) ⟨0, 10, 13, 27⟩ (tableOf [(0, 10, 17, 13)]) (htab.trans rfl) (fun z hz => nomatch hz) (by decide) (by decide) w_0 (hXE.1.1.2.2.use rfl) h4a h4b h4c ?_
      refine W.eq (g2 := F0 m 13 ls [.ref a97]) rfl ?_
      refine lv_astore (lv' := [(4, .ref a97), (0, .ref a1), (1, .int p1), (2, .int p2), (3, .ref a0)]) hx hb dL_placeBehind_13 hl (by decide) rfl (fun ls hl => ?_)
      refine lv_iconst (v := 1) hx hb dL_placeBehind_15 (by decide) ?_
      refine W.widen (k := 2) (n := 12) (Nat.le_of_ble_eq_true rfl) (Nat.le_of_ble_eq_true rfl) ?_
      refine vx_ret ?_
      exact W.iret (v := 1) hx hb hr (fun t ht hW => ⟨⟨1, od, rfl, hF, ⟨by rw [ht]; exact hP, hD⟩⟩, hS.F ht⟩) hS.2.2 dL_placeBehind_16
  · have h4q : q1.1 = 0 := by rw [← eq1, h4]
    obtain rfl : q1.2 = v2 := by rw [← eq1, h4]
    have hP : va_P D vwCl [(a0, .inl (y 4, 1, .inr (.inl od))), (a1, .inr (4, [.ref a2, .ref a3, .ref a4, .ref a5, .ref a6])), (a3, soF a7 a8 r), (a7, soV y r), (a8, soW y r)] H := hP
    have hD : va_D A [(a0, .inl (y 4, 1, .inr (.inl od))), (a1, .inr (4, [.ref a2, .ref a3, .ref a4, .ref a5, .ref a6])), (a3, soF a7 a8 r), (a7, soV y r), (a8, soW y r)] := hD
    have hF := hF.trans (if_pos h4q)
    refine lv_i2l (v := q1.2.toInt64) hx hb dL_placeBehind_8 rfl ?_
    refine va_last hx hb hE.1 hP hD hS 0 4 rfl rfl (xin (by decide)) dL_placeBehind_9 (fun H locs hP hD hS => ?_)
    have hP : va_P D vwCl [(a0, .inl (y 4, 1, .inr (.inl (vp_updL od ((0 : Int32).toNatClampNeg) q1.2.toInt64)))), (a1, .inr (4, [.ref a2, .ref a3, .ref a4, .ref a5, .ref a6])), (a3, soF a7 a8 r), (a7, soV y r), (a8, soW y r)] H := hP
    have hD : va_D A [(a0, .inl (y 4, 1, .inr (.inl (vp_updL od ((0 : Int32).toNatClampNeg) q1.2.toInt64)))), (a1, .inr (4, [.ref a2, .ref a3, .ref a4, .ref a5, .ref a6])), (a3, soF a7 a8 r), (a7, soV y r), (a8, soW y r)] := hD
    refine lv_goto (tgt := 21) hx hb dL_placeBehind_10 (by decide) ?_
    refine lv_iconst (v := 0) hx hb dL_placeBehind_21 (by decide) ?_
    refine W.widen (k := 2) (n := 12) (Nat.le_of_ble_eq_true rfl) (Nat.le_of_ble_eq_true rfl) ?_
    refine vx_ret ?_
    exact W.iret (v := 0) hx hb hr (fun t ht hW => ⟨⟨0, (vp_updL od ((0 : Int32).toNatClampNeg) q1.2.toInt64), rfl, hF, ⟨by rw [ht]; exact hP, hD⟩⟩, hS.F ht⟩) hS.2.2 dL_placeBehind_22

def f_L_runScript (od : Nat → Int64) (r : gR) (rc : gR) (p1 : Int32) (p2 : Int64) : Int32 × gR × (Nat → Int64) :=
    gLet (f_X5_runScript r rc p1 p2) (fun (q1 : Nat × Int32 × gR) =>
    if q1.1 = 0 then
      (0, q1.2.2, (vp_updL od ((0 : Int32).toNatClampNeg) q1.2.1.toInt64))
    else
      (1, q1.2.2, od))
theorem f_L_runScript_s (od : Nat → Int64) (r : gR) (rc : gR) (p1 : Int32) (p2 : Int64) : f_L_runScript od r rc p1 p2 =
    (gLet (f_X5_runScript r rc p1 p2) (fun (q1 : Nat × Int32 × gR) =>
    if q1.1 = 0 then
      (0, q1.2.2, (vp_updL od ((0 : Int32).toNatClampNeg) q1.2.1.toInt64))
    else
      (1, q1.2.2, od))) := rfl
theorem hd_L_runScript : yL_runScript.cls ≠ "java/lang/invoke/MethodHandle" ∧ yL_runScript.cls ≠ "java/lang/invoke/VarHandle" ∧ (parseMethodDescriptor yL_runScript.desc).map (fun d => d.parameters.length) = some 4 := by decide +kernel
set_option maxHeartbeats 4000000 in
set_option maxRecDepth 100000 in
theorem c_L_runScript (l : Launch) (hst : l.stackTraces = false) (D : va_G) (y : Nat → ClassId) (a0 a1 a2 a3 a4 a5 a6 a7 a8 a9 a10 : Nat) (zh : Nat) (od : Nat → Int64) (r : gR) (rc : gR) (p1 : Int32) (p2 : Int64) (ho : okC r) : Met l yL_runScript wsL_runScript ({ frames := 7, cells := 2, slots := 12, locals := 161 }) (lP D y [.ref a1, .int p1, .long p2, .ref a0] zh [(a0, .inl (y 4, 1, .inr (.inl od))), (a1, .inr (4, [.ref a2, .ref a3, .ref a4, .ref a5, .ref a6])), (a3, soF a7 a8 r), (a7, soV y r), (a8, soW y r), (a4, soF a9 a10 rc), (a9, soV y rc), (a10, soW y rc)]) (va_Qi (fun (v : Int32) (u : gR × (Nat → Int64)) => f_L_runScript od r rc p1 p2 = (v, u)) (fun (u : gR × (Nat → Int64)) t => va_P D vwCl [(a0, .inl (y 4, 1, .inr (.inl u.2))), (a1, .inr (4, [.ref a2, .ref a3, .ref a4, .ref a5, .ref a6])), (a3, soF a7 a8 r), (a7, soV y r), (a8, soW y r), (a4, soF a9 a10 u.1), (a9, soV y u.1), (a10, soW y u.1)] t.heap ∧ va_D (va_A [(a0, .inl (y 4, 1, .inr (.inl od))), (a1, .inr (4, [.ref a2, .ref a3, .ref a4, .ref a5, .ref a6])), (a3, soF a7 a8 r), (a7, soV y r), (a8, soW y r), (a4, soF a9 a10 rc), (a9, soV y rc), (a10, soW y rc)] zh) [(a0, .inl (y 4, 1, .inr (.inl u.2))), (a1, .inr (4, [.ref a2, .ref a3, .ref a4, .ref a5, .ref a6])), (a3, soF a7 a8 r), (a7, soV y r), (a8, soW y r), (a4, soF a9 a10 u.1), (a9, soV y u.1), (a10, soW y u.1)]) (va_A [(a0, .inl (y 4, 1, .inr (.inl od))), (a1, .inr (4, [.ref a2, .ref a3, .ref a4, .ref a5, .ref a6])), (a3, soF a7 a8 r), (a7, soV y r), (a8, soW y r), (a4, soF a9 a10 rc), (a9, soV y rc), (a10, soW y rc)] zh)) 2 12 (va_A [(a0, .inl (y 4, 1, .inr (.inl od))), (a1, .inr (4, [.ref a2, .ref a3, .ref a4, .ref a5, .ref a6])), (a3, soF a7 a8 r), (a7, soV y r), (a8, soW y r), (a4, soF a9 a10 rc), (a9, soV y rc), (a10, soW y rc)] zh) := by
  refine xL_of (vx_ofWH (cc := cL_runScript) (maxL := 6) (ret := (some .int)) (hh := [(0, 11, 14, 13)]) (by decide) rfl ?_)
  intro p e s m args below meth c s₁ B hml hv
  obtain ⟨⟨⟨rfl, hsz, hP, hE, hD⟩, hXE, hXZ⟩, hLN⟩ := hv
  have hx := B.exec
  have hb := B.bytes
  have hr := B.returns
  have hts := atoms_spec (ws := wsL_runScript) B.pre
  have hown : s.vm.findClass RL = some m.cls := findClass_of_methodNamed B.named
  have hlocks := B.notSynchronized
  have htab := vx_table (x := yL_runScript) B (hts _ List.mem_cons_self)
  have w_0 := hts (.classLink RL 13 "java/lang/IllegalArgumentException") (List.mem_cons_of_mem _ (List.mem_append_left _ (List.mem_append_left _ (List.mem_append_left _ (List.mem_append_left _ (List.mem_of_getElem? (i := 0) rfl))))))
  subst hsz
  have hD := hD.self (sz := s.heap.size)
  generalize hAe : va_A [(a0, .inl (y 4, 1, .inr (.inl od))), (a1, .inr (4, [.ref a2, .ref a3, .ref a4, .ref a5, .ref a6])), (a3, soF a7 a8 r), (a7, soV y r), (a8, soW y r), (a4, soF a9 a10 rc), (a9, soV y rc), (a10, soW y rc)] s.heap.size = A at hD hXZ ⊢
  have hA : ∀ q : Nat, s.heap.size ≤ q → A q := fun q h => by rw [← hAe]; exact Or.inr h
  have hS : va_S A s.heap s.heap [] := va_S.rf
  have hl := lv_entry ([.ref a1, .int p1, .long p2, .ref a0]) (n := 6) (Nat.le_of_ble_eq_true rfl)
  rw [lg_entry_eq]
  generalize (lg_sl ([.ref a1, .int p1, .long p2, .ref a0]) ++ List.replicate (6 - (lg_sl ([.ref a1, .int p1, .long p2, .ref a0])).length) Slot.unset).toArray = ls at hl ⊢
  have hl : lv_has ls 6 [(0, .ref a1), (1, .int p1), (2, .long p2), (4, .ref a0)] := hl
  have hF := f_L_runScript_s od r rc p1 p2
  refine lv_aload hx hb dL_runScript_0 (lv_at hl 3 rfl) ?_
  refine lv_iconst (v := 0) hx hb dL_runScript_2 (by decide) ?_
  refine lv_aload_n hx hb dL_runScript_3 rfl (lv_at hl 0 rfl) ?_
  refine lv_iload_n hx hb dL_runScript_4 rfl (lv_at hl 1 rfl) ?_
  refine lv_lload_n hx hb dL_runScript_5 rfl (lv_at hl 2 rfl) ?_
  obtain ⟨q1, eq1⟩ : ∃ z : Nat × Int32 × gR, f_X5_runScript r rc p1 p2 = z := ⟨_, rfl⟩
  have hF := hF.trans (gLet_e eq1)
  refine xq_calli (vx_runV (As := [.int p1, .long p2]) (rest := [.int 0, .ref a0]) ⟨hx, hb, hml, hown, hts⟩ (c_X5_runScript l hst D y a1 a2 a3 a4 a5 a6 a7 a8 a9 a10 s.heap.size r rc p1 p2 ho) (cwV 2 hts gL_runScript_X5_runScript rfl rfl rfl hd_X5_runScript ⟨Nat.le_of_ble_eq_true rfl, Nat.le_of_ble_eq_true rfl⟩) (xV (q := (RX5, TX5, 5)) hE hXE hXZ hS hA (hP.sub [1, 2, 3, 4, 5, 6, 7] rfl) (hD.sub [1, 2, 3, 4, 5, 6, 7] (by decide) rfl) 0 rfl rfl) rfl rfl hl.1 rfl (lv_room (Nat.le_of_ble_eq_true rfl)) dL_runScript_6 ⟨Nat.le_of_ble_eq_true rfl, Nat.le_of_ble_eq_true rfl⟩) hP hD hS hA [1, 2, 3, 4, 5, 6, 7] rfl (by decide) (fun _ => rfl) (fun E5 ce6 a97 u3 H locs h4 hP hD hS h4a h4b h4c => ?_) (fun v2 u3 H locs h4 hP hD hS => ?_)
  · have h4q : q1.1 = xc E5 := by rw [← eq1, h4.1]
    obtain rfl : q1.2.2 = u3 := by rw [← eq1, h4.1]
    have hP : va_P D vwCl [(a0, .inl (y 4, 1, .inr (.inl od))), (a1, .inr (4, [.ref a2, .ref a3, .ref a4, .ref a5, .ref a6])), (a3, soF a7 a8 r), (a7, soV y r), (a8, soW y r), (a4, soF a9 a10 q1.2.2), (a9, soV y q1.2.2), (a10, soW y q1.2.2)] H := hP
    have hD : va_D A [(a0, .inl (y 4, 1, .inr (.inl od))), (a1, .inr (4, [.ref a2, .ref a3, .ref a4, .ref a5, .ref a6])), (a3, soF a7 a8 r), (a7, soV y r), (a8, soW y r), (a4, soF a9 a10 q1.2.2), (a9, soV y q1.2.2), (a10, soW y q1.2.2)] := hD
    rcases xc_E h4.2 with rfl | rfl | rfl
    · rw [xc_IA] at h4q
      have hF := hF.trans (if_neg (show ¬ q1.1 = 0 by rw [h4q]; decide))
      refine vx_catch hown (tableOf []) ⟨0, 11, 14, 13⟩ (tableOf []) (htab.trans rfl) (fun z hz => nomatch hz) (by decide) (by decide) w_0 (hXE.1.1.1.use rfl) h4a h4b h4c ?_
      refine W.eq (g2 := F0 m 14 ls [.ref a97]) rfl ?_
      refine lv_astore (lv' := [(5, .ref a97), (0, .ref a1), (1, .int p1), (2, .long p2), (4, .ref a0)]) hx hb dL_runScript_14 hl (by decide) rfl (fun ls hl => ?_)
      refine lv_iconst (v := 1) hx hb dL_runScript_16 (by decide) ?_
      refine W.widen (k := 2) (n := 12) (Nat.le_of_ble_eq_true rfl) (Nat.le_of_ble_eq_true rfl) ?_
      refine vx_ret ?_
      exact W.iret (v := 1) hx hb hr (fun t ht hW => ⟨⟨1, ⟨q1.2.2, od⟩, rfl, hF, ⟨by rw [ht]; exact hP, hD⟩⟩, hS.F ht⟩) hS.2.2 dL_runScript_17
    · rw [xc_IS] at h4q
      have hc := cd_X5_runScript r rc p1 p2
      rw [eq1, h4q] at hc
      exact absurd hc (by decide)
    · rw [xc_IO] at h4q
      have hc := cd_X5_runScript r rc p1 p2
      rw [eq1, h4q] at hc
      exact absurd hc (by decide)
  · have h4q : q1.1 = 0 := by rw [← eq1, h4]
    obtain ⟨rfl, rfl⟩ : q1.2.1 = v2 ∧ q1.2.2 = u3 := ⟨by rw [← eq1, h4], by rw [← eq1, h4]⟩
    have hP : va_P D vwCl [(a0, .inl (y 4, 1, .inr (.inl od))), (a1, .inr (4, [.ref a2, .ref a3, .ref a4, .ref a5, .ref a6])), (a3, soF a7 a8 r), (a7, soV y r), (a8, soW y r), (a4, soF a9 a10 q1.2.2), (a9, soV y q1.2.2), (a10, soW y q1.2.2)] H := hP
    have hD : va_D A [(a0, .inl (y 4, 1, .inr (.inl od))), (a1, .inr (4, [.ref a2, .ref a3, .ref a4, .ref a5, .ref a6])), (a3, soF a7 a8 r), (a7, soV y r), (a8, soW y r), (a4, soF a9 a10 q1.2.2), (a9, soV y q1.2.2), (a10, soW y q1.2.2)] := hD
    have hF := hF.trans (if_pos h4q)
    refine lv_i2l (v := q1.2.1.toInt64) hx hb dL_runScript_9 rfl ?_
    refine va_last hx hb hE.1 hP hD hS 0 4 rfl rfl (xin (by decide)) dL_runScript_10 (fun H locs hP hD hS => ?_)
    have hP : va_P D vwCl [(a0, .inl (y 4, 1, .inr (.inl (vp_updL od ((0 : Int32).toNatClampNeg) q1.2.1.toInt64)))), (a1, .inr (4, [.ref a2, .ref a3, .ref a4, .ref a5, .ref a6])), (a3, soF a7 a8 r), (a7, soV y r), (a8, soW y r), (a4, soF a9 a10 q1.2.2), (a9, soV y q1.2.2), (a10, soW y q1.2.2)] H := hP
    have hD : va_D A [(a0, .inl (y 4, 1, .inr (.inl (vp_updL od ((0 : Int32).toNatClampNeg) q1.2.1.toInt64)))), (a1, .inr (4, [.ref a2, .ref a3, .ref a4, .ref a5, .ref a6])), (a3, soF a7 a8 r), (a7, soV y r), (a8, soW y r), (a4, soF a9 a10 q1.2.2), (a9, soV y q1.2.2), (a10, soW y q1.2.2)] := hD
    refine lv_goto (tgt := 18) hx hb dL_runScript_11 (by decide) ?_
    refine lv_iconst (v := 0) hx hb dL_runScript_18 (by decide) ?_
    refine W.widen (k := 2) (n := 12) (Nat.le_of_ble_eq_true rfl) (Nat.le_of_ble_eq_true rfl) ?_
    refine vx_ret ?_
    exact W.iret (v := 0) hx hb hr (fun t ht hW => ⟨⟨0, ⟨q1.2.2, (vp_updL od ((0 : Int32).toNatClampNeg) q1.2.1.toInt64)⟩, rfl, hF, ⟨by rw [ht]; exact hP, hD⟩⟩, hS.F ht⟩) hS.2.2 dL_runScript_19

def f_L_simulate (od : Nat → Int64) (r : gR) (rc : gR) (p1 : Int64) (p2 : Int32) : Int32 × gR × (Nat → Int64) :=
    gLet (f_X5_simulate r rc p1 p2) (fun (q1 : Nat × Int32 × gR) =>
    if q1.1 = 0 then
      (0, q1.2.2, (vp_updL od ((0 : Int32).toNatClampNeg) q1.2.1.toInt64))
    else
      (1, q1.2.2, od))
theorem f_L_simulate_s (od : Nat → Int64) (r : gR) (rc : gR) (p1 : Int64) (p2 : Int32) : f_L_simulate od r rc p1 p2 =
    (gLet (f_X5_simulate r rc p1 p2) (fun (q1 : Nat × Int32 × gR) =>
    if q1.1 = 0 then
      (0, q1.2.2, (vp_updL od ((0 : Int32).toNatClampNeg) q1.2.1.toInt64))
    else
      (1, q1.2.2, od))) := rfl
theorem hd_L_simulate : yL_simulate.cls ≠ "java/lang/invoke/MethodHandle" ∧ yL_simulate.cls ≠ "java/lang/invoke/VarHandle" ∧ (parseMethodDescriptor yL_simulate.desc).map (fun d => d.parameters.length) = some 4 := by decide +kernel
set_option maxHeartbeats 4000000 in
set_option maxRecDepth 100000 in
theorem c_L_simulate (l : Launch) (hst : l.stackTraces = false) (D : va_G) (y : Nat → ClassId) (a0 a1 a2 a3 a4 a5 a6 a7 a8 a9 a10 : Nat) (zh : Nat) (od : Nat → Int64) (r : gR) (rc : gR) (p1 : Int64) (p2 : Int32) (ho : okC r) : Met l yL_simulate wsL_simulate ({ frames := 7, cells := 2, slots := 12, locals := 118 }) (lP D y [.ref a1, .long p1, .int p2, .ref a0] zh [(a0, .inl (y 4, 1, .inr (.inl od))), (a1, .inr (4, [.ref a2, .ref a3, .ref a4, .ref a5, .ref a6])), (a3, soF a7 a8 r), (a7, soV y r), (a8, soW y r), (a4, soF a9 a10 rc), (a9, soV y rc), (a10, soW y rc)]) (va_Qi (fun (v : Int32) (u : gR × (Nat → Int64)) => f_L_simulate od r rc p1 p2 = (v, u)) (fun (u : gR × (Nat → Int64)) t => va_P D vwCl [(a0, .inl (y 4, 1, .inr (.inl u.2))), (a1, .inr (4, [.ref a2, .ref a3, .ref a4, .ref a5, .ref a6])), (a3, soF a7 a8 r), (a7, soV y r), (a8, soW y r), (a4, soF a9 a10 u.1), (a9, soV y u.1), (a10, soW y u.1)] t.heap ∧ va_D (va_A [(a0, .inl (y 4, 1, .inr (.inl od))), (a1, .inr (4, [.ref a2, .ref a3, .ref a4, .ref a5, .ref a6])), (a3, soF a7 a8 r), (a7, soV y r), (a8, soW y r), (a4, soF a9 a10 rc), (a9, soV y rc), (a10, soW y rc)] zh) [(a0, .inl (y 4, 1, .inr (.inl u.2))), (a1, .inr (4, [.ref a2, .ref a3, .ref a4, .ref a5, .ref a6])), (a3, soF a7 a8 r), (a7, soV y r), (a8, soW y r), (a4, soF a9 a10 u.1), (a9, soV y u.1), (a10, soW y u.1)]) (va_A [(a0, .inl (y 4, 1, .inr (.inl od))), (a1, .inr (4, [.ref a2, .ref a3, .ref a4, .ref a5, .ref a6])), (a3, soF a7 a8 r), (a7, soV y r), (a8, soW y r), (a4, soF a9 a10 rc), (a9, soV y rc), (a10, soW y rc)] zh)) 2 12 (va_A [(a0, .inl (y 4, 1, .inr (.inl od))), (a1, .inr (4, [.ref a2, .ref a3, .ref a4, .ref a5, .ref a6])), (a3, soF a7 a8 r), (a7, soV y r), (a8, soW y r), (a4, soF a9 a10 rc), (a9, soV y rc), (a10, soW y rc)] zh) := by
  refine xL_of (vx_ofWH (cc := cL_simulate) (maxL := 6) (ret := (some .int)) (hh := [(0, 11, 14, 13)]) (by decide) rfl ?_)
  intro p e s m args below meth c s₁ B hml hv
  obtain ⟨⟨⟨rfl, hsz, hP, hE, hD⟩, hXE, hXZ⟩, hLN⟩ := hv
  have hx := B.exec
  have hb := B.bytes
  have hr := B.returns
  have hts := atoms_spec (ws := wsL_simulate) B.pre
  have hown : s.vm.findClass RL = some m.cls := findClass_of_methodNamed B.named
  have hlocks := B.notSynchronized
  have htab := vx_table (x := yL_simulate) B (hts _ List.mem_cons_self)
  have w_0 := hts (.classLink RL 13 "java/lang/IllegalArgumentException") (List.mem_cons_of_mem _ (List.mem_append_left _ (List.mem_append_left _ (List.mem_append_left _ (List.mem_append_left _ (List.mem_of_getElem? (i := 0) rfl))))))
  subst hsz
  have hD := hD.self (sz := s.heap.size)
  generalize hAe : va_A [(a0, .inl (y 4, 1, .inr (.inl od))), (a1, .inr (4, [.ref a2, .ref a3, .ref a4, .ref a5, .ref a6])), (a3, soF a7 a8 r), (a7, soV y r), (a8, soW y r), (a4, soF a9 a10 rc), (a9, soV y rc), (a10, soW y rc)] s.heap.size = A at hD hXZ ⊢
  have hA : ∀ q : Nat, s.heap.size ≤ q → A q := fun q h => by rw [← hAe]; exact Or.inr h
  have hS : va_S A s.heap s.heap [] := va_S.rf
  have hl := lv_entry ([.ref a1, .long p1, .int p2, .ref a0]) (n := 6) (Nat.le_of_ble_eq_true rfl)
  rw [lg_entry_eq]
  generalize (lg_sl ([.ref a1, .long p1, .int p2, .ref a0]) ++ List.replicate (6 - (lg_sl ([.ref a1, .long p1, .int p2, .ref a0])).length) Slot.unset).toArray = ls at hl ⊢
  have hl : lv_has ls 6 [(0, .ref a1), (1, .long p1), (3, .int p2), (4, .ref a0)] := hl
  have hF := f_L_simulate_s od r rc p1 p2
  refine lv_aload hx hb dL_simulate_0 (lv_at hl 3 rfl) ?_
  refine lv_iconst (v := 0) hx hb dL_simulate_2 (by decide) ?_
  refine lv_aload_n hx hb dL_simulate_3 rfl (lv_at hl 0 rfl) ?_
  refine lv_lload_n hx hb dL_simulate_4 rfl (lv_at hl 1 rfl) ?_
  refine lv_iload_n hx hb dL_simulate_5 rfl (lv_at hl 2 rfl) ?_
  obtain ⟨q1, eq1⟩ : ∃ z : Nat × Int32 × gR, f_X5_simulate r rc p1 p2 = z := ⟨_, rfl⟩
  have hF := hF.trans (gLet_e eq1)
  refine xq_calli (vx_runV (As := [.long p1, .int p2]) (rest := [.int 0, .ref a0]) ⟨hx, hb, hml, hown, hts⟩ (c_X5_simulate l hst D y a1 a2 a3 a4 a5 a6 a7 a8 a9 a10 s.heap.size r rc p1 p2 ho) (cwV 2 hts gL_simulate_X5_simulate rfl rfl rfl hd_X5_simulate ⟨Nat.le_of_ble_eq_true rfl, Nat.le_of_ble_eq_true rfl⟩) (xV (q := (RX5, TX5, 5)) hE hXE hXZ hS hA (hP.sub [1, 2, 3, 4, 5, 6, 7] rfl) (hD.sub [1, 2, 3, 4, 5, 6, 7] (by decide) rfl) 0 rfl rfl) rfl rfl hl.1 rfl (lv_room (Nat.le_of_ble_eq_true rfl)) dL_simulate_6 ⟨Nat.le_of_ble_eq_true rfl, Nat.le_of_ble_eq_true rfl⟩) hP hD hS hA [1, 2, 3, 4, 5, 6, 7] rfl (by decide) (fun _ => rfl) (fun E5 ce6 a97 u3 H locs h4 hP hD hS h4a h4b h4c => ?_) (fun v2 u3 H locs h4 hP hD hS => ?_)
  · have h4q : q1.1 = xc E5 := by rw [← eq1, h4.1]
    obtain rfl : q1.2.2 = u3 := by rw [← eq1, h4.1]
    have hP : va_P D vwCl [(a0, .inl (y 4, 1, .inr (.inl od))), (a1, .inr (4, [.ref a2, .ref a3, .ref a4, .ref a5, .ref a6])), (a3, soF a7 a8 r), (a7, soV y r), (a8, soW y r), (a4, soF a9 a10 q1.2.2), (a9, soV y q1.2.2), (a10, soW y q1.2.2)] H := hP
    have hD : va_D A [(a0, .inl (y 4, 1, .inr (.inl od))), (a1, .inr (4, [.ref a2, .ref a3, .ref a4, .ref a5, .ref a6])), (a3, soF a7 a8 r), (a7, soV y r), (a8, soW y r), (a4, soF a9 a10 q1.2.2), (a9, soV y q1.2.2), (a10, soW y q1.2.2)] := hD
    rcases xc_E h4.2 with rfl | rfl | rfl
    · rw [xc_IA] at h4q
      have hF := hF.trans (if_neg (show ¬ q1.1 = 0 by rw [h4q]; decide))
      refine vx_catch hown (tableOf []) ⟨0, 11, 14, 13⟩ (tableOf []) (htab.trans rfl) (fun z hz => nomatch hz) (by decide) (by decide) w_0 (hXE.1.1.1.use rfl) h4a h4b h4c ?_
      refine W.eq (g2 := F0 m 14 ls [.ref a97]) rfl ?_
      refine lv_astore (lv' := [(5, .ref a97), (0, .ref a1), (1, .long p1), (3, .int p2), (4, .ref a0)]) hx hb dL_simulate_14 hl (by decide) rfl (fun ls hl => ?_)
      refine lv_iconst (v := 1) hx hb dL_simulate_16 (by decide) ?_
      refine W.widen (k := 2) (n := 12) (Nat.le_of_ble_eq_true rfl) (Nat.le_of_ble_eq_true rfl) ?_
      refine vx_ret ?_
      exact W.iret (v := 1) hx hb hr (fun t ht hW => ⟨⟨1, ⟨q1.2.2, od⟩, rfl, hF, ⟨by rw [ht]; exact hP, hD⟩⟩, hS.F ht⟩) hS.2.2 dL_simulate_17
    · rw [xc_IS] at h4q
      have hc := cd_X5_simulate r rc p1 p2
      rw [eq1, h4q] at hc
      exact absurd hc (by decide)
    · rw [xc_IO] at h4q
      have hc := cd_X5_simulate r rc p1 p2
      rw [eq1, h4q] at hc
      exact absurd hc (by decide)
  · have h4q : q1.1 = 0 := by rw [← eq1, h4]
    obtain ⟨rfl, rfl⟩ : q1.2.1 = v2 ∧ q1.2.2 = u3 := ⟨by rw [← eq1, h4], by rw [← eq1, h4]⟩
    have hP : va_P D vwCl [(a0, .inl (y 4, 1, .inr (.inl od))), (a1, .inr (4, [.ref a2, .ref a3, .ref a4, .ref a5, .ref a6])), (a3, soF a7 a8 r), (a7, soV y r), (a8, soW y r), (a4, soF a9 a10 q1.2.2), (a9, soV y q1.2.2), (a10, soW y q1.2.2)] H := hP
    have hD : va_D A [(a0, .inl (y 4, 1, .inr (.inl od))), (a1, .inr (4, [.ref a2, .ref a3, .ref a4, .ref a5, .ref a6])), (a3, soF a7 a8 r), (a7, soV y r), (a8, soW y r), (a4, soF a9 a10 q1.2.2), (a9, soV y q1.2.2), (a10, soW y q1.2.2)] := hD
    have hF := hF.trans (if_pos h4q)
    refine lv_i2l (v := q1.2.1.toInt64) hx hb dL_simulate_9 rfl ?_
    refine va_last hx hb hE.1 hP hD hS 0 4 rfl rfl (xin (by decide)) dL_simulate_10 (fun H locs hP hD hS => ?_)
    have hP : va_P D vwCl [(a0, .inl (y 4, 1, .inr (.inl (vp_updL od ((0 : Int32).toNatClampNeg) q1.2.1.toInt64)))), (a1, .inr (4, [.ref a2, .ref a3, .ref a4, .ref a5, .ref a6])), (a3, soF a7 a8 r), (a7, soV y r), (a8, soW y r), (a4, soF a9 a10 q1.2.2), (a9, soV y q1.2.2), (a10, soW y q1.2.2)] H := hP
    have hD : va_D A [(a0, .inl (y 4, 1, .inr (.inl (vp_updL od ((0 : Int32).toNatClampNeg) q1.2.1.toInt64)))), (a1, .inr (4, [.ref a2, .ref a3, .ref a4, .ref a5, .ref a6])), (a3, soF a7 a8 r), (a7, soV y r), (a8, soW y r), (a4, soF a9 a10 q1.2.2), (a9, soV y q1.2.2), (a10, soW y q1.2.2)] := hD
    refine lv_goto (tgt := 18) hx hb dL_simulate_11 (by decide) ?_
    refine lv_iconst (v := 0) hx hb dL_simulate_18 (by decide) ?_
    refine W.widen (k := 2) (n := 12) (Nat.le_of_ble_eq_true rfl) (Nat.le_of_ble_eq_true rfl) ?_
    refine vx_ret ?_
    exact W.iret (v := 0) hx hb hr (fun t ht hW => ⟨⟨0, ⟨q1.2.2, (vp_updL od ((0 : Int32).toNatClampNeg) q1.2.1.toInt64)⟩, rfl, hF, ⟨by rw [ht]; exact hP, hD⟩⟩, hS.F ht⟩) hS.2.2 dL_simulate_19

def f_L_save (od : Nat → Int64) (tn : Int32) (tf : Nat → Int32) (r : gR) (rc : gR) (qz : Int32) (qn : Int32) (hq : Nat → Option gR) (lq : Nat → Option gR) (lfl : Nat → Int32) (p1 : Int32) : Int32 × (Nat → Option gR) × (Nat → Int32) × (Nat → Int64) :=
    gLet (f_X5_save tn tf r rc qz qn hq lq lfl p1) (fun (q1 : Nat × Int32 × (Nat → Option gR) × (Nat → Int32)) =>
    if q1.1 = 0 then
      (0, q1.2.2.1, q1.2.2.2, (vp_updL od ((0 : Int32).toNatClampNeg) q1.2.1.toInt64))
    else
      (1, q1.2.2.1, q1.2.2.2, od))
theorem f_L_save_s (od : Nat → Int64) (tn : Int32) (tf : Nat → Int32) (r : gR) (rc : gR) (qz : Int32) (qn : Int32) (hq : Nat → Option gR) (lq : Nat → Option gR) (lfl : Nat → Int32) (p1 : Int32) : f_L_save od tn tf r rc qz qn hq lq lfl p1 =
    (gLet (f_X5_save tn tf r rc qz qn hq lq lfl p1) (fun (q1 : Nat × Int32 × (Nat → Option gR) × (Nat → Int32)) =>
    if q1.1 = 0 then
      (0, q1.2.2.1, q1.2.2.2, (vp_updL od ((0 : Int32).toNatClampNeg) q1.2.1.toInt64))
    else
      (1, q1.2.2.1, q1.2.2.2, od))) := rfl
theorem hd_L_save : yL_save.cls ≠ "java/lang/invoke/MethodHandle" ∧ yL_save.cls ≠ "java/lang/invoke/VarHandle" ∧ (parseMethodDescriptor yL_save.desc).map (fun d => d.parameters.length) = some 3 := by decide +kernel
set_option maxHeartbeats 4000000 in
set_option maxRecDepth 100000 in
theorem c_L_save (l : Launch) (hst : l.stackTraces = false) (D : va_G) (y : Nat → ClassId) (a0 a1 a2 a3 a4 a5 a6 a7 a8 a9 a10 a11 a12 a13 a14 : Nat) (ga gb : Nat → Nat × Nat × Nat) (zh : Nat) (od : Nat → Int64) (tn : Int32) (tf : Nat → Int32) (r : gR) (rc : gR) (qz : Int32) (qn : Int32) (hq : Nat → Option gR) (lq : Nat → Option gR) (lfl : Nat → Int32) (p1 : Int32) (ho : okC r) : Met l yL_save wsL_save ({ frames := 8, cells := 4, slots := 86, locals := 123 }) (lP D y [.ref a1, .int p1, .ref a0] zh ((a0, .inl (y 4, 1, .inr (.inl od))) :: (a1, .inr (4, [.ref a2, .ref a3, .ref a4, .ref a5, .ref a6])) :: (a2, .inr (3, [.ref a7, .int tn])) :: (a7, .inl (y 1, 120, .inl tf)) :: (a3, soF a8 a9 r) :: (a8, soV y r) :: (a9, soW y r) :: (a4, soF a10 a11 rc) :: (a10, soV y rc) :: (a11, soW y rc) :: (a5, .inr (0, [.ref a12, .int qz, .int qn])) :: (a12, .inl (y 3, 14, .inr (.inr (.inr (.inr (gRf ga hq)))))) :: (a6, .inr (1, [.ref a13, .ref a14])) :: (a13, .inl (y 3, 2, .inr (.inr (.inr (.inr (gRf gb lq)))))) :: (a14, .inl (y 2, 2, .inl lfl)) :: gTail y ga gb hq lq)) (va_Qi (fun (v : Int32) (u : (Nat → Option gR) × (Nat → Int32) × (Nat → Int64)) => f_L_save od tn tf r rc qz qn hq lq lfl p1 = (v, u)) (fun (u : (Nat → Option gR) × (Nat → Int32) × (Nat → Int64)) t => ∃ (g1 g2 : Nat → Nat × Nat × Nat), va_P D vwCl ((a0, .inl (y 4, 1, .inr (.inl u.2.2))) :: (a1, .inr (4, [.ref a2, .ref a3, .ref a4, .ref a5, .ref a6])) :: (a2, .inr (3, [.ref a7, .int tn])) :: (a7, .inl (y 1, 120, .inl tf)) :: (a3, soF a8 a9 r) :: (a8, soV y r) :: (a9, soW y r) :: (a4, soF a10 a11 rc) :: (a10, soV y rc) :: (a11, soW y rc) :: (a5, .inr (0, [.ref a12, .int qz, .int qn])) :: (a12, .inl (y 3, 14, .inr (.inr (.inr (.inr (gRf g1 hq)))))) :: (a6, .inr (1, [.ref a13, .ref a14])) :: (a13, .inl (y 3, 2, .inr (.inr (.inr (.inr (gRf g2 u.1)))))) :: (a14, .inl (y 2, 2, .inl u.2.1)) :: gTail y g1 g2 hq u.1) t.heap ∧ va_D (va_A ((a0, .inl (y 4, 1, .inr (.inl od))) :: (a1, .inr (4, [.ref a2, .ref a3, .ref a4, .ref a5, .ref a6])) :: (a2, .inr (3, [.ref a7, .int tn])) :: (a7, .inl (y 1, 120, .inl tf)) :: (a3, soF a8 a9 r) :: (a8, soV y r) :: (a9, soW y r) :: (a4, soF a10 a11 rc) :: (a10, soV y rc) :: (a11, soW y rc) :: (a5, .inr (0, [.ref a12, .int qz, .int qn])) :: (a12, .inl (y 3, 14, .inr (.inr (.inr (.inr (gRf ga hq)))))) :: (a6, .inr (1, [.ref a13, .ref a14])) :: (a13, .inl (y 3, 2, .inr (.inr (.inr (.inr (gRf gb lq)))))) :: (a14, .inl (y 2, 2, .inl lfl)) :: gTail y ga gb hq lq) zh) ((a0, .inl (y 4, 1, .inr (.inl u.2.2))) :: (a1, .inr (4, [.ref a2, .ref a3, .ref a4, .ref a5, .ref a6])) :: (a2, .inr (3, [.ref a7, .int tn])) :: (a7, .inl (y 1, 120, .inl tf)) :: (a3, soF a8 a9 r) :: (a8, soV y r) :: (a9, soW y r) :: (a4, soF a10 a11 rc) :: (a10, soV y rc) :: (a11, soW y rc) :: (a5, .inr (0, [.ref a12, .int qz, .int qn])) :: (a12, .inl (y 3, 14, .inr (.inr (.inr (.inr (gRf g1 hq)))))) :: (a6, .inr (1, [.ref a13, .ref a14])) :: (a13, .inl (y 3, 2, .inr (.inr (.inr (.inr (gRf g2 u.1)))))) :: (a14, .inl (y 2, 2, .inl u.2.1)) :: gTail y g1 g2 hq u.1)) (va_A ((a0, .inl (y 4, 1, .inr (.inl od))) :: (a1, .inr (4, [.ref a2, .ref a3, .ref a4, .ref a5, .ref a6])) :: (a2, .inr (3, [.ref a7, .int tn])) :: (a7, .inl (y 1, 120, .inl tf)) :: (a3, soF a8 a9 r) :: (a8, soV y r) :: (a9, soW y r) :: (a4, soF a10 a11 rc) :: (a10, soV y rc) :: (a11, soW y rc) :: (a5, .inr (0, [.ref a12, .int qz, .int qn])) :: (a12, .inl (y 3, 14, .inr (.inr (.inr (.inr (gRf ga hq)))))) :: (a6, .inr (1, [.ref a13, .ref a14])) :: (a13, .inl (y 3, 2, .inr (.inr (.inr (.inr (gRf gb lq)))))) :: (a14, .inl (y 2, 2, .inl lfl)) :: gTail y ga gb hq lq) zh)) 4 86 (va_A ((a0, .inl (y 4, 1, .inr (.inl od))) :: (a1, .inr (4, [.ref a2, .ref a3, .ref a4, .ref a5, .ref a6])) :: (a2, .inr (3, [.ref a7, .int tn])) :: (a7, .inl (y 1, 120, .inl tf)) :: (a3, soF a8 a9 r) :: (a8, soV y r) :: (a9, soW y r) :: (a4, soF a10 a11 rc) :: (a10, soV y rc) :: (a11, soW y rc) :: (a5, .inr (0, [.ref a12, .int qz, .int qn])) :: (a12, .inl (y 3, 14, .inr (.inr (.inr (.inr (gRf ga hq)))))) :: (a6, .inr (1, [.ref a13, .ref a14])) :: (a13, .inl (y 3, 2, .inr (.inr (.inr (.inr (gRf gb lq)))))) :: (a14, .inl (y 2, 2, .inl lfl)) :: gTail y ga gb hq lq) zh) := by
  refine xL_of (vx_ofWH (cc := cL_save) (maxL := 4) (ret := (some .int)) (hh := [(0, 9, 12, 27)]) (by decide) rfl ?_)
  intro p e s m args below meth c s₁ B hml hv
  obtain ⟨⟨⟨rfl, hsz, hP, hE, hD⟩, hXE, hXZ⟩, hLN⟩ := hv
  have hx := B.exec
  have hb := B.bytes
  have hr := B.returns
  have hts := atoms_spec (ws := wsL_save) B.pre
  have hown : s.vm.findClass RL = some m.cls := findClass_of_methodNamed B.named
  have hlocks := B.notSynchronized
  have htab := vx_table (x := yL_save) B (hts _ List.mem_cons_self)
  have w_0 := hts (.classLink RL 27 "java/lang/IndexOutOfBoundsException") (List.mem_cons_of_mem _ (List.mem_append_left _ (List.mem_append_left _ (List.mem_append_left _ (List.mem_append_left _ (List.mem_append_left _ (List.mem_of_getElem? (i := 0) rfl)))))))
  subst hsz
  have hD := hD.self (sz := s.heap.size)
  generalize hAe : va_A ((a0, .inl (y 4, 1, .inr (.inl od))) :: (a1, .inr (4, [.ref a2, .ref a3, .ref a4, .ref a5, .ref a6])) :: (a2, .inr (3, [.ref a7, .int tn])) :: (a7, .inl (y 1, 120, .inl tf)) :: (a3, soF a8 a9 r) :: (a8, soV y r) :: (a9, soW y r) :: (a4, soF a10 a11 rc) :: (a10, soV y rc) :: (a11, soW y rc) :: (a5, .inr (0, [.ref a12, .int qz, .int qn])) :: (a12, .inl (y 3, 14, .inr (.inr (.inr (.inr (gRf ga hq)))))) :: (a6, .inr (1, [.ref a13, .ref a14])) :: (a13, .inl (y 3, 2, .inr (.inr (.inr (.inr (gRf gb lq)))))) :: (a14, .inl (y 2, 2, .inl lfl)) :: gTail y ga gb hq lq) s.heap.size = A at hD hXZ ⊢
  have hA : ∀ q : Nat, s.heap.size ≤ q → A q := fun q h => by rw [← hAe]; exact Or.inr h
  have hS : va_S A s.heap s.heap [] := va_S.rf
  have hl := lv_entry ([.ref a1, .int p1, .ref a0]) (n := 4) (Nat.le_of_ble_eq_true rfl)
  rw [lg_entry_eq]
  generalize (lg_sl ([.ref a1, .int p1, .ref a0]) ++ List.replicate (4 - (lg_sl ([.ref a1, .int p1, .ref a0])).length) Slot.unset).toArray = ls at hl ⊢
  have hl : lv_has ls 4 [(0, .ref a1), (1, .int p1), (2, .ref a0)] := hl
  have hF := f_L_save_s od tn tf r rc qz qn hq lq lfl p1
  obtain ⟨T, hT⟩ : ∃ T : va_W, gTail y ga gb hq lq = T := ⟨_, rfl⟩
  rw [hT] at hP hD
  refine lv_aload_n hx hb dL_save_0 rfl (lv_at hl 2 rfl) ?_
  refine lv_iconst (v := 0) hx hb dL_save_1 (by decide) ?_
  refine lv_aload_n hx hb dL_save_2 rfl (lv_at hl 0 rfl) ?_
  refine lv_iload_n hx hb dL_save_3 rfl (lv_at hl 1 rfl) ?_
  rw [← hT] at hP hD
  obtain ⟨q1, eq1⟩ : ∃ z : Nat × Int32 × (Nat → Option gR) × (Nat → Int32), f_X5_save tn tf r rc qz qn hq lq lfl p1 = z := ⟨_, rfl⟩
  have hF := hF.trans (gLet_e eq1)
  refine xq_callEi (ex := [(a0, .inl (y 4, 1, .inr (.inl od)))]) (vx_runV (As := [.int p1]) (rest := [.int 0, .ref a0]) ⟨hx, hb, hml, hown, hts⟩ (c_X5_save l hst D y a1 a2 a3 a4 a5 a6 a7 a8 a9 a10 a11 a12 a13 a14 ga gb s.heap.size tn tf r rc qz qn hq lq lfl p1 ho) (cwV 1 hts gL_save_X5_save rfl rfl rfl hd_X5_save ⟨Nat.le_of_ble_eq_true rfl, Nat.le_of_ble_eq_true rfl⟩) (xV (q := (RX5, TX5, 5)) hE hXE hXZ hS hA (xa_tlP hP) (xa_tlD hD) 0 rfl rfl) rfl rfl hl.1 rfl (lv_room (Nat.le_of_ble_eq_true rfl)) dL_save_4 ⟨Nat.le_of_ble_eq_true rfl, Nat.le_of_ble_eq_true rfl⟩) hP hD hS hA (fun E5 ce6 a97 u3 ga8 gb9 H locs h4 hP hD hS h4a h4b h4c => ?_) (fun v2 u3 ga8 gb9 H locs h4 hP hD hS => ?_)
  · have h4q : q1.1 = xc E5 := by rw [← eq1, h4.1]
    obtain rfl : q1.2.2 = u3 := by rw [← eq1, h4.1]
    have hP : va_P D vwCl ((a0, .inl (y 4, 1, .inr (.inl od))) :: (a1, .inr (4, [.ref a2, .ref a3, .ref a4, .ref a5, .ref a6])) :: (a2, .inr (3, [.ref a7, .int tn])) :: (a7, .inl (y 1, 120, .inl tf)) :: (a3, soF a8 a9 r) :: (a8, soV y r) :: (a9, soW y r) :: (a4, soF a10 a11 rc) :: (a10, soV y rc) :: (a11, soW y rc) :: (a5, .inr (0, [.ref a12, .int qz, .int qn])) :: (a12, .inl (y 3, 14, .inr (.inr (.inr (.inr (gRf ga8 hq)))))) :: (a6, .inr (1, [.ref a13, .ref a14])) :: (a13, .inl (y 3, 2, .inr (.inr (.inr (.inr (gRf gb9 q1.2.2.1)))))) :: (a14, .inl (y 2, 2, .inl q1.2.2.2)) :: gTail y ga8 gb9 hq q1.2.2.1) H := hP
    have hD : va_D A ((a0, .inl (y 4, 1, .inr (.inl od))) :: (a1, .inr (4, [.ref a2, .ref a3, .ref a4, .ref a5, .ref a6])) :: (a2, .inr (3, [.ref a7, .int tn])) :: (a7, .inl (y 1, 120, .inl tf)) :: (a3, soF a8 a9 r) :: (a8, soV y r) :: (a9, soW y r) :: (a4, soF a10 a11 rc) :: (a10, soV y rc) :: (a11, soW y rc) :: (a5, .inr (0, [.ref a12, .int qz, .int qn])) :: (a12, .inl (y 3, 14, .inr (.inr (.inr (.inr (gRf ga8 hq)))))) :: (a6, .inr (1, [.ref a13, .ref a14])) :: (a13, .inl (y 3, 2, .inr (.inr (.inr (.inr (gRf gb9 q1.2.2.1)))))) :: (a14, .inl (y 2, 2, .inl q1.2.2.2)) :: gTail y ga8 gb9 hq q1.2.2.1) := hD
    obtain ⟨T10, hT10⟩ : ∃ T : va_W, gTail y ga8 gb9 hq q1.2.2.1 = T := ⟨_, rfl⟩
    rw [hT10] at hP hD
    rcases xc_E h4.2 with rfl | rfl | rfl
    · rw [xc_IA] at h4q
      have hc := cd_X5_save tn tf r rc qz qn hq lq lfl p1
      rw [eq1, h4q] at hc
      exact absurd hc (by decide)
    · rw [xc_IS] at h4q
      have hc := cd_X5_save tn tf r rc qz qn hq lq lfl p1
      rw [eq1, h4q] at hc
      exact absurd hc (by decide)
    · rw [xc_IO] at h4q
      have hF := hF.trans (if_neg (show ¬ q1.1 = 0 by rw [h4q]; decide))
      refine vx_catch hown (tableOf []) ⟨0, 9, 12, 27⟩ (tableOf []) (htab.trans rfl) (fun z hz => nomatch hz) (by decide) (by decide) w_0 (hXE.1.1.2.2.use rfl) h4a h4b h4c ?_
      refine W.eq (g2 := F0 m 12 ls [.ref a97]) rfl ?_
      refine lv_astore_n (lv' := [(3, .ref a97), (0, .ref a1), (1, .int p1), (2, .ref a0)]) hx hb dL_save_12 rfl hl (by decide) rfl (fun ls hl => ?_)
      refine lv_iconst (v := 1) hx hb dL_save_13 (by decide) ?_
      refine W.widen (k := 4) (n := 86) (Nat.le_of_ble_eq_true rfl) (Nat.le_of_ble_eq_true rfl) ?_
      refine vx_ret ?_
      rw [← hT10] at hP hD
      exact W.iret (v := 1) hx hb hr (fun t ht hW => ⟨⟨1, ⟨q1.2.2.1, q1.2.2.2, od⟩, rfl, hF, ⟨ga8, gb9, by rw [ht]; exact hP, hD⟩⟩, hS.F ht⟩) hS.2.2 dL_save_14
  · have h4q : q1.1 = 0 := by rw [← eq1, h4]
    obtain ⟨rfl, rfl⟩ : q1.2.1 = v2 ∧ q1.2.2 = u3 := ⟨by rw [← eq1, h4], by rw [← eq1, h4]⟩
    have hP : va_P D vwCl ((a0, .inl (y 4, 1, .inr (.inl od))) :: (a1, .inr (4, [.ref a2, .ref a3, .ref a4, .ref a5, .ref a6])) :: (a2, .inr (3, [.ref a7, .int tn])) :: (a7, .inl (y 1, 120, .inl tf)) :: (a3, soF a8 a9 r) :: (a8, soV y r) :: (a9, soW y r) :: (a4, soF a10 a11 rc) :: (a10, soV y rc) :: (a11, soW y rc) :: (a5, .inr (0, [.ref a12, .int qz, .int qn])) :: (a12, .inl (y 3, 14, .inr (.inr (.inr (.inr (gRf ga8 hq)))))) :: (a6, .inr (1, [.ref a13, .ref a14])) :: (a13, .inl (y 3, 2, .inr (.inr (.inr (.inr (gRf gb9 q1.2.2.1)))))) :: (a14, .inl (y 2, 2, .inl q1.2.2.2)) :: gTail y ga8 gb9 hq q1.2.2.1) H := hP
    have hD : va_D A ((a0, .inl (y 4, 1, .inr (.inl od))) :: (a1, .inr (4, [.ref a2, .ref a3, .ref a4, .ref a5, .ref a6])) :: (a2, .inr (3, [.ref a7, .int tn])) :: (a7, .inl (y 1, 120, .inl tf)) :: (a3, soF a8 a9 r) :: (a8, soV y r) :: (a9, soW y r) :: (a4, soF a10 a11 rc) :: (a10, soV y rc) :: (a11, soW y rc) :: (a5, .inr (0, [.ref a12, .int qz, .int qn])) :: (a12, .inl (y 3, 14, .inr (.inr (.inr (.inr (gRf ga8 hq)))))) :: (a6, .inr (1, [.ref a13, .ref a14])) :: (a13, .inl (y 3, 2, .inr (.inr (.inr (.inr (gRf gb9 q1.2.2.1)))))) :: (a14, .inl (y 2, 2, .inl q1.2.2.2)) :: gTail y ga8 gb9 hq q1.2.2.1) := hD
    obtain ⟨T11, hT11⟩ : ∃ T : va_W, gTail y ga8 gb9 hq q1.2.2.1 = T := ⟨_, rfl⟩
    rw [hT11] at hP hD
    have hF := hF.trans (if_pos h4q)
    refine lv_i2l (v := q1.2.1.toInt64) hx hb dL_save_7 rfl ?_
    refine va_last hx hb hE.1 hP hD hS 0 4 rfl rfl (xin (by decide)) dL_save_8 (fun H locs hP hD hS => ?_)
    have hP : va_P D vwCl ((a0, .inl (y 4, 1, .inr (.inl (vp_updL od ((0 : Int32).toNatClampNeg) q1.2.1.toInt64)))) :: (a1, .inr (4, [.ref a2, .ref a3, .ref a4, .ref a5, .ref a6])) :: (a2, .inr (3, [.ref a7, .int tn])) :: (a7, .inl (y 1, 120, .inl tf)) :: (a3, soF a8 a9 r) :: (a8, soV y r) :: (a9, soW y r) :: (a4, soF a10 a11 rc) :: (a10, soV y rc) :: (a11, soW y rc) :: (a5, .inr (0, [.ref a12, .int qz, .int qn])) :: (a12, .inl (y 3, 14, .inr (.inr (.inr (.inr (gRf ga8 hq)))))) :: (a6, .inr (1, [.ref a13, .ref a14])) :: (a13, .inl (y 3, 2, .inr (.inr (.inr (.inr (gRf gb9 q1.2.2.1)))))) :: (a14, .inl (y 2, 2, .inl q1.2.2.2)) :: T11) H := hP
    have hD : va_D A ((a0, .inl (y 4, 1, .inr (.inl (vp_updL od ((0 : Int32).toNatClampNeg) q1.2.1.toInt64)))) :: (a1, .inr (4, [.ref a2, .ref a3, .ref a4, .ref a5, .ref a6])) :: (a2, .inr (3, [.ref a7, .int tn])) :: (a7, .inl (y 1, 120, .inl tf)) :: (a3, soF a8 a9 r) :: (a8, soV y r) :: (a9, soW y r) :: (a4, soF a10 a11 rc) :: (a10, soV y rc) :: (a11, soW y rc) :: (a5, .inr (0, [.ref a12, .int qz, .int qn])) :: (a12, .inl (y 3, 14, .inr (.inr (.inr (.inr (gRf ga8 hq)))))) :: (a6, .inr (1, [.ref a13, .ref a14])) :: (a13, .inl (y 3, 2, .inr (.inr (.inr (.inr (gRf gb9 q1.2.2.1)))))) :: (a14, .inl (y 2, 2, .inl q1.2.2.2)) :: T11) := hD
    refine lv_goto (tgt := 15) hx hb dL_save_9 (by decide) ?_
    refine lv_iconst (v := 0) hx hb dL_save_15 (by decide) ?_
    refine W.widen (k := 4) (n := 86) (Nat.le_of_ble_eq_true rfl) (Nat.le_of_ble_eq_true rfl) ?_
    refine vx_ret ?_
    rw [← hT11] at hP hD
    exact W.iret (v := 0) hx hb hr (fun t ht hW => ⟨⟨0, ⟨q1.2.2.1, q1.2.2.2, (vp_updL od ((0 : Int32).toNatClampNeg) q1.2.1.toInt64)⟩, rfl, hF, ⟨ga8, gb9, by rw [ht]; exact hP, hD⟩⟩, hS.F ht⟩) hS.2.2 dL_save_16

def f_L_restore (od : Nat → Int64) (tn : Int32) (tf : Nat → Int32) (r : gR) (rc : gR) (qz : Int32) (qn : Int32) (hq : Nat → Option gR) (lq : Nat → Option gR) (lfl : Nat → Int32) (p1 : Int32) : Int32 × gR × Int32 × (Nat → Int64) :=
    gLet (f_X5_restore tn tf r rc qz qn hq lq lfl p1) (fun (q1 : Nat × Int32 × gR × Int32) =>
    if q1.1 = 0 then
      (0, q1.2.2.1, q1.2.2.2, (vp_updL od ((0 : Int32).toNatClampNeg) q1.2.1.toInt64))
    else
      if q1.1 = 3 then
        (1, q1.2.2.1, q1.2.2.2, od)
      else
        (2, q1.2.2.1, q1.2.2.2, od))
theorem f_L_restore_s (od : Nat → Int64) (tn : Int32) (tf : Nat → Int32) (r : gR) (rc : gR) (qz : Int32) (qn : Int32) (hq : Nat → Option gR) (lq : Nat → Option gR) (lfl : Nat → Int32) (p1 : Int32) : f_L_restore od tn tf r rc qz qn hq lq lfl p1 =
    (gLet (f_X5_restore tn tf r rc qz qn hq lq lfl p1) (fun (q1 : Nat × Int32 × gR × Int32) =>
    if q1.1 = 0 then
      (0, q1.2.2.1, q1.2.2.2, (vp_updL od ((0 : Int32).toNatClampNeg) q1.2.1.toInt64))
    else
      if q1.1 = 3 then
        (1, q1.2.2.1, q1.2.2.2, od)
      else
        (2, q1.2.2.1, q1.2.2.2, od))) := rfl
theorem hd_L_restore : yL_restore.cls ≠ "java/lang/invoke/MethodHandle" ∧ yL_restore.cls ≠ "java/lang/invoke/VarHandle" ∧ (parseMethodDescriptor yL_restore.desc).map (fun d => d.parameters.length) = some 3 := by decide +kernel
set_option maxHeartbeats 4000000 in
set_option maxRecDepth 100000 in
theorem c_L_restore (l : Launch) (hst : l.stackTraces = false) (D : va_G) (y : Nat → ClassId) (a0 a1 a2 a3 a4 a5 a6 a7 a8 a9 a10 a11 a12 a13 a14 : Nat) (ga gb : Nat → Nat × Nat × Nat) (zh : Nat) (od : Nat → Int64) (tn : Int32) (tf : Nat → Int32) (r : gR) (rc : gR) (qz : Int32) (qn : Int32) (hq : Nat → Option gR) (lq : Nat → Option gR) (lfl : Nat → Int32) (p1 : Int32) (hoq : okQ lq) : Met l yL_restore wsL_restore ({ frames := 8, cells := 2, slots := 12, locals := 123 }) (lP D y [.ref a1, .int p1, .ref a0] zh ((a0, .inl (y 4, 1, .inr (.inl od))) :: (a1, .inr (4, [.ref a2, .ref a3, .ref a4, .ref a5, .ref a6])) :: (a2, .inr (3, [.ref a7, .int tn])) :: (a7, .inl (y 1, 120, .inl tf)) :: (a3, soF a8 a9 r) :: (a8, soV y r) :: (a9, soW y r) :: (a4, soF a10 a11 rc) :: (a10, soV y rc) :: (a11, soW y rc) :: (a5, .inr (0, [.ref a12, .int qz, .int qn])) :: (a12, .inl (y 3, 14, .inr (.inr (.inr (.inr (gRf ga hq)))))) :: (a6, .inr (1, [.ref a13, .ref a14])) :: (a13, .inl (y 3, 2, .inr (.inr (.inr (.inr (gRf gb lq)))))) :: (a14, .inl (y 2, 2, .inl lfl)) :: gTail y ga gb hq lq)) (va_Qi (fun (v : Int32) (u : gR × Int32 × (Nat → Int64)) => f_L_restore od tn tf r rc qz qn hq lq lfl p1 = (v, u)) (fun (u : gR × Int32 × (Nat → Int64)) t => ∃ (g1 g2 : Nat → Nat × Nat × Nat), va_P D vwCl ((a0, .inl (y 4, 1, .inr (.inl u.2.2))) :: (a1, .inr (4, [.ref a2, .ref a3, .ref a4, .ref a5, .ref a6])) :: (a2, .inr (3, [.ref a7, .int tn])) :: (a7, .inl (y 1, 120, .inl tf)) :: (a3, soF a8 a9 u.1) :: (a8, soV y u.1) :: (a9, soW y u.1) :: (a4, soF a10 a11 rc) :: (a10, soV y rc) :: (a11, soW y rc) :: (a5, .inr (0, [.ref a12, .int u.2.1, .int qn])) :: (a12, .inl (y 3, 14, .inr (.inr (.inr (.inr (gRf g1 hq)))))) :: (a6, .inr (1, [.ref a13, .ref a14])) :: (a13, .inl (y 3, 2, .inr (.inr (.inr (.inr (gRf g2 lq)))))) :: (a14, .inl (y 2, 2, .inl lfl)) :: gTail y g1 g2 hq lq) t.heap ∧ va_D (va_A ((a0, .inl (y 4, 1, .inr (.inl od))) :: (a1, .inr (4, [.ref a2, .ref a3, .ref a4, .ref a5, .ref a6])) :: (a2, .inr (3, [.ref a7, .int tn])) :: (a7, .inl (y 1, 120, .inl tf)) :: (a3, soF a8 a9 r) :: (a8, soV y r) :: (a9, soW y r) :: (a4, soF a10 a11 rc) :: (a10, soV y rc) :: (a11, soW y rc) :: (a5, .inr (0, [.ref a12, .int qz, .int qn])) :: (a12, .inl (y 3, 14, .inr (.inr (.inr (.inr (gRf ga hq)))))) :: (a6, .inr (1, [.ref a13, .ref a14])) :: (a13, .inl (y 3, 2, .inr (.inr (.inr (.inr (gRf gb lq)))))) :: (a14, .inl (y 2, 2, .inl lfl)) :: gTail y ga gb hq lq) zh) ((a0, .inl (y 4, 1, .inr (.inl u.2.2))) :: (a1, .inr (4, [.ref a2, .ref a3, .ref a4, .ref a5, .ref a6])) :: (a2, .inr (3, [.ref a7, .int tn])) :: (a7, .inl (y 1, 120, .inl tf)) :: (a3, soF a8 a9 u.1) :: (a8, soV y u.1) :: (a9, soW y u.1) :: (a4, soF a10 a11 rc) :: (a10, soV y rc) :: (a11, soW y rc) :: (a5, .inr (0, [.ref a12, .int u.2.1, .int qn])) :: (a12, .inl (y 3, 14, .inr (.inr (.inr (.inr (gRf g1 hq)))))) :: (a6, .inr (1, [.ref a13, .ref a14])) :: (a13, .inl (y 3, 2, .inr (.inr (.inr (.inr (gRf g2 lq)))))) :: (a14, .inl (y 2, 2, .inl lfl)) :: gTail y g1 g2 hq lq)) (va_A ((a0, .inl (y 4, 1, .inr (.inl od))) :: (a1, .inr (4, [.ref a2, .ref a3, .ref a4, .ref a5, .ref a6])) :: (a2, .inr (3, [.ref a7, .int tn])) :: (a7, .inl (y 1, 120, .inl tf)) :: (a3, soF a8 a9 r) :: (a8, soV y r) :: (a9, soW y r) :: (a4, soF a10 a11 rc) :: (a10, soV y rc) :: (a11, soW y rc) :: (a5, .inr (0, [.ref a12, .int qz, .int qn])) :: (a12, .inl (y 3, 14, .inr (.inr (.inr (.inr (gRf ga hq)))))) :: (a6, .inr (1, [.ref a13, .ref a14])) :: (a13, .inl (y 3, 2, .inr (.inr (.inr (.inr (gRf gb lq)))))) :: (a14, .inl (y 2, 2, .inl lfl)) :: gTail y ga gb hq lq) zh)) 2 12 (va_A ((a0, .inl (y 4, 1, .inr (.inl od))) :: (a1, .inr (4, [.ref a2, .ref a3, .ref a4, .ref a5, .ref a6])) :: (a2, .inr (3, [.ref a7, .int tn])) :: (a7, .inl (y 1, 120, .inl tf)) :: (a3, soF a8 a9 r) :: (a8, soV y r) :: (a9, soW y r) :: (a4, soF a10 a11 rc) :: (a10, soV y rc) :: (a11, soW y rc) :: (a5, .inr (0, [.ref a12, .int qz, .int qn])) :: (a12, .inl (y 3, 14, .inr (.inr (.inr (.inr (gRf ga hq)))))) :: (a6, .inr (1, [.ref a13, .ref a14])) :: (a13, .inl (y 3, 2, .inr (.inr (.inr (.inr (gRf gb lq)))))) :: (a14, .inl (y 2, 2, .inl lfl)) :: gTail y ga gb hq lq) zh) := by
  refine xL_of (vx_ofWH (cc := cL_restore) (maxL := 4) (ret := (some .int)) (hh := [(0, 9, 12, 27), (0, 9, 15, 15)]) (by decide) rfl ?_)
  intro p e s m args below meth c s₁ B hml hv
  obtain ⟨⟨⟨rfl, hsz, hP, hE, hD⟩, hXE, hXZ⟩, hLN⟩ := hv
  have hx := B.exec
  have hb := B.bytes
  have hr := B.returns
  have hts := atoms_spec (ws := wsL_restore) B.pre
  have hown : s.vm.findClass RL = some m.cls := findClass_of_methodNamed B.named
  have hlocks := B.notSynchronized
  have htab := vx_table (x := yL_restore) B (hts _ List.mem_cons_self)
  have w_0 := hts (.classLink RL 27 "java/lang/IndexOutOfBoundsException") (List.mem_cons_of_mem _ (List.mem_append_left _ (List.mem_append_left _ (List.mem_append_left _ (List.mem_append_left _ (List.mem_append_left _ (List.mem_append_left _ (List.mem_append_left _ (List.mem_of_getElem? (i := 0) rfl)))))))))
  have w_1 := hts (.classLink RL 15 "java/lang/IllegalStateException") (List.mem_cons_of_mem _ (List.mem_append_left _ (List.mem_append_left _ (List.mem_append_left _ (List.mem_append_left _ (List.mem_append_left _ (List.mem_append_left _ (List.mem_append_left _ (List.mem_of_getElem? (i := 1) rfl)))))))))
  subst hsz
  have hD := hD.self (sz := s.heap.size)
  generalize hAe : va_A ((a0, .inl (y 4, 1, .inr (.inl od))) :: (a1, .inr (4, [.ref a2, .ref a3, .ref a4, .ref a5, .ref a6])) :: (a2, .inr (3, [.ref a7, .int tn])) :: (a7, .inl (y 1, 120, .inl tf)) :: (a3, soF a8 a9 r) :: (a8, soV y r) :: (a9, soW y r) :: (a4, soF a10 a11 rc) :: (a10, soV y rc) :: (a11, soW y rc) :: (a5, .inr (0, [.ref a12, .int qz, .int qn])) :: (a12, .inl (y 3, 14, .inr (.inr (.inr (.inr (gRf ga hq)))))) :: (a6, .inr (1, [.ref a13, .ref a14])) :: (a13, .inl (y 3, 2, .inr (.inr (.inr (.inr (gRf gb lq)))))) :: (a14, .inl (y 2, 2, .inl lfl)) :: gTail y ga gb hq lq) s.heap.size = A at hD hXZ ⊢
  have hA : ∀ q : Nat, s.heap.size ≤ q → A q := fun q h => by rw [← hAe]; exact Or.inr h
  have hS : va_S A s.heap s.heap [] := va_S.rf
  have hl := lv_entry ([.ref a1, .int p1, .ref a0]) (n := 4) (Nat.le_of_ble_eq_true rfl)
  rw [lg_entry_eq]
  generalize (lg_sl ([.ref a1, .int p1, .ref a0]) ++ List.replicate (4 - (lg_sl ([.ref a1, .int p1, .ref a0])).length) Slot.unset).toArray = ls at hl ⊢
  have hl : lv_has ls 4 [(0, .ref a1), (1, .int p1), (2, .ref a0)] := hl
  have hF := f_L_restore_s od tn tf r rc qz qn hq lq lfl p1
  obtain ⟨T, hT⟩ : ∃ T : va_W, gTail y ga gb hq lq = T := ⟨_, rfl⟩
  rw [hT] at hP hD
  refine lv_aload_n hx hb dL_restore_0 rfl (lv_at hl 2 rfl) ?_
  refine lv_iconst (v := 0) hx hb dL_restore_1 (by decide) ?_
  refine lv_aload_n hx hb dL_restore_2 rfl (lv_at hl 0 rfl) ?_
  refine lv_iload_n hx hb dL_restore_3 rfl (lv_at hl 1 rfl) ?_
  rw [← hT] at hP hD
  obtain ⟨q1, eq1⟩ : ∃ z : Nat × Int32 × gR × Int32, f_X5_restore tn tf r rc qz qn hq lq lfl p1 = z := ⟨_, rfl⟩
  have hF := hF.trans (gLet_e eq1)
  refine xq_callEi (ex := [(a0, .inl (y 4, 1, .inr (.inl od)))]) (vx_runV (As := [.int p1]) (rest := [.int 0, .ref a0]) ⟨hx, hb, hml, hown, hts⟩ (c_X5_restore l hst D y a1 a2 a3 a4 a5 a6 a7 a8 a9 a10 a11 a12 a13 a14 ga gb s.heap.size tn tf r rc qz qn hq lq lfl p1 hoq) (cwV 1 hts gL_restore_X5_restore rfl rfl rfl hd_X5_restore ⟨Nat.le_of_ble_eq_true rfl, Nat.le_of_ble_eq_true rfl⟩) (xV (q := (RX5, TX5, 5)) hE hXE hXZ hS hA (xa_tlP hP) (xa_tlD hD) 0 rfl rfl) rfl rfl hl.1 rfl (lv_room (Nat.le_of_ble_eq_true rfl)) dL_restore_4 ⟨Nat.le_of_ble_eq_true rfl, Nat.le_of_ble_eq_true rfl⟩) hP hD hS hA (fun E5 ce6 a97 u3 ga8 gb9 H locs h4 hP hD hS h4a h4b h4c => ?_) (fun v2 u3 ga8 gb9 H locs h4 hP hD hS => ?_)
  · have h4q : q1.1 = xc E5 := by rw [← eq1, h4.1]
    obtain rfl : q1.2.2 = u3 := by rw [← eq1, h4.1]
    have hP : va_P D vwCl ((a0, .inl (y 4, 1, .inr (.inl od))) :: (a1, .inr (4, [.ref a2, .ref a3, .ref a4, .ref a5, .ref a6])) :: (a2, .inr (3, [.ref a7, .int tn])) :: (a7, .inl (y 1, 120, .inl tf)) :: (a3, soF a8 a9 q1.2.2.1) :: (a8, soV y q1.2.2.1) :: (a9, soW y q1.2.2.1) :: (a4, soF a10 a11 rc) :: (a10, soV y rc) :: (a11, soW y rc) :: (a5, .inr (0, [.ref a12, .int q1.2.2.2, .int qn])) :: (a12, .inl (y 3, 14, .inr (.inr (.inr (.inr (gRf ga8 hq)))))) :: (a6, .inr (1, [.ref a13, .ref a14])) :: (a13, .inl (y 3, 2, .inr (.inr (.inr (.inr (gRf gb9 lq)))))) :: (a14, .inl (y 2, 2, .inl lfl)) :: gTail y ga8 gb9 hq lq) H := hP
    have hD : va_D A ((a0, .inl (y 4, 1, .inr (.inl od))) :: (a1, .inr (4, [.ref a2, .ref a3, .ref a4, .ref a5, .ref a6])) :: (a2, .inr (3, [.ref a7, .int tn])) :: (a7, .inl (y 1, 120, .inl tf)) :: (a3, soF a8 a9 q1.2.2.1) :: (a8, soV y q1.2.2.1) :: (a9, soW y q1.2.2.1) :: (a4, soF a10 a11 rc) :: (a10, soV y rc) :: (a11, soW y rc) :: (a5, .inr (0, [.ref a12, .int q1.2.2.2, .int qn])) :: (a12, .inl (y 3, 14, .inr (.inr (.inr (.inr (gRf ga8 hq)))))) :: (a6, .inr (1, [.ref a13, .ref a14])) :: (a13, .inl (y 3, 2, .inr (.inr (.inr (.inr (gRf gb9 lq)))))) :: (a14, .inl (y 2, 2, .inl lfl)) :: gTail y ga8 gb9 hq lq) := hD
    obtain ⟨T10, hT10⟩ : ∃ T : va_W, gTail y ga8 gb9 hq lq = T := ⟨_, rfl⟩
    rw [hT10] at hP hD
    rcases xc_E h4.2 with rfl | rfl | rfl
    · rw [xc_IA] at h4q
      have hc := cd_X5_restore tn tf r rc qz qn hq lq lfl p1
      rw [eq1, h4q] at hc
      exact absurd hc (by decide)
    · rw [xc_IS] at h4q
      have hF := hF.trans (if_neg (show ¬ q1.1 = 0 by rw [h4q]; decide))
      have hF := hF.trans (if_neg (show ¬ q1.1 = 3 by rw [h4q]; decide))
      refine vx_catch hown (tableOf [(0, 9, 12, 27)]) ⟨0, 9, 15, 15⟩ (tableOf []) (htab.trans rfl) (fun z hz => by simp only [tableOf, List.map_cons, List.map_nil, List.mem_cons, List.not_mem_nil, or_false] at hz; rcases hz with rfl; exact Or.inr ⟨by decide, _, w_0, hLN.2.1.2⟩) (by decide) (by decide) w_1 (hXE.1.1.2.1.use rfl) h4a h4b h4c ?_
      refine W.eq (g2 := F0 m 15 ls [.ref a97]) rfl ?_
      refine lv_astore_n (lv' := [(3, .ref a97), (0, .ref a1), (1, .int p1), (2, .ref a0)]) hx hb dL_restore_15 rfl hl (by decide) rfl (fun ls hl => ?_)
      refine lv_iconst (v := 2) hx hb dL_restore_16 (by decide) ?_
      refine W.widen (k := 2) (n := 12) (Nat.le_of_ble_eq_true rfl) (Nat.le_of_ble_eq_true rfl) ?_
      refine vx_ret ?_
      rw [← hT10] at hP hD
      exact W.iret (v := 2) hx hb hr (fun t ht hW => ⟨⟨2, ⟨q1.2.2.1, q1.2.2.2, od⟩, rfl, hF, ⟨ga8, gb9, by rw [ht]; exact hP, hD⟩⟩, hS.F ht⟩) hS.2.2 dL_restore_17
    · rw [xc_IO] at h4q
      have hF := hF.trans (if_neg (show ¬ q1.1 = 0 by rw [h4q]; decide))
      have hF := hF.trans (if_pos h4q)
      refine vx_catch hown (tableOf []) ⟨0, 9, 12, 27⟩ (tableOf [(0, 9, 15, 15)]) (htab.trans rfl) (fun z hz => nomatch hz) (by decide) (by decide) w_0 (hXE.1.1.2.2.use rfl) h4a h4b h4c ?_
      refine W.eq (g2 := F0 m 12 ls [.ref a97]) rfl ?_
      refine lv_astore_n (lv' := [(3, .ref a97), (0, .ref a1), (1, .int p1), (2, .ref a0)]) hx hb dL_restore_12 rfl hl (by decide) rfl (fun ls hl => ?_)
      refine lv_iconst (v := 1) hx hb dL_restore_13 (by decide) ?_
      refine W.widen (k := 2) (n := 12) (Nat.le_of_ble_eq_true rfl) (Nat.le_of_ble_eq_true rfl) ?_
      refine vx_ret ?_
      rw [← hT10] at hP hD
      exact W.iret (v := 1) hx hb hr (fun t ht hW => ⟨⟨1, ⟨q1.2.2.1, q1.2.2.2, od⟩, rfl, hF, ⟨ga8, gb9, by rw [ht]; exact hP, hD⟩⟩, hS.F ht⟩) hS.2.2 dL_restore_14
  · have h4q : q1.1 = 0 := by rw [← eq1, h4]
    obtain ⟨rfl, rfl⟩ : q1.2.1 = v2 ∧ q1.2.2 = u3 := ⟨by rw [← eq1, h4], by rw [← eq1, h4]⟩
    have hP : va_P D vwCl ((a0, .inl (y 4, 1, .inr (.inl od))) :: (a1, .inr (4, [.ref a2, .ref a3, .ref a4, .ref a5, .ref a6])) :: (a2, .inr (3, [.ref a7, .int tn])) :: (a7, .inl (y 1, 120, .inl tf)) :: (a3, soF a8 a9 q1.2.2.1) :: (a8, soV y q1.2.2.1) :: (a9, soW y q1.2.2.1) :: (a4, soF a10 a11 rc) :: (a10, soV y rc) :: (a11, soW y rc) :: (a5, .inr (0, [.ref a12, .int q1.2.2.2, .int qn])) :: (a12, .inl (y 3, 14, .inr (.inr (.inr (.inr (gRf ga8 hq)))))) :: (a6, .inr (1, [.ref a13, .ref a14])) :: (a13, .inl (y 3, 2, .inr (.inr (.inr (.inr (gRf gb9 lq)))))) :: (a14, .inl (y 2, 2, .inl lfl)) :: gTail y ga8 gb9 hq lq) H := hP
    have hD : va_D A ((a0, .inl (y 4, 1, .inr (.inl od))) :: (a1, .inr (4, [.ref a2, .ref a3, .ref a4, .ref a5, .ref a6])) :: (a2, .inr (3, [.ref a7, .int tn])) :: (a7, .inl (y 1, 120, .inl tf)) :: (a3, soF a8 a9 q1.2.2.1) :: (a8, soV y q1.2.2.1) :: (a9, soW y q1.2.2.1) :: (a4, soF a10 a11 rc) :: (a10, soV y rc) :: (a11, soW y rc) :: (a5, .inr (0, [.ref a12, .int q1.2.2.2, .int qn])) :: (a12, .inl (y 3, 14, .inr (.inr (.inr (.inr (gRf ga8 hq)))))) :: (a6, .inr (1, [.ref a13, .ref a14])) :: (a13, .inl (y 3, 2, .inr (.inr (.inr (.inr (gRf gb9 lq)))))) :: (a14, .inl (y 2, 2, .inl lfl)) :: gTail y ga8 gb9 hq lq) := hD
    obtain ⟨T11, hT11⟩ : ∃ T : va_W, gTail y ga8 gb9 hq lq = T := ⟨_, rfl⟩
    rw [hT11] at hP hD
    have hF := hF.trans (if_pos h4q)
    refine lv_i2l (v := q1.2.1.toInt64) hx hb dL_restore_7 rfl ?_
    refine va_last hx hb hE.1 hP hD hS 0 4 rfl rfl (xin (by decide)) dL_restore_8 (fun H locs hP hD hS => ?_)
    have hP : va_P D vwCl ((a0, .inl (y 4, 1, .inr (.inl (vp_updL od ((0 : Int32).toNatClampNeg) q1.2.1.toInt64)))) :: (a1, .inr (4, [.ref a2, .ref a3, .ref a4, .ref a5, .ref a6])) :: (a2, .inr (3, [.ref a7, .int tn])) :: (a7, .inl (y 1, 120, .inl tf)) :: (a3, soF a8 a9 q1.2.2.1) :: (a8, soV y q1.2.2.1) :: (a9, soW y q1.2.2.1) :: (a4, soF a10 a11 rc) :: (a10, soV y rc) :: (a11, soW y rc) :: (a5, .inr (0, [.ref a12, .int q1.2.2.2, .int qn])) :: (a12, .inl (y 3, 14, .inr (.inr (.inr (.inr (gRf ga8 hq)))))) :: (a6, .inr (1, [.ref a13, .ref a14])) :: (a13, .inl (y 3, 2, .inr (.inr (.inr (.inr (gRf gb9 lq)))))) :: (a14, .inl (y 2, 2, .inl lfl)) :: T11) H := hP
    have hD : va_D A ((a0, .inl (y 4, 1, .inr (.inl (vp_updL od ((0 : Int32).toNatClampNeg) q1.2.1.toInt64)))) :: (a1, .inr (4, [.ref a2, .ref a3, .ref a4, .ref a5, .ref a6])) :: (a2, .inr (3, [.ref a7, .int tn])) :: (a7, .inl (y 1, 120, .inl tf)) :: (a3, soF a8 a9 q1.2.2.1) :: (a8, soV y q1.2.2.1) :: (a9, soW y q1.2.2.1) :: (a4, soF a10 a11 rc) :: (a10, soV y rc) :: (a11, soW y rc) :: (a5, .inr (0, [.ref a12, .int q1.2.2.2, .int qn])) :: (a12, .inl (y 3, 14, .inr (.inr (.inr (.inr (gRf ga8 hq)))))) :: (a6, .inr (1, [.ref a13, .ref a14])) :: (a13, .inl (y 3, 2, .inr (.inr (.inr (.inr (gRf gb9 lq)))))) :: (a14, .inl (y 2, 2, .inl lfl)) :: T11) := hD
    refine lv_goto (tgt := 18) hx hb dL_restore_9 (by decide) ?_
    refine lv_iconst (v := 0) hx hb dL_restore_18 (by decide) ?_
    refine W.widen (k := 2) (n := 12) (Nat.le_of_ble_eq_true rfl) (Nat.le_of_ble_eq_true rfl) ?_
    refine vx_ret ?_
    rw [← hT11] at hP hD
    exact W.iret (v := 0) hx hb hr (fun t ht hW => ⟨⟨0, ⟨q1.2.2.1, q1.2.2.2, (vp_updL od ((0 : Int32).toNatClampNeg) q1.2.1.toInt64)⟩, rfl, hF, ⟨ga8, gb9, by rw [ht]; exact hP, hD⟩⟩, hS.F ht⟩) hS.2.2 dL_restore_19
