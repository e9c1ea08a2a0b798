/-! THE LAW'S OWN METHODS, 3 -/

def f_L_tryLife (r : gR) (rc : gR) (p1 : Int32) : Int32 × gR :=
    gLet (f_X5_life r rc p1) (fun (q1 : Nat × Int32 × gR) =>
    if q1.1 = 0 then
      (q1.2.1, q1.2.2)
    else
      ((-9999001), q1.2.2))
theorem f_L_tryLife_s (r : gR) (rc : gR) (p1 : Int32) : f_L_tryLife r rc p1 =
    (gLet (f_X5_life r rc p1) (fun (q1 : Nat × Int32 × gR) =>
    if q1.1 = 0 then
      (q1.2.1, q1.2.2)
    else
      ((-9999001), q1.2.2))) := rfl
theorem hd_L_tryLife : yL_tryLife.cls ≠ "java/lang/invoke/MethodHandle" ∧ yL_tryLife.cls ≠ "java/lang/invoke/VarHandle" ∧ (parseMethodDescriptor yL_tryLife.desc).map (fun d => d.parameters.length) = some 2 := by decide +kernel
set_option maxHeartbeats 4000000 in
set_option maxRecDepth 100000 in
theorem c_L_tryLife (l : Launch) (hst : l.stackTraces = false) (D : va_G) (y : Nat → ClassId) (a0 a1 a2 a3 a4 a5 a6 a7 a8 a9 : Nat) (zh : Nat) (r : gR) (rc : gR) (p1 : Int32) (ho : okC r) : Met l yL_tryLife wsL_tryLife ({ frames := 8, cells := 2, slots := 12, locals := 124 }) (lP D y [.ref a0, .int p1] zh [(a0, .inr (4, [.ref a1, .ref a2, .ref a3, .ref a4, .ref a5])), (a2, soF a6 a7 r), (a6, soV y r), (a7, soW y r), (a3, soF a8 a9 rc), (a8, soV y rc), (a9, soW y rc)]) (va_Qi (fun (v : Int32) (u : gR) => f_L_tryLife r rc p1 = (v, u)) (fun (u : gR) t => va_P D vwCl [(a0, .inr (4, [.ref a1, .ref a2, .ref a3, .ref a4, .ref a5])), (a2, soF a6 a7 r), (a6, soV y r), (a7, soW y r), (a3, soF a8 a9 u), (a8, soV y u), (a9, soW y u)] t.heap ∧ va_D (va_A [(a0, .inr (4, [.ref a1, .ref a2, .ref a3, .ref a4, .ref a5])), (a2, soF a6 a7 r), (a6, soV y r), (a7, soW y r), (a3, soF a8 a9 rc), (a8, soV y rc), (a9, soW y rc)] zh) [(a0, .inr (4, [.ref a1, .ref a2, .ref a3, .ref a4, .ref a5])), (a2, soF a6 a7 r), (a6, soV y r), (a7, soW y r), (a3, soF a8 a9 u), (a8, soV y u), (a9, soW y u)]) (va_A [(a0, .inr (4, [.ref a1, .ref a2, .ref a3, .ref a4, .ref a5])), (a2, soF a6 a7 r), (a6, soV y r), (a7, soW y r), (a3, soF a8 a9 rc), (a8, soV y rc), (a9, soW y rc)] zh)) 2 12 (va_A [(a0, .inr (4, [.ref a1, .ref a2, .ref a3, .ref a4, .ref a5])), (a2, soF a6 a7 r), (a6, soV y r), (a7, soW y r), (a3, soF a8 a9 rc), (a8, soV y rc), (a9, soW y rc)] zh) := by
  refine xL_of (vx_ofWH (cc := cL_tryLife) (maxL := 3) (ret := (some .int)) (hh := [(0, 5, 6, 37)]) (by decide) rfl ?_)
  intro p e s m args below meth c s₁ B hml hv
  obtain ⟨⟨⟨rfl, hsz, hP, hE, hD⟩, hXE, hXZ⟩, hLN⟩ := hv
  have hx := B.exec
  have hb := B.bytes
  have hr := B.returns
  have hts := atoms_spec (ws := wsL_tryLife) B.pre
  have hown : s.vm.findClass RL = some m.cls := findClass_of_methodNamed B.named
  have hlocks := B.notSynchronized
  have htab := vx_table (x := yL_tryLife) B (hts _ List.mem_cons_self)
  have w_0 := hts (.classLink RL 37 "java/lang/IndexOutOfBoundsException") (List.mem_cons_of_mem _ (List.mem_append_left _ (List.mem_append_left _ (List.mem_append_left _ (List.mem_append_left _ (List.mem_of_getElem? (i := 0) rfl))))))
  have w_1 := hts (.constant RL 39 (-9999001)) (List.mem_cons_of_mem _ (List.mem_append_left _ (List.mem_append_left _ (List.mem_append_left _ (List.mem_append_left _ (List.mem_of_getElem? (i := 1) rfl))))))
  subst hsz
  have hD := hD.self (sz := s.heap.size)
  generalize hAe : va_A [(a0, .inr (4, [.ref a1, .ref a2, .ref a3, .ref a4, .ref a5])), (a2, soF a6 a7 r), (a6, soV y r), (a7, soW y r), (a3, soF a8 a9 rc), (a8, soV y rc), (a9, soW y rc)] s.heap.size = A at hD hXZ ⊢
  have hA : ∀ q : Nat, s.heap.size ≤ q → A q := fun q h => by rw [← hAe]; exact Or.inr h
  have hS : va_S A s.heap s.heap [] := va_S.rf
  have hl := lv_entry ([.ref a0, .int p1]) (n := 3) (Nat.le_of_ble_eq_true rfl)
  rw [lg_entry_eq]
  generalize (lg_sl ([.ref a0, .int p1]) ++ List.replicate (3 - (lg_sl ([.ref a0, .int p1])).length) Slot.unset).toArray = ls at hl ⊢
  have hl : lv_has ls 3 [(0, .ref a0), (1, .int p1)] := hl
  have hF := f_L_tryLife_s r rc p1
  refine lv_aload_n hx hb dL_tryLife_0 rfl (lv_at hl 0 rfl) ?_
  refine lv_iload_n hx hb dL_tryLife_1 rfl (lv_at hl 1 rfl) ?_
  obtain ⟨q1, eq1⟩ : ∃ z : Nat × Int32 × gR, f_X5_life r rc p1 = z := ⟨_, rfl⟩
  have hF := hF.trans (gLet_e eq1)
  refine xq_calli (vx_runV (As := [.int p1]) (rest := []) ⟨hx, hb, hml, hown, hts⟩ (c_X5_life l hst D y a0 a1 a2 a3 a4 a5 a6 a7 a8 a9 s.heap.size r rc p1 ho) (cwV 1 hts gL_tryLife_X5_life rfl rfl rfl hd_X5_life ⟨Nat.le_of_ble_eq_true rfl, Nat.le_of_ble_eq_true rfl⟩) (xV (q := (RX5, TX5, 5)) hE hXE hXZ hS hA hP hD 0 rfl rfl) rfl rfl hl.1 rfl (lv_room (Nat.le_of_ble_eq_true rfl)) dL_tryLife_2 ⟨Nat.le_of_ble_eq_true rfl, Nat.le_of_ble_eq_true rfl⟩) hP hD hS hA [0, 1, 2, 3, 4, 5, 6] rfl (by decide) (fun _ => rfl) (fun E5 ce6 a97 u3 H locs h4 hP hD hS h4a h4b h4c => ?_) (fun v2 u3 H locs h4 hP hD hS => ?_)
  · have h4q : q1.1 = xc E5 := by rw [← eq1, h4.1]
    obtain rfl : q1.2.2 = u3 := by rw [← eq1, h4.1]
    have hP : va_P D vwCl [(a0, .inr (4, [.ref a1, .ref a2, .ref a3, .ref a4, .ref a5])), (a2, soF a6 a7 r), (a6, soV y r), (a7, soW y r), (a3, soF a8 a9 q1.2.2), (a8, soV y q1.2.2), (a9, soW y q1.2.2)] H := hP
    have hD : va_D A [(a0, .inr (4, [.ref a1, .ref a2, .ref a3, .ref a4, .ref a5])), (a2, soF a6 a7 r), (a6, soV y r), (a7, soW y r), (a3, soF a8 a9 q1.2.2), (a8, soV y q1.2.2), (a9, soW y q1.2.2)] := hD
    rcases xc_E h4.2 with rfl | rfl | rfl
    · rw [xc_IA] at h4q
      have hc := cd_X5_life r rc p1
      rw [eq1, h4q] at hc
      exact absurd hc (by decide)
    · rw [xc_IS] at h4q
      have hc := cd_X5_life r rc p1
      rw [eq1, h4q] at hc
      exact absurd hc (by decide)
    · rw [xc_IO] at h4q
      have hF := hF.trans (if_neg (show ¬ q1.1 = 0 by rw [h4q]; decide))
      refine vx_catch hown (tableOf []) ⟨0, 5, 6, 37⟩ (tableOf []) (htab.trans rfl) (fun z hz => nomatch hz) (by decide) (by decide) w_0 (hXE.1.1.2.2.use rfl) h4a h4b h4c ?_
      refine W.eq (g2 := F0 m 6 ls [.ref a97]) rfl ?_
      refine lv_astore_n (lv' := [(2, .ref a97), (0, .ref a0), (1, .int p1)]) hx hb dL_tryLife_6 rfl hl (by decide) rfl (fun ls hl => ?_)
      refine lv_ldc (v := (-9999001)) hx hb hown w_1 dL_tryLife_7 ?_
      refine W.widen (k := 2) (n := 12) (Nat.le_of_ble_eq_true rfl) (Nat.le_of_ble_eq_true rfl) ?_
      refine vx_ret ?_
      exact W.iret (v := (-9999001)) hx hb hr (fun t ht hW => ⟨⟨(-9999001), q1.2.2, rfl, hF, ⟨by rw [ht]; exact hP, hD⟩⟩, hS.F ht⟩) hS.2.2 dL_tryLife_9
  · have h4q : q1.1 = 0 := by rw [← eq1, h4]
    obtain ⟨rfl, rfl⟩ : q1.2.1 = v2 ∧ q1.2.2 = u3 := ⟨by rw [← eq1, h4], by rw [← eq1, h4]⟩
    have hP : va_P D vwCl [(a0, .inr (4, [.ref a1, .ref a2, .ref a3, .ref a4, .ref a5])), (a2, soF a6 a7 r), (a6, soV y r), (a7, soW y r), (a3, soF a8 a9 q1.2.2), (a8, soV y q1.2.2), (a9, soW y q1.2.2)] H := hP
    have hD : va_D A [(a0, .inr (4, [.ref a1, .ref a2, .ref a3, .ref a4, .ref a5])), (a2, soF a6 a7 r), (a6, soV y r), (a7, soW y r), (a3, soF a8 a9 q1.2.2), (a8, soV y q1.2.2), (a9, soW y q1.2.2)] := hD
    have hF := hF.trans (if_pos h4q)
    refine W.widen (k := 2) (n := 12) (Nat.le_of_ble_eq_true rfl) (Nat.le_of_ble_eq_true rfl) ?_
    refine vx_ret ?_
    exact W.iret (v := q1.2.1) hx hb hr (fun t ht hW => ⟨⟨q1.2.1, q1.2.2, rfl, hF, ⟨by rw [ht]; exact hP, hD⟩⟩, hS.F ht⟩) hS.2.2 dL_tryLife_5

def f_L_tryLong (r : gR) (rc : gR) : Int32 × gR :=
    gLet (f_X5_lifeOfAll r rc) (fun (q1 : Nat × Int32 × gR) =>
    if q1.1 = 0 then
      (q1.2.1, q1.2.2)
    else
      ((-9999003), q1.2.2))
theorem f_L_tryLong_s (r : gR) (rc : gR) : f_L_tryLong r rc =
    (gLet (f_X5_lifeOfAll r rc) (fun (q1 : Nat × Int32 × gR) =>
    if q1.1 = 0 then
      (q1.2.1, q1.2.2)
    else
      ((-9999003), q1.2.2))) := rfl
theorem hd_L_tryLong : yL_tryLong.cls ≠ "java/lang/invoke/MethodHandle" ∧ yL_tryLong.cls ≠ "java/lang/invoke/VarHandle" ∧ (parseMethodDescriptor yL_tryLong.desc).map (fun d => d.parameters.length) = some 1 := by decide +kernel
set_option maxHeartbeats 4000000 in
set_option maxRecDepth 100000 in
theorem c_L_tryLong (l : Launch) (hst : l.stackTraces = false) (D : va_G) (y : Nat → ClassId) (a0 a1 a2 a3 a4 a5 a6 a7 a8 a9 : Nat) (zh : Nat) (r : gR) (rc : gR) (ho : okC r) : Met l yL_tryLong wsL_tryLong ({ frames := 8, cells := 2, slots := 12, locals := 122 }) (lP D y [.ref a0] zh [(a0, .inr (4, [.ref a1, .ref a2, .ref a3, .ref a4, .ref a5])), (a2, soF a6 a7 r), (a6, soV y r), (a7, soW y r), (a3, soF a8 a9 rc), (a8, soV y rc), (a9, soW y rc)]) (va_Qi (fun (v : Int32) (u : gR) => f_L_tryLong r rc = (v, u)) (fun (u : gR) t => va_P D vwCl [(a0, .inr (4, [.ref a1, .ref a2, .ref a3, .ref a4, .ref a5])), (a2, soF a6 a7 r), (a6, soV y r), (a7, soW y r), (a3, soF a8 a9 u), (a8, soV y u), (a9, soW y u)] t.heap ∧ va_D (va_A [(a0, .inr (4, [.ref a1, .ref a2, .ref a3, .ref a4, .ref a5])), (a2, soF a6 a7 r), (a6, soV y r), (a7, soW y r), (a3, soF a8 a9 rc), (a8, soV y rc), (a9, soW y rc)] zh) [(a0, .inr (4, [.ref a1, .ref a2, .ref a3, .ref a4, .ref a5])), (a2, soF a6 a7 r), (a6, soV y r), (a7, soW y r), (a3, soF a8 a9 u), (a8, soV y u), (a9, soW y u)]) (va_A [(a0, .inr (4, [.ref a1, .ref a2, .ref a3, .ref a4, .ref a5])), (a2, soF a6 a7 r), (a6, soV y r), (a7, soW y r), (a3, soF a8 a9 rc), (a8, soV y rc), (a9, soW y rc)] zh)) 2 12 (va_A [(a0, .inr (4, [.ref a1, .ref a2, .ref a3, .ref a4, .ref a5])), (a2, soF a6 a7 r), (a6, soV y r), (a7, soW y r), (a3, soF a8 a9 rc), (a8, soV y rc), (a9, soW y rc)] zh) := by
  refine xL_of (vx_ofWH (cc := cL_tryLong) (maxL := 2) (ret := (some .int)) (hh := [(0, 4, 5, 24)]) (by decide) rfl ?_)
  intro p e s m args below meth c s₁ B hml hv
  obtain ⟨⟨⟨rfl, hsz, hP, hE, hD⟩, hXE, hXZ⟩, hLN⟩ := hv
  have hx := B.exec
  have hb := B.bytes
  have hr := B.returns
  have hts := atoms_spec (ws := wsL_tryLong) B.pre
  have hown : s.vm.findClass RL = some m.cls := findClass_of_methodNamed B.named
  have hlocks := B.notSynchronized
  have htab := vx_table (x := yL_tryLong) B (hts _ List.mem_cons_self)
  have w_0 := hts (.classLink RL 24 "java/lang/IllegalStateException") (List.mem_cons_of_mem _ (List.mem_append_left _ (List.mem_append_left _ (List.mem_append_left _ (List.mem_append_left _ (List.mem_of_getElem? (i := 0) rfl))))))
  have w_1 := hts (.constant RL 26 (-9999003)) (List.mem_cons_of_mem _ (List.mem_append_left _ (List.mem_append_left _ (List.mem_append_left _ (List.mem_append_left _ (List.mem_of_getElem? (i := 1) rfl))))))
  subst hsz
  have hD := hD.self (sz := s.heap.size)
  generalize hAe : va_A [(a0, .inr (4, [.ref a1, .ref a2, .ref a3, .ref a4, .ref a5])), (a2, soF a6 a7 r), (a6, soV y r), (a7, soW y r), (a3, soF a8 a9 rc), (a8, soV y rc), (a9, soW y rc)] s.heap.size = A at hD hXZ ⊢
  have hA : ∀ q : Nat, s.heap.size ≤ q → A q := fun q h => by rw [← hAe]; exact Or.inr h
  have hS : va_S A s.heap s.heap [] := va_S.rf
  have hl := lv_entry ([.ref a0]) (n := 2) (Nat.le_of_ble_eq_true rfl)
  rw [lg_entry_eq]
  generalize (lg_sl ([.ref a0]) ++ List.replicate (2 - (lg_sl ([.ref a0])).length) Slot.unset).toArray = ls at hl ⊢
  have hl : lv_has ls 2 [(0, .ref a0)] := hl
  have hF := f_L_tryLong_s r rc
  refine lv_aload_n hx hb dL_tryLong_0 rfl (lv_at hl 0 rfl) ?_
  obtain ⟨q1, eq1⟩ : ∃ z : Nat × Int32 × gR, f_X5_lifeOfAll r rc = z := ⟨_, rfl⟩
  have hF := hF.trans (gLet_e eq1)
  refine xq_calli (vx_runV (As := []) (rest := []) ⟨hx, hb, hml, hown, hts⟩ (c_X5_lifeOfAll l hst D y a0 a1 a2 a3 a4 a5 a6 a7 a8 a9 s.heap.size r rc ho) (cwV 0 hts gL_tryLong_X5_lifeOfAll rfl rfl rfl hd_X5_lifeOfAll ⟨Nat.le_of_ble_eq_true rfl, Nat.le_of_ble_eq_true rfl⟩) (xV (q := (RX5, TX5, 5)) hE hXE hXZ hS hA hP hD 0 rfl rfl) rfl rfl hl.1 rfl (lv_room (Nat.le_of_ble_eq_true rfl)) dL_tryLong_1 ⟨Nat.le_of_ble_eq_true rfl, Nat.le_of_ble_eq_true rfl⟩) hP hD hS hA [0, 1, 2, 3, 4, 5, 6] rfl (by decide) (fun _ => rfl) (fun E5 ce6 a97 u3 H locs h4 hP hD hS h4a h4b h4c => ?_) (fun v2 u3 H locs h4 hP hD hS => ?_)
  · have h4q : q1.1 = xc E5 := by rw [← eq1, h4.1]
    obtain rfl : q1.2.2 = u3 := by rw [← eq1, h4.1]
    have hP : va_P D vwCl [(a0, .inr (4, [.ref a1, .ref a2, .ref a3, .ref a4, .ref a5])), (a2, soF a6 a7 r), (a6, soV y r), (a7, soW y r), (a3, soF a8 a9 q1.2.2), (a8, soV y q1.2.2), (a9, soW y q1.2.2)] H := hP
    have hD : va_D A [(a0, .inr (4, [.ref a1, .ref a2, .ref a3, .ref a4, .ref a5])), (a2, soF a6 a7 r), (a6, soV y r), (a7, soW y r), (a3, soF a8 a9 q1.2.2), (a8, soV y q1.2.2), (a9, soW y q1.2.2)] := hD
    rcases xc_E h4.2 with rfl | rfl | rfl
    · rw [xc_IA] at h4q
      have hc := cd_X5_lifeOfAll r rc
      rw [eq1, h4q] at hc
      exact absurd hc (by decide)
    · rw [xc_IS] at h4q
      have hF := hF.trans (if_neg (show ¬ q1.1 = 0 by rw [h4q]; decide))
      refine vx_catch hown (tableOf []) ⟨0, 4, 5, 24⟩ (tableOf []) (htab.trans rfl) (fun z hz => nomatch hz) (by decide) (by decide) w_0 (hXE.1.1.2.1.use rfl) h4a h4b h4c ?_
      refine W.eq (g2 := F0 m 5 ls [.ref a97]) rfl ?_
      refine lv_astore_n (lv' := [(1, .ref a97), (0, .ref a0)]) hx hb dL_tryLong_5 rfl hl (by decide) rfl (fun ls hl => ?_)
      refine lv_ldc (v := (-9999003)) hx hb hown w_1 dL_tryLong_6 ?_
      refine W.widen (k := 2) (n := 12) (Nat.le_of_ble_eq_true rfl) (Nat.le_of_ble_eq_true rfl) ?_
      refine vx_ret ?_
      exact W.iret (v := (-9999003)) hx hb hr (fun t ht hW => ⟨⟨(-9999003), q1.2.2, rfl, hF, ⟨by rw [ht]; exact hP, hD⟩⟩, hS.F ht⟩) hS.2.2 dL_tryLong_8
    · rw [xc_IO] at h4q
      have hc := cd_X5_lifeOfAll r rc
      rw [eq1, h4q] at hc
      exact absurd hc (by decide)
  · have h4q : q1.1 = 0 := by rw [← eq1, h4]
    obtain ⟨rfl, rfl⟩ : q1.2.1 = v2 ∧ q1.2.2 = u3 := ⟨by rw [← eq1, h4], by rw [← eq1, h4]⟩
    have hP : va_P D vwCl [(a0, .inr (4, [.ref a1, .ref a2, .ref a3, .ref a4, .ref a5])), (a2, soF a6 a7 r), (a6, soV y r), (a7, soW y r), (a3, soF a8 a9 q1.2.2), (a8, soV y q1.2.2), (a9, soW y q1.2.2)] H := hP
    have hD : va_D A [(a0, .inr (4, [.ref a1, .ref a2, .ref a3, .ref a4, .ref a5])), (a2, soF a6 a7 r), (a6, soV y r), (a7, soW y r), (a3, soF a8 a9 q1.2.2), (a8, soV y q1.2.2), (a9, soW y q1.2.2)] := hD
    have hF := hF.trans (if_pos h4q)
    refine W.widen (k := 2) (n := 12) (Nat.le_of_ble_eq_true rfl) (Nat.le_of_ble_eq_true rfl) ?_
    refine vx_ret ?_
    exact W.iret (v := q1.2.1) hx hb hr (fun t ht hW => ⟨⟨q1.2.1, q1.2.2, rfl, hF, ⟨by rw [ht]; exact hP, hD⟩⟩, hS.F ht⟩) hS.2.2 dL_tryLong_4

def f_L_tryEvery (r : gR) (rc : gR) (p1 : Int32) (p2 : Int32) (p3 : Int32) : Int32 × gR :=
    gLet (f_X5_ifEvery r rc p1 p2 p3) (fun (q1 : Nat × Int32 × gR) =>
    if q1.1 = 0 then
      (q1.2.1, q1.2.2)
    else
      if q1.1 = 3 then
        ((-9999001), q1.2.2)
      else
        ((-9999002), q1.2.2))
theorem f_L_tryEvery_s (r : gR) (rc : gR) (p1 : Int32) (p2 : Int32) (p3 : Int32) : f_L_tryEvery r rc p1 p2 p3 =
    (gLet (f_X5_ifEvery r rc p1 p2 p3) (fun (q1 : Nat × Int32 × gR) =>
    if q1.1 = 0 then
      (q1.2.1, q1.2.2)
    else
      if q1.1 = 3 then
        ((-9999001), q1.2.2)
      else
        ((-9999002), q1.2.2))) := rfl
theorem hd_L_tryEvery : yL_tryEvery.cls ≠ "java/lang/invoke/MethodHandle" ∧ yL_tryEvery.cls ≠ "java/lang/invoke/VarHandle" ∧ (parseMethodDescriptor yL_tryEvery.desc).map (fun d => d.parameters.length) = some 4 := by decide +kernel
set_option maxHeartbeats 4000000 in
set_option maxRecDepth 100000 in
theorem c_L_tryEvery (l : Launch) (hst : l.stackTraces = false) (D : va_G) (y : Nat → ClassId) (a0 a1 a2 a3 a4 a5 a6 a7 a8 a9 : Nat) (zh : Nat) (r : gR) (rc : gR) (p1 : Int32) (p2 : Int32) (p3 : Int32) (ho : okC r) : Met l yL_tryEvery wsL_tryEvery ({ frames := 8, cells := 2, slots := 12, locals := 136 }) (lP D y [.ref a0, .int p1, .int p2, .int p3] zh [(a0, .inr (4, [.ref a1, .ref a2, .ref a3, .ref a4, .ref a5])), (a2, soF a6 a7 r), (a6, soV y r), (a7, soW y r), (a3, soF a8 a9 rc), (a8, soV y rc), (a9, soW y rc)]) (va_Qi (fun (v : Int32) (u : gR) => f_L_tryEvery r rc p1 p2 p3 = (v, u)) (fun (u : gR) t => va_P D vwCl [(a0, .inr (4, [.ref a1, .ref a2, .ref a3, .ref a4, .ref a5])), (a2, soF a6 a7 r), (a6, soV y r), (a7, soW y r), (a3, soF a8 a9 u), (a8, soV y u), (a9, soW y u)] t.heap ∧ va_D (va_A [(a0, .inr (4, [.ref a1, .ref a2, .ref a3, .ref a4, .ref a5])), (a2, soF a6 a7 r), (a6, soV y r), (a7, soW y r), (a3, soF a8 a9 rc), (a8, soV y rc), (a9, soW y rc)] zh) [(a0, .inr (4, [.ref a1, .ref a2, .ref a3, .ref a4, .ref a5])), (a2, soF a6 a7 r), (a6, soV y r), (a7, soW y r), (a3, soF a8 a9 u), (a8, soV y u), (a9, soW y u)]) (va_A [(a0, .inr (4, [.ref a1, .ref a2, .ref a3, .ref a4, .ref a5])), (a2, soF a6 a7 r), (a6, soV y r), (a7, soW y r), (a3, soF a8 a9 rc), (a8, soV y rc), (a9, soW y rc)] zh)) 2 12 (va_A [(a0, .inr (4, [.ref a1, .ref a2, .ref a3, .ref a4, .ref a5])), (a2, soF a6 a7 r), (a6, soV y r), (a7, soW y r), (a3, soF a8 a9 rc), (a8, soV y rc), (a9, soW y rc)] zh) := by
  refine xL_of (vx_ofWH (cc := cL_tryEvery) (maxL := 5) (ret := (some .int)) (hh := [(0, 7, 8, 37), (0, 7, 13, 13)]) (by decide) rfl ?_)
  intro p e s m args below meth c s₁ B hml hv
  obtain ⟨⟨⟨rfl, hsz, hP, hE, hD⟩, hXE, hXZ⟩, hLN⟩ := hv
  have hx := B.exec
  have hb := B.bytes
  have hr := B.returns
  have hts := atoms_spec (ws := wsL_tryEvery) B.pre
  have hown : s.vm.findClass RL = some m.cls := findClass_of_methodNamed B.named
  have hlocks := B.notSynchronized
  have htab := vx_table (x := yL_tryEvery) B (hts _ List.mem_cons_self)
  have w_0 := hts (.classLink RL 37 "java/lang/IndexOutOfBoundsException") (List.mem_cons_of_mem _ (List.mem_append_left _ (List.mem_append_left _ (List.mem_append_left _ (List.mem_append_left _ (List.mem_append_left _ (List.mem_of_getElem? (i := 0) rfl)))))))
  have w_1 := hts (.classLink RL 13 "java/lang/IllegalArgumentException") (List.mem_cons_of_mem _ (List.mem_append_left _ (List.mem_append_left _ (List.mem_append_left _ (List.mem_append_left _ (List.mem_append_left _ (List.mem_of_getElem? (i := 1) rfl)))))))
  have w_2 := hts (.constant RL 15 (-9999002)) (List.mem_cons_of_mem _ (List.mem_append_left _ (List.mem_append_left _ (List.mem_append_left _ (List.mem_append_left _ (List.mem_append_left _ (List.mem_of_getElem? (i := 3) rfl)))))))
  have w_3 := hts (.constant RL 39 (-9999001)) (List.mem_cons_of_mem _ (List.mem_append_left _ (List.mem_append_left _ (List.mem_append_left _ (List.mem_append_left _ (List.mem_append_left _ (List.mem_of_getElem? (i := 2) rfl)))))))
  subst hsz
  have hD := hD.self (sz := s.heap.size)
  generalize hAe : va_A [(a0, .inr (4, [.ref a1, .ref a2, .ref a3, .ref a4, .ref a5])), (a2, soF a6 a7 r), (a6, soV y r), (a7, soW y r), (a3, soF a8 a9 rc), (a8, soV y rc), (a9, soW y rc)] s.heap.size = A at hD hXZ ⊢
  have hA : ∀ q : Nat, s.heap.size ≤ q → A q := fun q h => by rw [← hAe]; exact Or.inr h
  have hS : va_S A s.heap s.heap [] := va_S.rf
  have hl := lv_entry ([.ref a0, .int p1, .int p2, .int p3]) (n := 5) (Nat.le_of_ble_eq_true rfl)
  rw [lg_entry_eq]
  generalize (lg_sl ([.ref a0, .int p1, .int p2, .int p3]) ++ List.replicate (5 - (lg_sl ([.ref a0, .int p1, .int p2, .int p3])).length) Slot.unset).toArray = ls at hl ⊢
  have hl : lv_has ls 5 [(0, .ref a0), (1, .int p1), (2, .int p2), (3, .int p3)] := hl
  have hF := f_L_tryEvery_s r rc p1 p2 p3
  refine lv_aload_n hx hb dL_tryEvery_0 rfl (lv_at hl 0 rfl) ?_
  refine lv_iload_n hx hb dL_tryEvery_1 rfl (lv_at hl 1 rfl) ?_
  refine lv_iload_n hx hb dL_tryEvery_2 rfl (lv_at hl 2 rfl) ?_
  refine lv_iload_n hx hb dL_tryEvery_3 rfl (lv_at hl 3 rfl) ?_
  obtain ⟨q1, eq1⟩ : ∃ z : Nat × Int32 × gR, f_X5_ifEvery r rc p1 p2 p3 = z := ⟨_, rfl⟩
  have hF := hF.trans (gLet_e eq1)
  refine xq_calli (vx_runV (As := [.int p1, .int p2, .int p3]) (rest := []) ⟨hx, hb, hml, hown, hts⟩ (c_X5_ifEvery l hst D y a0 a1 a2 a3 a4 a5 a6 a7 a8 a9 s.heap.size r rc p1 p2 p3 ho) (cwV 3 hts gL_tryEvery_X5_ifEvery rfl rfl rfl hd_X5_ifEvery ⟨Nat.le_of_ble_eq_true rfl, Nat.le_of_ble_eq_true rfl⟩) (xV (q := (RX5, TX5, 5)) hE hXE hXZ hS hA hP hD 0 rfl rfl) rfl rfl hl.1 rfl (lv_room (Nat.le_of_ble_eq_true rfl)) dL_tryEvery_4 ⟨Nat.le_of_ble_eq_true rfl, Nat.le_of_ble_eq_true rfl⟩) hP hD hS hA [0, 1, 2, 3, 4, 5, 6] rfl (by decide) (fun _ => rfl) (fun E5 ce6 a97 u3 H locs h4 hP hD hS h4a h4b h4c => ?_) (fun v2 u3 H locs h4 hP hD hS => ?_)
  · have h4q : q1.1 = xc E5 := by rw [← eq1, h4.1]
    obtain rfl : q1.2.2 = u3 := by rw [← eq1, h4.1]
    have hP : va_P D vwCl [(a0, .inr (4, [.ref a1, .ref a2, .ref a3, .ref a4, .ref a5])), (a2, soF a6 a7 r), (a6, soV y r), (a7, soW y r), (a3, soF a8 a9 q1.2.2), (a8, soV y q1.2.2), (a9, soW y q1.2.2)] H := hP
    have hD : va_D A [(a0, .inr (4, [.ref a1, .ref a2, .ref a3, .ref a4, .ref a5])), (a2, soF a6 a7 r), (a6, soV y r), (a7, soW y r), (a3, soF a8 a9 q1.2.2), (a8, soV y q1.2.2), (a9, soW y q1.2.2)] := hD
    rcases xc_E h4.2 with rfl | rfl | rfl
    · rw [xc_IA] at h4q
      have hF := hF.trans (if_neg (show ¬ q1.1 = 0 by rw [h4q]; decide))
      have hF := hF.trans (if_neg (show ¬ q1.1 = 3 by rw [h4q]; decide))
      refine vx_catch hown (tableOf [(0, 7, 8, 37)]) ⟨0, 7, 13, 13⟩ (tableOf []) (htab.trans rfl) (fun z hz => by simp only [tableOf, List.map_cons, List.map_nil, List.mem_cons, List.not_mem_nil, or_false] at hz; rcases hz with rfl; exact Or.inr ⟨by decide, _, w_0, hLN.1.2⟩) (by decide) (by decide) w_1 (hXE.1.1.1.use rfl) h4a h4b h4c ?_
      refine W.eq (g2 := F0 m 13 ls [.ref a97]) rfl ?_
      refine lv_astore (lv' := [(4, .ref a97), (0, .ref a0), (1, .int p1), (2, .int p2), (3, .int p3)]) hx hb dL_tryEvery_13 hl (by decide) rfl (fun ls hl => ?_)
      refine lv_ldc (v := (-9999002)) hx hb hown w_2 dL_tryEvery_15 ?_
      refine W.widen (k := 2) (n := 12) (Nat.le_of_ble_eq_true rfl) (Nat.le_of_ble_eq_true rfl) ?_
      refine vx_ret ?_
      exact W.iret (v := (-9999002)) hx hb hr (fun t ht hW => ⟨⟨(-9999002), q1.2.2, rfl, hF, ⟨by rw [ht]; exact hP, hD⟩⟩, hS.F ht⟩) hS.2.2 dL_tryEvery_17
    · rw [xc_IS] at h4q
      have hc := cd_X5_ifEvery r rc p1 p2 p3
      rw [eq1, h4q] at hc
      exact absurd hc (by decide)
    · rw [xc_IO] at h4q
      have hF := hF.trans (if_neg (show ¬ q1.1 = 0 by rw [h4q]; decide))
      have hF := hF.trans (if_pos h4q)
      refine vx_catch hown (tableOf []) ⟨0, 7, 8, 37⟩ (tableOf [(0, 7, 13, 13)]) (htab.trans rfl) (fun z hz => nomatch hz) (by decide) (by decide) w_0 (hXE.1.1.2.2.use rfl) h4a h4b h4c ?_
      refine W.eq (g2 := F0 m 8 ls [.ref a97]) rfl ?_
      refine lv_astore (lv' := [(4, .ref a97), (0, .ref a0), (1, .int p1), (2, .int p2), (3, .int p3)]) hx hb dL_tryEvery_8 hl (by decide) rfl (fun ls hl => ?_)
      refine lv_ldc (v := (-9999001)) hx hb hown w_3 dL_tryEvery_10 ?_
      refine W.widen (k := 2) (n := 12) (Nat.le_of_ble_eq_true rfl) (Nat.le_of_ble_eq_true rfl) ?_
      refine vx_ret ?_
      exact W.iret (v := (-9999001)) hx hb hr (fun t ht hW => ⟨⟨(-9999001), q1.2.2, rfl, hF, ⟨by rw [ht]; exact hP, hD⟩⟩, hS.F ht⟩) hS.2.2 dL_tryEvery_12
  · have h4q : q1.1 = 0 := by rw [← eq1, h4]
    obtain ⟨rfl, rfl⟩ : q1.2.1 = v2 ∧ q1.2.2 = u3 := ⟨by rw [← eq1, h4], by rw [← eq1, h4]⟩
    have hP : va_P D vwCl [(a0, .inr (4, [.ref a1, .ref a2, .ref a3, .ref a4, .ref a5])), (a2, soF a6 a7 r), (a6, soV y r), (a7, soW y r), (a3, soF a8 a9 q1.2.2), (a8, soV y q1.2.2), (a9, soW y q1.2.2)] H := hP
    have hD : va_D A [(a0, .inr (4, [.ref a1, .ref a2, .ref a3, .ref a4, .ref a5])), (a2, soF a6 a7 r), (a6, soV y r), (a7, soW y r), (a3, soF a8 a9 q1.2.2), (a8, soV y q1.2.2), (a9, soW y q1.2.2)] := hD
    have hF := hF.trans (if_pos h4q)
    refine W.widen (k := 2) (n := 12) (Nat.le_of_ble_eq_true rfl) (Nat.le_of_ble_eq_true rfl) ?_
    refine vx_ret ?_
    exact W.iret (v := q1.2.1) hx hb hr (fun t ht hW => ⟨⟨q1.2.1, q1.2.2, rfl, hF, ⟨by rw [ht]; exact hP, hD⟩⟩, hS.F ht⟩) hS.2.2 dL_tryEvery_7

def f_L_tryBest (r : gR) (rc : gR) (p1 : Int32) (p2 : Int32) : Int32 × gR :=
    gLet (f_X5_bestEvery r rc p1 p2) (fun (q1 : Nat × Int32 × gR) =>
    if q1.1 = 0 then
      (q1.2.1, q1.2.2)
    else
      if q1.1 = 3 then
        ((-9999001), q1.2.2)
      else
        ((-9999002), q1.2.2))
theorem f_L_tryBest_s (r : gR) (rc : gR) (p1 : Int32) (p2 : Int32) : f_L_tryBest r rc p1 p2 =
    (gLet (f_X5_bestEvery r rc p1 p2) (fun (q1 : Nat × Int32 × gR) =>
    if q1.1 = 0 then
      (q1.2.1, q1.2.2)
    else
      if q1.1 = 3 then
        ((-9999001), q1.2.2)
      else
        ((-9999002), q1.2.2))) := rfl
theorem hd_L_tryBest : yL_tryBest.cls ≠ "java/lang/invoke/MethodHandle" ∧ yL_tryBest.cls ≠ "java/lang/invoke/VarHandle" ∧ (parseMethodDescriptor yL_tryBest.desc).map (fun d => d.parameters.length) = some 3 := by decide +kernel
set_option maxHeartbeats 4000000 in
set_option maxRecDepth 100000 in
theorem c_L_tryBest (l : Launch) (hst : l.stackTraces = false) (D : va_G) (y : Nat → ClassId) (a0 a1 a2 a3 a4 a5 a6 a7 a8 a9 : Nat) (zh : Nat) (r : gR) (rc : gR) (p1 : Int32) (p2 : Int32) (ho : okC r) : Met l yL_tryBest wsL_tryBest ({ frames := 8, cells := 2, slots := 12, locals := 139 }) (lP D y [.ref a0, .int p1, .int p2] zh [(a0, .inr (4, [.ref a1, .ref a2, .ref a3, .ref a4, .ref a5])), (a2, soF a6 a7 r), (a6, soV y r), (a7, soW y r), (a3, soF a8 a9 rc), (a8, soV y rc), (a9, soW y rc)]) (va_Qi (fun (v : Int32) (u : gR) => f_L_tryBest r rc p1 p2 = (v, u)) (fun (u : gR) t => va_P D vwCl [(a0, .inr (4, [.ref a1, .ref a2, .ref a3, .ref a4, .ref a5])), (a2, soF a6 a7 r), (a6, soV y r), (a7, soW y r), (a3, soF a8 a9 u), (a8, soV y u), (a9, soW y u)] t.heap ∧ va_D (va_A [(a0, .inr (4, [.ref a1, .ref a2, .ref a3, .ref a4, .ref a5])), (a2, soF a6 a7 r), (a6, soV y r), (a7, soW y r), (a3, soF a8 a9 rc), (a8, soV y rc), (a9, soW y rc)] zh) [(a0, .inr (4, [.ref a1, .ref a2, .ref a3, .ref a4, .ref a5])), (a2, soF a6 a7 r), (a6, soV y r), (a7, soW y r), (a3, soF a8 a9 u), (a8, soV y u), (a9, soW y u)]) (va_A [(a0, .inr (4, [.ref a1, .ref a2, .ref a3, .ref a4, .ref a5])), (a2, soF a6 a7 r), (a6, soV y r), (a7, soW y r), (a3, soF a8 a9 rc), (a8, soV y rc), (a9, soW y rc)] zh)) 2 12 (va_A [(a0, .inr (4, [.ref a1, .ref a2, .ref a3, .ref a4, .ref a5])), (a2, soF a6 a7 r), (a6, soV y r), (a7, soW y r), (a3, soF a8 a9 rc), (a8, soV y rc), (a9, soW y rc)] zh) := by
  refine xL_of (vx_ofWH (cc := cL_tryBest) (maxL := 4) (ret := (some .int)) (hh := [(0, 6, 7, 37), (0, 6, 11, 13)]) (by decide) rfl ?_)
  intro p e s m args below meth c s₁ B hml hv
  obtain ⟨⟨⟨rfl, hsz, hP, hE, hD⟩, hXE, hXZ⟩, hLN⟩ := hv
  have hx := B.exec
  have hb := B.bytes
  have hr := B.returns
  have hts := atoms_spec (ws := wsL_tryBest) B.pre
  have hown : s.vm.findClass RL = some m.cls := findClass_of_methodNamed B.named
  have hlocks := B.notSynchronized
  have htab := vx_table (x := yL_tryBest) B (hts _ List.mem_cons_self)
  have w_0 := hts (.classLink RL 37 "java/lang/IndexOutOfBoundsException") (List.mem_cons_of_mem _ (List.mem_append_left _ (List.mem_append_left _ (List.mem_append_left _ (List.mem_append_left _ (List.mem_append_left _ (List.mem_of_getElem? (i := 0) rfl)))))))
  have w_1 := hts (.classLink RL 13 "java/lang/IllegalArgumentException") (List.mem_cons_of_mem _ (List.mem_append_left _ (List.mem_append_left _ (List.mem_append_left _ (List.mem_append_left _ (List.mem_append_left _ (List.mem_of_getElem? (i := 1) rfl)))))))
  have w_2 := hts (.constant RL 15 (-9999002)) (List.mem_cons_of_mem _ (List.mem_append_left _ (List.mem_append_left _ (List.mem_append_left _ (List.mem_append_left _ (List.mem_append_left _ (List.mem_of_getElem? (i := 3) rfl)))))))
  have w_3 := hts (.constant RL 39 (-9999001)) (List.mem_cons_of_mem _ (List.mem_append_left _ (List.mem_append_left _ (List.mem_append_left _ (List.mem_append_left _ (List.mem_append_left _ (List.mem_of_getElem? (i := 2) rfl)))))))
  subst hsz
  have hD := hD.self (sz := s.heap.size)
  generalize hAe : va_A [(a0, .inr (4, [.ref a1, .ref a2, .ref a3, .ref a4, .ref a5])), (a2, soF a6 a7 r), (a6, soV y r), (a7, soW y r), (a3, soF a8 a9 rc), (a8, soV y rc), (a9, soW y rc)] s.heap.size = A at hD hXZ ⊢
  have hA : ∀ q : Nat, s.heap.size ≤ q → A q := fun q h => by rw [← hAe]; exact Or.inr h
  have hS : va_S A s.heap s.heap [] := va_S.rf
  have hl := lv_entry ([.ref a0, .int p1, .int p2]) (n := 4) (Nat.le_of_ble_eq_true rfl)
  rw [lg_entry_eq]
  generalize (lg_sl ([.ref a0, .int p1, .int p2]) ++ List.replicate (4 - (lg_sl ([.ref a0, .int p1, .int p2])).length) Slot.unset).toArray = ls at hl ⊢
  have hl : lv_has ls 4 [(0, .ref a0), (1, .int p1), (2, .int p2)] := hl
  have hF := f_L_tryBest_s r rc p1 p2
  refine lv_aload_n hx hb dL_tryBest_0 rfl (lv_at hl 0 rfl) ?_
  refine lv_iload_n hx hb dL_tryBest_1 rfl (lv_at hl 1 rfl) ?_
  refine lv_iload_n hx hb dL_tryBest_2 rfl (lv_at hl 2 rfl) ?_
  obtain ⟨q1, eq1⟩ : ∃ z : Nat × Int32 × gR, f_X5_bestEvery r rc p1 p2 = z := ⟨_, rfl⟩
  have hF := hF.trans (gLet_e eq1)
  refine xq_calli (vx_runV (As := [.int p1, .int p2]) (rest := []) ⟨hx, hb, hml, hown, hts⟩ (c_X5_bestEvery l hst D y a0 a1 a2 a3 a4 a5 a6 a7 a8 a9 s.heap.size r rc p1 p2 ho) (cwV 2 hts gL_tryBest_X5_bestEvery rfl rfl rfl hd_X5_bestEvery ⟨Nat.le_of_ble_eq_true rfl, Nat.le_of_ble_eq_true rfl⟩) (xV (q := (RX5, TX5, 5)) hE hXE hXZ hS hA hP hD 0 rfl rfl) rfl rfl hl.1 rfl (lv_room (Nat.le_of_ble_eq_true rfl)) dL_tryBest_3 ⟨Nat.le_of_ble_eq_true rfl, Nat.le_of_ble_eq_true rfl⟩) hP hD hS hA [0, 1, 2, 3, 4, 5, 6] rfl (by decide) (fun _ => rfl) (fun E5 ce6 a97 u3 H locs h4 hP hD hS h4a h4b h4c => ?_) (fun v2 u3 H locs h4 hP hD hS => ?_)
  · have h4q : q1.1 = xc E5 := by rw [← eq1, h4.1]
    obtain rfl : q1.2.2 = u3 := by rw [← eq1, h4.1]
    have hP : va_P D vwCl [(a0, .inr (4, [.ref a1, .ref a2, .ref a3, .ref a4, .ref a5])), (a2, soF a6 a7 r), (a6, soV y r), (a7, soW y r), (a3, soF a8 a9 q1.2.2), (a8, soV y q1.2.2), (a9, soW y q1.2.2)] H := hP
    have hD : va_D A [(a0, .inr (4, [.ref a1, .ref a2, .ref a3, .ref a4, .ref a5])), (a2, soF a6 a7 r), (a6, soV y r), (a7, soW y r), (a3, soF a8 a9 q1.2.2), (a8, soV y q1.2.2), (a9, soW y q1.2.2)] := hD
    rcases xc_E h4.2 with rfl | rfl | rfl
    · rw [xc_IA] at h4q
      have hF := hF.trans (if_neg (show ¬ q1.1 = 0 by rw [h4q]; decide))
      have hF := hF.trans (if_neg (show ¬ q1.1 = 3 by rw [h4q]; decide))
      refine vx_catch hown (tableOf [(0, 6, 7, 37)]) ⟨0, 6, 11, 13⟩ (tableOf []) (htab.trans rfl) (fun z hz => by simp only [tableOf, List.map_cons, List.map_nil, List.mem_cons, List.not_mem_nil, or_false] at hz; rcases hz with rfl; exact Or.inr ⟨by decide, _, w_0, hLN.1.2⟩) (by decide) (by decide) w_1 (hXE.1.1.1.use rfl) h4a h4b h4c ?_
      refine W.eq (g2 := F0 m 11 ls [.ref a97]) rfl ?_
      refine lv_astore_n (lv' := [(3, .ref a97), (0, .ref a0), (1, .int p1), (2, .int p2)]) hx hb dL_tryBest_11 rfl hl (by decide) rfl (fun ls hl => ?_)
      refine lv_ldc (v := (-9999002)) hx hb hown w_2 dL_tryBest_12 ?_
      refine W.widen (k := 2) (n := 12) (Nat.le_of_ble_eq_true rfl) (Nat.le_of_ble_eq_true rfl) ?_
      refine vx_ret ?_
      exact W.iret (v := (-9999002)) hx hb hr (fun t ht hW => ⟨⟨(-9999002), q1.2.2, rfl, hF, ⟨by rw [ht]; exact hP, hD⟩⟩, hS.F ht⟩) hS.2.2 dL_tryBest_14
    · rw [xc_IS] at h4q
      have hc := cd_X5_bestEvery r rc p1 p2
      rw [eq1, h4q] at hc
      exact absurd hc (by decide)
    · rw [xc_IO] at h4q
      have hF := hF.trans (if_neg (show ¬ q1.1 = 0 by rw [h4q]; decide))
      have hF := hF.trans (if_pos h4q)
      refine vx_catch hown (tableOf []) ⟨0, 6, 7, 37⟩ (tableOf [(0, 6, 11, 13)]) (htab.trans rfl) (fun z hz => nomatch hz) (by decide) (by decide) w_0 (hXE.1.1.2.2.use rfl) h4a h4b h4c ?_
      refine W.eq (g2 := F0 m 7 ls [.ref a97]) rfl ?_
      refine lv_astore_n (lv' := [(3, .ref a97), (0, .ref a0), (1, .int p1), (2, .int p2)]) hx hb dL_tryBest_7 rfl hl (by decide) rfl (fun ls hl => ?_)
      refine lv_ldc (v := (-9999001)) hx hb hown w_3 dL_tryBest_8 ?_
      refine W.widen (k := 2) (n := 12) (Nat.le_of_ble_eq_true rfl) (Nat.le_of_ble_eq_true rfl) ?_
      refine vx_ret ?_
      exact W.iret (v := (-9999001)) hx hb hr (fun t ht hW => ⟨⟨(-9999001), q1.2.2, rfl, hF, ⟨by rw [ht]; exact hP, hD⟩⟩, hS.F ht⟩) hS.2.2 dL_tryBest_10
  · have h4q : q1.1 = 0 := by rw [← eq1, h4]
    obtain ⟨rfl, rfl⟩ : q1.2.1 = v2 ∧ q1.2.2 = u3 := ⟨by rw [← eq1, h4], by rw [← eq1, h4]⟩
    have hP : va_P D vwCl [(a0, .inr (4, [.ref a1, .ref a2, .ref a3, .ref a4, .ref a5])), (a2, soF a6 a7 r), (a6, soV y r), (a7, soW y r), (a3, soF a8 a9 q1.2.2), (a8, soV y q1.2.2), (a9, soW y q1.2.2)] H := hP
    have hD : va_D A [(a0, .inr (4, [.ref a1, .ref a2, .ref a3, .ref a4, .ref a5])), (a2, soF a6 a7 r), (a6, soV y r), (a7, soW y r), (a3, soF a8 a9 q1.2.2), (a8, soV y q1.2.2), (a9, soW y q1.2.2)] := hD
    have hF := hF.trans (if_pos h4q)
    refine W.widen (k := 2) (n := 12) (Nat.le_of_ble_eq_true rfl) (Nat.le_of_ble_eq_true rfl) ?_
    refine vx_ret ?_
    exact W.iret (v := q1.2.1) hx hb hr (fun t ht hW => ⟨⟨q1.2.1, q1.2.2, rfl, hF, ⟨by rw [ht]; exact hP, hD⟩⟩, hS.F ht⟩) hS.2.2 dL_tryBest_6

def f_L_tryMoves (r : gR) (p1 : Int32) : Int32 :=
    gLet (f_X5_movesTo r p1) (fun (q1 : Nat × Int32) =>
    if q1.1 = 0 then
      q1.2
    else
      (-9999001))
theorem f_L_tryMoves_s (r : gR) (p1 : Int32) : f_L_tryMoves r p1 =
    (gLet (f_X5_movesTo r p1) (fun (q1 : Nat × Int32) =>
    if q1.1 = 0 then
      q1.2
    else
      (-9999001))) := rfl
theorem hd_L_tryMoves : yL_tryMoves.cls ≠ "java/lang/invoke/MethodHandle" ∧ yL_tryMoves.cls ≠ "java/lang/invoke/VarHandle" ∧ (parseMethodDescriptor yL_tryMoves.desc).map (fun d => d.parameters.length) = some 2 := by decide +kernel
set_option maxHeartbeats 4000000 in
set_option maxRecDepth 100000 in
theorem c_L_tryMoves (l : Launch) (hst : l.stackTraces = false) (D : va_G) (y : Nat → ClassId) (a0 a1 a2 a3 a4 a5 a6 a7 : Nat) (zh : Nat) (r : gR) (p1 : Int32) (ho : okC r) : Met l yL_tryMoves wsL_tryMoves ({ frames := 8, cells := 2, slots := 12, locals := 124 }) (lP D y [.ref a0, .int p1] zh [(a0, .inr (4, [.ref a1, .ref a2, .ref a3, .ref a4, .ref a5])), (a2, soF a6 a7 r), (a6, soV y r), (a7, soW y r)]) (va_Qi (fun (v : Int32) (u : Unit) => f_L_tryMoves r p1 = v) (fun (u : Unit) t => va_P D vwCl [(a0, .inr (4, [.ref a1, .ref a2, .ref a3, .ref a4, .ref a5])), (a2, soF a6 a7 r), (a6, soV y r), (a7, soW y r)] t.heap ∧ va_D (va_A [(a0, .inr (4, [.ref a1, .ref a2, .ref a3, .ref a4, .ref a5])), (a2, soF a6 a7 r), (a6, soV y r), (a7, soW y r)] zh) [(a0, .inr (4, [.ref a1, .ref a2, .ref a3, .ref a4, .ref a5])), (a2, soF a6 a7 r), (a6, soV y r), (a7, soW y r)]) (va_A [(a0, .inr (4, [.ref a1, .ref a2, .ref a3, .ref a4, .ref a5])), (a2, soF a6 a7 r), (a6, soV y r), (a7, soW y r)] zh)) 2 12 (va_A [(a0, .inr (4, [.ref a1, .ref a2, .ref a3, .ref a4, .ref a5])), (a2, soF a6 a7 r), (a6, soV y r), (a7, soW y r)] zh) := by
  refine xL_of (vx_ofWH (cc := cL_tryMoves) (maxL := 3) (ret := (some .int)) (hh := [(0, 5, 6, 37)]) (by decide) rfl ?_)
  intro p e s m args below meth c s₁ B hml hv
  obtain ⟨⟨⟨rfl, hsz, hP, hE, hD⟩, hXE, hXZ⟩, hLN⟩ := hv
  have hx := B.exec
  have hb := B.bytes
  have hr := B.returns
  have hts := atoms_spec (ws := wsL_tryMoves) B.pre
  have hown : s.vm.findClass RL = some m.cls := findClass_of_methodNamed B.named
  have hlocks := B.notSynchronized
  have htab := vx_table (x := yL_tryMoves) B (hts _ List.mem_cons_self)
  have w_0 := hts (.classLink RL 37 "java/lang/IndexOutOfBoundsException") (List.mem_cons_of_mem _ (List.mem_append_left _ (List.mem_append_left _ (List.mem_append_left _ (List.mem_append_left _ (List.mem_of_getElem? (i := 0) rfl))))))
  have w_1 := hts (.constant RL 39 (-9999001)) (List.mem_cons_of_mem _ (List.mem_append_left _ (List.mem_append_left _ (List.mem_append_left _ (List.mem_append_left _ (List.mem_of_getElem? (i := 1) rfl))))))
  subst hsz
  have hD := hD.self (sz := s.heap.size)
  generalize hAe : va_A [(a0, .inr (4, [.ref a1, .ref a2, .ref a3, .ref a4, .ref a5])), (a2, soF a6 a7 r), (a6, soV y r), (a7, soW y r)] s.heap.size = A at hD hXZ ⊢
  have hA : ∀ q : Nat, s.heap.size ≤ q → A q := fun q h => by rw [← hAe]; exact Or.inr h
  have hS : va_S A s.heap s.heap [] := va_S.rf
  have hl := lv_entry ([.ref a0, .int p1]) (n := 3) (Nat.le_of_ble_eq_true rfl)
  rw [lg_entry_eq]
  generalize (lg_sl ([.ref a0, .int p1]) ++ List.replicate (3 - (lg_sl ([.ref a0, .int p1])).length) Slot.unset).toArray = ls at hl ⊢
  have hl : lv_has ls 3 [(0, .ref a0), (1, .int p1)] := hl
  have hF := f_L_tryMoves_s r p1
  refine lv_aload_n hx hb dL_tryMoves_0 rfl (lv_at hl 0 rfl) ?_
  refine lv_iload_n hx hb dL_tryMoves_1 rfl (lv_at hl 1 rfl) ?_
  obtain ⟨q1, eq1⟩ : ∃ z : Nat × Int32, f_X5_movesTo r p1 = z := ⟨_, rfl⟩
  have hF := hF.trans (gLet_e eq1)
  refine xq_calli (vx_runV (As := [.int p1]) (rest := []) ⟨hx, hb, hml, hown, hts⟩ (c_X5_movesTo l hst D y a0 a1 a2 a3 a4 a5 a6 a7 s.heap.size r p1 ho) (cwV 1 hts gL_tryMoves_X5_movesTo rfl rfl rfl hd_X5_movesTo ⟨Nat.le_of_ble_eq_true rfl, Nat.le_of_ble_eq_true rfl⟩) (xV (q := (RX5, TX5, 5)) hE hXE hXZ hS hA hP hD 0 rfl rfl) rfl rfl hl.1 rfl (lv_room (Nat.le_of_ble_eq_true rfl)) dL_tryMoves_2 ⟨Nat.le_of_ble_eq_true rfl, Nat.le_of_ble_eq_true rfl⟩) hP hD hS hA [0, 1, 2, 3] rfl (by decide) (fun _ => rfl) (fun E5 ce6 a97 u3 H locs h4 hP hD hS h4a h4b h4c => ?_) (fun v2 u3 H locs h4 hP hD hS => ?_)
  · have h4q : q1.1 = xc E5 := by rw [← eq1, h4.1]
    have hP : va_P D vwCl [(a0, .inr (4, [.ref a1, .ref a2, .ref a3, .ref a4, .ref a5])), (a2, soF a6 a7 r), (a6, soV y r), (a7, soW y r)] H := hP
    have hD : va_D A [(a0, .inr (4, [.ref a1, .ref a2, .ref a3, .ref a4, .ref a5])), (a2, soF a6 a7 r), (a6, soV y r), (a7, soW y r)] := hD
    rcases xc_E h4.2 with rfl | rfl | rfl
    · rw [xc_IA] at h4q
      have hc := cd_X5_movesTo r p1
      rw [eq1, h4q] at hc
      exact absurd hc (by decide)
    · rw [xc_IS] at h4q
      have hc := cd_X5_movesTo r p1
      rw [eq1, h4q] at hc
      exact absurd hc (by decide)
    · rw [xc_IO] at h4q
      have hF := hF.trans (if_neg (show ¬ q1.1 = 0 by rw [h4q]; decide))
      refine vx_catch hown (tableOf []) ⟨0, 5, 6, 37⟩ (tableOf []) (htab.trans rfl) (fun z hz => nomatch hz) (by decide) (by decide) w_0 (hXE.1.1.2.2.use rfl) h4a h4b h4c ?_
      refine W.eq (g2 := F0 m 6 ls [.ref a97]) rfl ?_
      refine lv_astore_n (lv' := [(2, .ref a97), (0, .ref a0), (1, .int p1)]) hx hb dL_tryMoves_6 rfl hl (by decide) rfl (fun ls hl => ?_)
      refine lv_ldc (v := (-9999001)) hx hb hown w_1 dL_tryMoves_7 ?_
      refine W.widen (k := 2) (n := 12) (Nat.le_of_ble_eq_true rfl) (Nat.le_of_ble_eq_true rfl) ?_
      refine vx_ret ?_
      exact W.iret (v := (-9999001)) hx hb hr (fun t ht hW => ⟨⟨(-9999001), (), rfl, hF, ⟨by rw [ht]; exact hP, hD⟩⟩, hS.F ht⟩) hS.2.2 dL_tryMoves_9
  · have h4q : q1.1 = 0 := by rw [← eq1, h4]
    obtain rfl : q1.2 = v2 := by rw [← eq1, h4]
    have hP : va_P D vwCl [(a0, .inr (4, [.ref a1, .ref a2, .ref a3, .ref a4, .ref a5])), (a2, soF a6 a7 r), (a6, soV y r), (a7, soW y r)] H := hP
    have hD : va_D A [(a0, .inr (4, [.ref a1, .ref a2, .ref a3, .ref a4, .ref a5])), (a2, soF a6 a7 r), (a6, soV y r), (a7, soW y r)] := hD
    have hF := hF.trans (if_pos h4q)
    refine W.widen (k := 2) (n := 12) (Nat.le_of_ble_eq_true rfl) (Nat.le_of_ble_eq_true rfl) ?_
    refine vx_ret ?_
    exact W.iret (v := q1.2) hx hb hr (fun t ht hW => ⟨⟨q1.2, (), rfl, hF, ⟨by rw [ht]; exact hP, hD⟩⟩, hS.F ht⟩) hS.2.2 dL_tryMoves_5

def f_L_tryBehind (r : gR) (p1 : Int32) (p2 : Int32) : Int32 :=
    gLet (f_X5_placeBehind r p1 p2) (fun (q1 : Nat × Int32) =>
    if q1.1 = 0 then
      q1.2
    else
      if q1.1 = 3 then
        (-9999001)
      else
        (-9999002))
theorem f_L_tryBehind_s (r : gR) (p1 : Int32) (p2 : Int32) : f_L_tryBehind r p1 p2 =
    (gLet (f_X5_placeBehind r p1 p2) (fun (q1 : Nat × Int32) =>
    if q1.1 = 0 then
      q1.2
    else
      if q1.1 = 3 then
        (-9999001)
      else
        (-9999002))) := rfl
theorem hd_L_tryBehind : yL_tryBehind.cls ≠ "java/lang/invoke/MethodHandle" ∧ yL_tryBehind.cls ≠ "java/lang/invoke/VarHandle" ∧ (parseMethodDescriptor yL_tryBehind.desc).map (fun d => d.parameters.length) = some 3 := by decide +kernel
set_option maxHeartbeats 4000000 in
set_option maxRecDepth 100000 in
theorem c_L_tryBehind (l : Launch) (hst : l.stackTraces = false) (D : va_G) (y : Nat → ClassId) (a0 a1 a2 a3 a4 a5 a6 a7 : Nat) (zh : Nat) (r : gR) (p1 : Int32) (p2 : Int32) (ho : okC r) : Met l yL_tryBehind wsL_tryBehind ({ frames := 8, cells := 2, slots := 12, locals := 125 }) (lP D y [.ref a0, .int p1, .int p2] zh [(a0, .inr (4, [.ref a1, .ref a2, .ref a3, .ref a4, .ref a5])), (a2, soF a6 a7 r), (a6, soV y r), (a7, soW y r)]) (va_Qi (fun (v : Int32) (u : Unit) => f_L_tryBehind r p1 p2 = v) (fun (u : Unit) t => va_P D vwCl [(a0, .inr (4, [.ref a1, .ref a2, .ref a3, .ref a4, .ref a5])), (a2, soF a6 a7 r), (a6, soV y r), (a7, soW y r)] t.heap ∧ va_D (va_A [(a0, .inr (4, [.ref a1, .ref a2, .ref a3, .ref a4, .ref a5])), (a2, soF a6 a7 r), (a6, soV y r), (a7, soW y r)] zh) [(a0, .inr (4, [.ref a1, .ref a2, .ref a3, .ref a4, .ref a5])), (a2, soF a6 a7 r), (a6, soV y r), (a7, soW y r)]) (va_A [(a0, .inr (4, [.ref a1, .ref a2, .ref a3, .ref a4, .ref a5])), (a2, soF a6 a7 r), (a6, soV y r), (a7, soW y r)] zh)) 2 12 (va_A [(a0, .inr (4, [.ref a1, .ref a2, .ref a3, .ref a4, .ref a5])), (a2, soF a6 a7 r), (a6, soV y r), (a7, soW y r)] zh) := by
  refine xL_of (vx_ofWH (cc := cL_tryBehind) (maxL := 4) (ret := (some .int)) (hh := [(0, 6, 7, 37), (0, 6, 11, 13)]) (by decide) rfl ?_)
  intro p e s m args below meth c s₁ B hml hv
  obtain ⟨⟨⟨rfl, hsz, hP, hE, hD⟩, hXE, hXZ⟩, hLN⟩ := hv
  have hx := B.exec
  have hb := B.bytes
  have hr := B.returns
  have hts := atoms_spec (ws := wsL_tryBehind) B.pre
  have hown : s.vm.findClass RL = some m.cls := findClass_of_methodNamed B.named
  have hlocks := B.notSynchronized
  have htab := vx_table (x := yL_tryBehind) B (hts _ List.mem_cons_self)
  have w_0 := hts (.classLink RL 37 "java/lang/IndexOutOfBoundsException") (List.mem_cons_of_mem _ (List.mem_append_left _ (List.mem_append_left _ (List.mem_append_left _ (List.mem_append_left _ (List.mem_append_left _ (List.mem_of_getElem? (i := 0) rfl)))))))
  have w_1 := hts (.classLink RL 13 "java/lang/IllegalArgumentException") (List.mem_cons_of_mem _ (List.mem_append_left _ (List.mem_append_left _ (List.mem_append_left _ (List.mem_append_left _ (List.mem_append_left _ (List.mem_of_getElem? (i := 1) rfl)))))))
  have w_2 := hts (.constant RL 15 (-9999002)) (List.mem_cons_of_mem _ (List.mem_append_left _ (List.mem_append_left _ (List.mem_append_left _ (List.mem_append_left _ (List.mem_append_left _ (List.mem_of_getElem? (i := 3) rfl)))))))
  have w_3 := hts (.constant RL 39 (-9999001)) (List.mem_cons_of_mem _ (List.mem_append_left _ (List.mem_append_left _ (List.mem_append_left _ (List.mem_append_left _ (List.mem_append_left _ (List.mem_of_getElem? (i := 2) rfl)))))))
  subst hsz
  have hD := hD.self (sz := s.heap.size)
  generalize hAe : va_A [(a0, .inr (4, [.ref a1, .ref a2, .ref a3, .ref a4, .ref a5])), (a2, soF a6 a7 r), (a6, soV y r), (a7, soW y r)] s.heap.size = A at hD hXZ ⊢
  have hA : ∀ q : Nat, s.heap.size ≤ q → A q := fun q h => by rw [← hAe]; exact Or.inr h
  have hS : va_S A s.heap s.heap [] := va_S.rf
  have hl := lv_entry ([.ref a0, .int p1, .int p2]) (n := 4) (Nat.le_of_ble_eq_true rfl)
  rw [lg_entry_eq]
  generalize (lg_sl ([.ref a0, .int p1, .int p2]) ++ List.replicate (4 - (lg_sl ([.ref a0, .int p1, .int p2])).length) Slot.unset).toArray = ls at hl ⊢
  have hl : lv_has ls 4 [(0, .ref a0), (1, .int p1), (2, .int p2)] := hl
  have hF := f_L_tryBehind_s r p1 p2
  refine lv_aload_n hx hb dL_tryBehind_0 rfl (lv_at hl 0 rfl) ?_
  refine lv_iload_n hx hb dL_tryBehind_1 rfl (lv_at hl 1 rfl) ?_
  refine lv_iload_n hx hb dL_tryBehind_2 rfl (lv_at hl 2 rfl) ?_
  obtain ⟨q1, eq1⟩ : ∃ z : Nat × Int32, f_X5_placeBehind r p1 p2 = z := ⟨_, rfl⟩
  have hF := hF.trans (gLet_e eq1)
  refine xq_calli (vx_runV (As := [.int p1, .int p2]) (rest := []) ⟨hx, hb, hml, hown, hts⟩ (c_X5_placeBehind l hst D y a0 a1 a2 a3 a4 a5 a6 a7 s.heap.size r p1 p2 ho) (cwV 2 hts gL_tryBehind_X5_placeBehind rfl rfl rfl hd_X5_placeBehind ⟨Nat.le_of_ble_eq_true rfl, Nat.le_of_ble_eq_true rfl⟩) (xV (q := (RX5, TX5, 5)) hE hXE hXZ hS hA hP hD 0 rfl rfl) rfl rfl hl.1 rfl (lv_room (Nat.le_of_ble_eq_true rfl)) dL_tryBehind_3 ⟨Nat.le_of_ble_eq_true rfl, Nat.le_of_ble_eq_true rfl⟩) hP hD hS hA [0, 1, 2, 3] rfl (by decide) (fun _ => rfl) (fun E5 ce6 a97 u3 H locs h4 hP hD hS h4a h4b h4c => ?_) (fun v2 u3 H locs h4 hP hD hS => ?_)
  · have h4q : q1.1 = xc E5 := by rw [← eq1, h4.1]
    have hP : va_P D vwCl [(a0, .inr (4, [.ref a1, .ref a2, .ref a3, .ref a4, .ref a5])), (a2, soF a6 a7 r), (a6, soV y r), (a7, soW y r)] H := hP
    have hD : va_D A [(a0, .inr (4, [.ref a1, .ref a2, .ref a3, .ref a4, .ref a5])), (a2, soF a6 a7 r), (a6, soV y r), (a7, soW y r)] := hD
    rcases xc_E h4.2 with rfl | rfl | rfl
    · rw [xc_IA] at h4q
      have hF := hF.trans (if_neg (show ¬ q1.1 = 0 by rw [h4q]; decide))
      have hF := hF.trans (if_neg (show ¬ q1.1 = 3 by rw [h4q]; decide))
      refine vx_catch hown (tableOf [(0, 6, 7, 37)]) ⟨0, 6, 11, 13⟩ (tableOf []) (htab.trans rfl) (fun z hz => by simp only [tableOf, List.map_cons, List.map_nil, List.mem_cons, List.not_mem_nil, or_false] at hz; rcases hz with rfl; exact Or.inr ⟨by decide, _, w_0, hLN.1.2⟩) (by decide) (by decide) w_1 (hXE.1.1.1.use rfl) h4a h4b h4c ?_
      refine W.eq (g2 := F0 m 11 ls [.ref a97]) rfl ?_
      refine lv_astore_n (lv' := [(3, .ref a97), (0, .ref a0), (1, .int p1), (2, .int p2)]) hx hb dL_tryBehind_11 rfl hl (by decide) rfl (fun ls hl => ?_)
      refine lv_ldc (v := (-9999002)) hx hb hown w_2 dL_tryBehind_12 ?_
      refine W.widen (k := 2) (n := 12) (Nat.le_of_ble_eq_true rfl) (Nat.le_of_ble_eq_true rfl) ?_
      refine vx_ret ?_
      exact W.iret (v := (-9999002)) hx hb hr (fun t ht hW => ⟨⟨(-9999002), (), rfl, hF, ⟨by rw [ht]; exact hP, hD⟩⟩, hS.F ht⟩) hS.2.2 dL_tryBehind_14
    · rw [xc_IS] at h4q
      have hc := cd_X5_placeBehind r p1 p2
      rw [eq1, h4q] at hc
      exact absurd hc (by decide)
    · rw [xc_IO] at h4q
      have hF := hF.trans (if_neg (show ¬ q1.1 = 0 by rw [h4q]; decide))
      have hF := hF.trans (if_pos h4q)
      refine vx_catch hown (tableOf []) ⟨0, 6, 7, 37⟩ (tableOf [(0, 6, 11, 13)]) (htab.trans rfl) (fun z hz => nomatch hz) (by decide) (by decide) w_0 (hXE.1.1.2.2.use rfl) h4a h4b h4c ?_
      refine W.eq (g2 := F0 m 7 ls [.ref a97]) rfl ?_
      refine lv_astore_n (lv' := [(3, .ref a97), (0, .ref a0), (1, .int p1), (2, .int p2)]) hx hb dL_tryBehind_7 rfl hl (by decide) rfl (fun ls hl => ?_)
      refine lv_ldc (v := (-9999001)) hx hb hown w_3 dL_tryBehind_8 ?_
      refine W.widen (k := 2) (n := 12) (Nat.le_of_ble_eq_true rfl) (Nat.le_of_ble_eq_true rfl) ?_
      refine vx_ret ?_
      exact W.iret (v := (-9999001)) hx hb hr (fun t ht hW => ⟨⟨(-9999001), (), rfl, hF, ⟨by rw [ht]; exact hP, hD⟩⟩, hS.F ht⟩) hS.2.2 dL_tryBehind_10
  · have h4q : q1.1 = 0 := by rw [← eq1, h4]
    obtain rfl : q1.2 = v2 := by rw [← eq1, h4]
    have hP : va_P D vwCl [(a0, .inr (4, [.ref a1, .ref a2, .ref a3, .ref a4, .ref a5])), (a2, soF a6 a7 r), (a6, soV y r), (a7, soW y r)] H := hP
    have hD : va_D A [(a0, .inr (4, [.ref a1, .ref a2, .ref a3, .ref a4, .ref a5])), (a2, soF a6 a7 r), (a6, soV y r), (a7, soW y r)] := hD
    have hF := hF.trans (if_pos h4q)
    refine W.widen (k := 2) (n := 12) (Nat.le_of_ble_eq_true rfl) (Nat.le_of_ble_eq_true rfl) ?_
    refine vx_ret ?_
    exact W.iret (v := q1.2) hx hb hr (fun t ht hW => ⟨⟨q1.2, (), rfl, hF, ⟨by rw [ht]; exact hP, hD⟩⟩, hS.F ht⟩) hS.2.2 dL_tryBehind_6

def f_L_doScript (r : gR) (rc : gR) (p1 : Int32) (p2 : Int64) : Int32 × gR :=
    gLet (f_X5_runScript r rc p1 p2) (fun (q1 : Nat × Int32 × gR) =>
    if q1.1 = 0 then
      (q1.2.1, q1.2.2)
    else
      ((-9999002), q1.2.2))
theorem f_L_doScript_s (r : gR) (rc : gR) (p1 : Int32) (p2 : Int64) : f_L_doScript r rc p1 p2 =
    (gLet (f_X5_runScript r rc p1 p2) (fun (q1 : Nat × Int32 × gR) =>
    if q1.1 = 0 then
      (q1.2.1, q1.2.2)
    else
      ((-9999002), q1.2.2))) := rfl
theorem hd_L_doScript : yL_doScript.cls ≠ "java/lang/invoke/MethodHandle" ∧ yL_doScript.cls ≠ "java/lang/invoke/VarHandle" ∧ (parseMethodDescriptor yL_doScript.desc).map (fun d => d.parameters.length) = some 3 := by decide +kernel
set_option maxHeartbeats 4000000 in
set_option maxRecDepth 100000 in
theorem c_L_doScript (l : Launch) (hst : l.stackTraces = false) (D : va_G) (y : Nat → ClassId) (a0 a1 a2 a3 a4 a5 a6 a7 a8 a9 : Nat) (zh : Nat) (r : gR) (rc : gR) (p1 : Int32) (p2 : Int64) (ho : okC r) : Met l yL_doScript wsL_doScript ({ frames := 7, cells := 2, slots := 12, locals := 161 }) (lP D y [.ref a0, .int p1, .long p2] zh [(a0, .inr (4, [.ref a1, .ref a2, .ref a3, .ref a4, .ref a5])), (a2, soF a6 a7 r), (a6, soV y r), (a7, soW y r), (a3, soF a8 a9 rc), (a8, soV y rc), (a9, soW y rc)]) (va_Qi (fun (v : Int32) (u : gR) => f_L_doScript r rc p1 p2 = (v, u)) (fun (u : gR) t => va_P D vwCl [(a0, .inr (4, [.ref a1, .ref a2, .ref a3, .ref a4, .ref a5])), (a2, soF a6 a7 r), (a6, soV y r), (a7, soW y r), (a3, soF a8 a9 u), (a8, soV y u), (a9, soW y u)] t.heap ∧ va_D (va_A [(a0, .inr (4, [.ref a1, .ref a2, .ref a3, .ref a4, .ref a5])), (a2, soF a6 a7 r), (a6, soV y r), (a7, soW y r), (a3, soF a8 a9 rc), (a8, soV y rc), (a9, soW y rc)] zh) [(a0, .inr (4, [.ref a1, .ref a2, .ref a3, .ref a4, .ref a5])), (a2, soF a6 a7 r), (a6, soV y r), (a7, soW y r), (a3, soF a8 a9 u), (a8, soV y u), (a9, soW y u)]) (va_A [(a0, .inr (4, [.ref a1, .ref a2, .ref a3, .ref a4, .ref a5])), (a2, soF a6 a7 r), (a6, soV y r), (a7, soW y r), (a3, soF a8 a9 rc), (a8, soV y rc), (a9, soW y rc)] zh)) 2 12 (va_A [(a0, .inr (4, [.ref a1, .ref a2, .ref a3, .ref a4, .ref a5])), (a2, soF a6 a7 r), (a6, soV y r), (a7, soW y r), (a3, soF a8 a9 rc), (a8, soV y rc), (a9, soW y rc)] zh) := by
  refine xL_of (vx_ofWH (cc := cL_doScript) (maxL := 5) (ret := (some .int)) (hh := [(0, 6, 7, 13)]) (by decide) rfl ?_)
  intro p e s m args below meth c s₁ B hml hv
  obtain ⟨⟨⟨rfl, hsz, hP, hE, hD⟩, hXE, hXZ⟩, hLN⟩ := hv
  have hx := B.exec
  have hb := B.bytes
  have hr := B.returns
  have hts := atoms_spec (ws := wsL_doScript) B.pre
  have hown : s.vm.findClass RL = some m.cls := findClass_of_methodNamed B.named
  have hlocks := B.notSynchronized
  have htab := vx_table (x := yL_doScript) B (hts _ List.mem_cons_self)
  have w_0 := hts (.classLink RL 13 "java/lang/IllegalArgumentException") (List.mem_cons_of_mem _ (List.mem_append_left _ (List.mem_append_left _ (List.mem_append_left _ (List.mem_append_left _ (List.mem_of_getElem? (i := 0) rfl))))))
  have w_1 := hts (.constant RL 15 (-9999002)) (List.mem_cons_of_mem _ (List.mem_append_left _ (List.mem_append_left _ (List.mem_append_left _ (List.mem_append_left _ (List.mem_of_getElem? (i := 1) rfl))))))
  subst hsz
  have hD := hD.self (sz := s.heap.size)
  generalize hAe : va_A [(a0, .inr (4, [.ref a1, .ref a2, .ref a3, .ref a4, .ref a5])), (a2, soF a6 a7 r), (a6, soV y r), (a7, soW y r), (a3, soF a8 a9 rc), (a8, soV y rc), (a9, soW y rc)] s.heap.size = A at hD hXZ ⊢
  have hA : ∀ q : Nat, s.heap.size ≤ q → A q := fun q h => by rw [← hAe]; exact Or.inr h
  have hS : va_S A s.heap s.heap [] := va_S.rf
  have hl := lv_entry ([.ref a0, .int p1, .long p2]) (n := 5) (Nat.le_of_ble_eq_true rfl)
  rw [lg_entry_eq]
  generalize (lg_sl ([.ref a0, .int p1, .long p2]) ++ List.replicate (5 - (lg_sl ([.ref a0, .int p1, .long p2])).length) Slot.unset).toArray = ls at hl ⊢
  have hl : lv_has ls 5 [(0, .ref a0), (1, .int p1), (2, .long p2)] := hl
  have hF := f_L_doScript_s r rc p1 p2
  refine lv_aload_n hx hb dL_doScript_0 rfl (lv_at hl 0 rfl) ?_
  refine lv_iload_n hx hb dL_doScript_1 rfl (lv_at hl 1 rfl) ?_
  refine lv_lload_n hx hb dL_doScript_2 rfl (lv_at hl 2 rfl) ?_
  obtain ⟨q1, eq1⟩ : ∃ z : Nat × Int32 × gR, f_X5_runScript r rc p1 p2 = z := ⟨_, rfl⟩
  have hF := hF.trans (gLet_e eq1)
  refine xq_calli (vx_runV (As := [.int p1, .long p2]) (rest := []) ⟨hx, hb, hml, hown, hts⟩ (c_X5_runScript l hst D y a0 a1 a2 a3 a4 a5 a6 a7 a8 a9 s.heap.size r rc p1 p2 ho) (cwV 2 hts gL_doScript_X5_runScript rfl rfl rfl hd_X5_runScript ⟨Nat.le_of_ble_eq_true rfl, Nat.le_of_ble_eq_true rfl⟩) (xV (q := (RX5, TX5, 5)) hE hXE hXZ hS hA hP hD 0 rfl rfl) rfl rfl hl.1 rfl (lv_room (Nat.le_of_ble_eq_true rfl)) dL_doScript_3 ⟨Nat.le_of_ble_eq_true rfl, Nat.le_of_ble_eq_true rfl⟩) hP hD hS hA [0, 1, 2, 3, 4, 5, 6] rfl (by decide) (fun _ => rfl) (fun E5 ce6 a97 u3 H locs h4 hP hD hS h4a h4b h4c => ?_) (fun v2 u3 H locs h4 hP hD hS => ?_)
  · have h4q : q1.1 = xc E5 := by rw [← eq1, h4.1]
    obtain rfl : q1.2.2 = u3 := by rw [← eq1, h4.1]
    have hP : va_P D vwCl [(a0, .inr (4, [.ref a1, .ref a2, .ref a3, .ref a4, .ref a5])), (a2, soF a6 a7 r), (a6, soV y r), (a7, soW y r), (a3, soF a8 a9 q1.2.2), (a8, soV y q1.2.2), (a9, soW y q1.2.2)] H := hP
    have hD : va_D A [(a0, .inr (4, [.ref a1, .ref a2, .ref a3, .ref a4, .ref a5])), (a2, soF a6 a7 r), (a6, soV y r), (a7, soW y r), (a3, soF a8 a9 q1.2.2), (a8, soV y q1.2.2), (a9, soW y q1.2.2)] := hD
    rcases xc_E h4.2 with rfl | rfl | rfl
    · rw [xc_IA] at h4q
      have hF := hF.trans (if_neg (show ¬ q1.1 = 0 by rw [h4q]; decide))
      refine vx_catch hown (tableOf []) ⟨0, 6, 7, 13⟩ (tableOf []) (htab.trans rfl) (fun z hz => nomatch hz) (by decide) (by decide) w_0 (hXE.1.1.1.use rfl) h4a h4b h4c ?_
      refine W.eq (g2 := F0 m 7 ls [.ref a97]) rfl ?_
      refine lv_astore (lv' := [(4, .ref a97), (0, .ref a0), (1, .int p1), (2, .long p2)]) hx hb dL_doScript_7 hl (by decide) rfl (fun ls hl => ?_)
      refine lv_ldc (v := (-9999002)) hx hb hown w_1 dL_doScript_9 ?_
      refine W.widen (k := 2) (n := 12) (Nat.le_of_ble_eq_true rfl) (Nat.le_of_ble_eq_true rfl) ?_
      refine vx_ret ?_
      exact W.iret (v := (-9999002)) hx hb hr (fun t ht hW => ⟨⟨(-9999002), q1.2.2, rfl, hF, ⟨by rw [ht]; exact hP, hD⟩⟩, hS.F ht⟩) hS.2.2 dL_doScript_11
    · rw [xc_IS] at h4q
      have hc := cd_X5_runScript r rc p1 p2
      rw [eq1, h4q] at hc
      exact absurd hc (by decide)
    · rw [xc_IO] at h4q
      have hc := cd_X5_runScript r rc p1 p2
      rw [eq1, h4q] at hc
      exact absurd hc (by decide)
  · have h4q : q1.1 = 0 := by rw [← eq1, h4]
    obtain ⟨rfl, rfl⟩ : q1.2.1 = v2 ∧ q1.2.2 = u3 := ⟨by rw [← eq1, h4], by rw [← eq1, h4]⟩
    have hP : va_P D vwCl [(a0, .inr (4, [.ref a1, .ref a2, .ref a3, .ref a4, .ref a5])), (a2, soF a6 a7 r), (a6, soV y r), (a7, soW y r), (a3, soF a8 a9 q1.2.2), (a8, soV y q1.2.2), (a9, soW y q1.2.2)] H := hP
    have hD : va_D A [(a0, .inr (4, [.ref a1, .ref a2, .ref a3, .ref a4, .ref a5])), (a2, soF a6 a7 r), (a6, soV y r), (a7, soW y r), (a3, soF a8 a9 q1.2.2), (a8, soV y q1.2.2), (a9, soW y q1.2.2)] := hD
    have hF := hF.trans (if_pos h4q)
    refine W.widen (k := 2) (n := 12) (Nat.le_of_ble_eq_true rfl) (Nat.le_of_ble_eq_true rfl) ?_
    refine vx_ret ?_
    exact W.iret (v := q1.2.1) hx hb hr (fun t ht hW => ⟨⟨q1.2.1, q1.2.2, rfl, hF, ⟨by rw [ht]; exact hP, hD⟩⟩, hS.F ht⟩) hS.2.2 dL_doScript_6

def f_L_doSimulate (r : gR) (rc : gR) (p1 : Int64) (p2 : Int32) : Int32 × gR :=
    gLet (f_X5_simulate r rc p1 p2) (fun (q1 : Nat × Int32 × gR) =>
    if q1.1 = 0 then
      (q1.2.1, q1.2.2)
    else
      ((-9999002), q1.2.2))
theorem f_L_doSimulate_s (r : gR) (rc : gR) (p1 : Int64) (p2 : Int32) : f_L_doSimulate r rc p1 p2 =
    (gLet (f_X5_simulate r rc p1 p2) (fun (q1 : Nat × Int32 × gR) =>
    if q1.1 = 0 then
      (q1.2.1, q1.2.2)
    else
      ((-9999002), q1.2.2))) := rfl
theorem hd_L_doSimulate : yL_doSimulate.cls ≠ "java/lang/invoke/MethodHandle" ∧ yL_doSimulate.cls ≠ "java/lang/invoke/VarHandle" ∧ (parseMethodDescriptor yL_doSimulate.desc).map (fun d => d.parameters.length) = some 3 := by decide +kernel
set_option maxHeartbeats 4000000 in
set_option maxRecDepth 100000 in
theorem c_L_doSimulate (l : Launch) (hst : l.stackTraces = false) (D : va_G) (y : Nat → ClassId) (a0 a1 a2 a3 a4 a5 a6 a7 a8 a9 : Nat) (zh : Nat) (r : gR) (rc : gR) (p1 : Int64) (p2 : Int32) (ho : okC r) : Met l yL_doSimulate wsL_doSimulate ({ frames := 7, cells := 2, slots := 12, locals := 118 }) (lP D y [.ref a0, .long p1, .int p2] zh [(a0, .inr (4, [.ref a1, .ref a2, .ref a3, .ref a4, .ref a5])), (a2, soF a6 a7 r), (a6, soV y r), (a7, soW y r), (a3, soF a8 a9 rc), (a8, soV y rc), (a9, soW y rc)]) (va_Qi (fun (v : Int32) (u : gR) => f_L_doSimulate r rc p1 p2 = (v, u)) (fun (u : gR) t => va_P D vwCl [(a0, .inr (4, [.ref a1, .ref a2, .ref a3, .ref a4, .ref a5])), (a2, soF a6 a7 r), (a6, soV y r), (a7, soW y r), (a3, soF a8 a9 u), (a8, soV y u), (a9, soW y u)] t.heap ∧ va_D (va_A [(a0, .inr (4, [.ref a1, .ref a2, .ref a3, .ref a4, .ref a5])), (a2, soF a6 a7 r), (a6, soV y r), (a7, soW y r), (a3, soF a8 a9 rc), (a8, soV y rc), (a9, soW y rc)] zh) [(a0, .inr (4, [.ref a1, .ref a2, .ref a3, .ref a4, .ref a5])), (a2, soF a6 a7 r), (a6, soV y r), (a7, soW y r), (a3, soF a8 a9 u), (a8, soV y u), (a9, soW y u)]) (va_A [(a0, .inr (4, [.ref a1, .ref a2, .ref a3, .ref a4, .ref a5])), (a2, soF a6 a7 r), (a6, soV y r), (a7, soW y r), (a3, soF a8 a9 rc), (a8, soV y rc), (a9, soW y rc)] zh)) 2 12 (va_A [(a0, .inr (4, [.ref a1, .ref a2, .ref a3, .ref a4, .ref a5])), (a2, soF a6 a7 r), (a6, soV y r), (a7, soW y r), (a3, soF a8 a9 rc), (a8, soV y rc), (a9, soW y rc)] zh) := by
  refine xL_of (vx_ofWH (cc := cL_doSimulate) (maxL := 5) (ret := (some .int)) (hh := [(0, 6, 7, 13)]) (by decide) rfl ?_)
  intro p e s m args below meth c s₁ B hml hv
  obtain ⟨⟨⟨rfl, hsz, hP, hE, hD⟩, hXE, hXZ⟩, hLN⟩ := hv
  have hx := B.exec
  have hb := B.bytes
  have hr := B.returns
  have hts := atoms_spec (ws := wsL_doSimulate) B.pre
  have hown : s.vm.findClass RL = some m.cls := findClass_of_methodNamed B.named
  have hlocks := B.notSynchronized
  have htab := vx_table (x := yL_doSimulate) B (hts _ List.mem_cons_self)
  have w_0 := hts (.classLink RL 13 "java/lang/IllegalArgumentException") (List.mem_cons_of_mem _ (List.mem_append_left _ (List.mem_append_left _ (List.mem_append_left _ (List.mem_append_left _ (List.mem_of_getElem? (i := 0) rfl))))))
  have w_1 := hts (.constant RL 15 (-9999002)) (List.mem_cons_of_mem _ (List.mem_append_left _ (List.mem_append_left _ (List.mem_append_left _ (List.mem_append_left _ (List.mem_of_getElem? (i := 1) rfl))))))
  subst hsz
  have hD := hD.self (sz := s.heap.size)
  generalize hAe : va_A [(a0, .inr (4, [.ref a1, .ref a2, .ref a3, .ref a4, .ref a5])), (a2, soF a6 a7 r), (a6, soV y r), (a7, soW y r), (a3, soF a8 a9 rc), (a8, soV y rc), (a9, soW y rc)] s.heap.size = A at hD hXZ ⊢
  have hA : ∀ q : Nat, s.heap.size ≤ q → A q := fun q h => by rw [← hAe]; exact Or.inr h
  have hS : va_S A s.heap s.heap [] := va_S.rf
  have hl := lv_entry ([.ref a0, .long p1, .int p2]) (n := 5) (Nat.le_of_ble_eq_true rfl)
  rw [lg_entry_eq]
  generalize (lg_sl ([.ref a0, .long p1, .int p2]) ++ List.replicate (5 - (lg_sl ([.ref a0, .long p1, .int p2])).length) Slot.unset).toArray = ls at hl ⊢
  have hl : lv_has ls 5 [(0, .ref a0), (1, .long p1), (3, .int p2)] := hl
  have hF := f_L_doSimulate_s r rc p1 p2
  refine lv_aload_n hx hb dL_doSimulate_0 rfl (lv_at hl 0 rfl) ?_
  refine lv_lload_n hx hb dL_doSimulate_1 rfl (lv_at hl 1 rfl) ?_
  refine lv_iload_n hx hb dL_doSimulate_2 rfl (lv_at hl 2 rfl) ?_
  obtain ⟨q1, eq1⟩ : ∃ z : Nat × Int32 × gR, f_X5_simulate r rc p1 p2 = z := ⟨_, rfl⟩
  have hF := hF.trans (gLet_e eq1)
  refine xq_calli (vx_runV (As := [.long p1, .int p2]) (rest := []) ⟨hx, hb, hml, hown, hts⟩ (c_X5_simulate l hst D y a0 a1 a2 a3 a4 a5 a6 a7 a8 a9 s.heap.size r rc p1 p2 ho) (cwV 2 hts gL_doSimulate_X5_simulate rfl rfl rfl hd_X5_simulate ⟨Nat.le_of_ble_eq_true rfl, Nat.le_of_ble_eq_true rfl⟩) (xV (q := (RX5, TX5, 5)) hE hXE hXZ hS hA hP hD 0 rfl rfl) rfl rfl hl.1 rfl (lv_room (Nat.le_of_ble_eq_true rfl)) dL_doSimulate_3 ⟨Nat.le_of_ble_eq_true rfl, Nat.le_of_ble_eq_true rfl⟩) hP hD hS hA [0, 1, 2, 3, 4, 5, 6] rfl (by decide) (fun _ => rfl) (fun E5 ce6 a97 u3 H locs h4 hP hD hS h4a h4b h4c => ?_) (fun v2 u3 H locs h4 hP hD hS => ?_)
  · have h4q : q1.1 = xc E5 := by rw [← eq1, h4.1]
    obtain rfl : q1.2.2 = u3 := by rw [← eq1, h4.1]
    have hP : va_P D vwCl [(a0, .inr (4, [.ref a1, .ref a2, .ref a3, .ref a4, .ref a5])), (a2, soF a6 a7 r), (a6, soV y r), (a7, soW y r), (a3, soF a8 a9 q1.2.2), (a8, soV y q1.2.2), (a9, soW y q1.2.2)] H := hP
    have hD : va_D A [(a0, .inr (4, [.ref a1, .ref a2, .ref a3, .ref a4, .ref a5])), (a2, soF a6 a7 r), (a6, soV y r), (a7, soW y r), (a3, soF a8 a9 q1.2.2), (a8, soV y q1.2.2), (a9, soW y q1.2.2)] := hD
    rcases xc_E h4.2 with rfl | rfl | rfl
    · rw [xc_IA] at h4q
      have hF := hF.trans (if_neg (show ¬ q1.1 = 0 by rw [h4q]; decide))
      refine vx_catch hown (tableOf []) ⟨0, 6, 7, 13⟩ (tableOf []) (htab.trans rfl) (fun z hz => nomatch hz) (by decide) (by decide) w_0 (hXE.1.1.1.use rfl) h4a h4b h4c ?_
      refine W.eq (g2 := F0 m 7 ls [.ref a97]) rfl ?_
      refine lv_astore (lv' := [(4, .ref a97), (0, .ref a0), (1, .long p1), (3, .int p2)]) hx hb dL_doSimulate_7 hl (by decide) rfl (fun ls hl => ?_)
      refine lv_ldc (v := (-9999002)) hx hb hown w_1 dL_doSimulate_9 ?_
      refine W.widen (k := 2) (n := 12) (Nat.le_of_ble_eq_true rfl) (Nat.le_of_ble_eq_true rfl) ?_
      refine vx_ret ?_
      exact W.iret (v := (-9999002)) hx hb hr (fun t ht hW => ⟨⟨(-9999002), q1.2.2, rfl, hF, ⟨by rw [ht]; exact hP, hD⟩⟩, hS.F ht⟩) hS.2.2 dL_doSimulate_11
    · rw [xc_IS] at h4q
      have hc := cd_X5_simulate r rc p1 p2
      rw [eq1, h4q] at hc
      exact absurd hc (by decide)
    · rw [xc_IO] at h4q
      have hc := cd_X5_simulate r rc p1 p2
      rw [eq1, h4q] at hc
      exact absurd hc (by decide)
  · have h4q : q1.1 = 0 := by rw [← eq1, h4]
    obtain ⟨rfl, rfl⟩ : q1.2.1 = v2 ∧ q1.2.2 = u3 := ⟨by rw [← eq1, h4], by rw [← eq1, h4]⟩
    have hP : va_P D vwCl [(a0, .inr (4, [.ref a1, .ref a2, .ref a3, .ref a4, .ref a5])), (a2, soF a6 a7 r), (a6, soV y r), (a7, soW y r), (a3, soF a8 a9 q1.2.2), (a8, soV y q1.2.2), (a9, soW y q1.2.2)] H := hP
    have hD : va_D A [(a0, .inr (4, [.ref a1, .ref a2, .ref a3, .ref a4, .ref a5])), (a2, soF a6 a7 r), (a6, soV y r), (a7, soW y r), (a3, soF a8 a9 q1.2.2), (a8, soV y q1.2.2), (a9, soW y q1.2.2)] := hD
    have hF := hF.trans (if_pos h4q)
    refine W.widen (k := 2) (n := 12) (Nat.le_of_ble_eq_true rfl) (Nat.le_of_ble_eq_true rfl) ?_
    refine vx_ret ?_
    exact W.iret (v := q1.2.1) hx hb hr (fun t ht hW => ⟨⟨q1.2.1, q1.2.2, rfl, hF, ⟨by rw [ht]; exact hP, hD⟩⟩, hS.F ht⟩) hS.2.2 dL_doSimulate_6

def f_L_tryKeep (tn : Int32) (tf : Nat → Int32) (r : gR) (rc : gR) (qz : Int32) (qn : Int32) (hq : Nat → Option gR) (lq : Nat → Option gR) (lfl : Nat → Int32) (p1 : Int32) : Int32 × (Nat → Option gR) × (Nat → Int32) :=
    gLet (f_X5_save tn tf r rc qz qn hq lq lfl p1) (fun (q1 : Nat × Int32 × (Nat → Option gR) × (Nat → Int32)) =>
    if q1.1 = 0 then
      (q1.2.1, q1.2.2.1, q1.2.2.2)
    else
      ((-9999001), q1.2.2.1, q1.2.2.2))
theorem f_L_tryKeep_s (tn : Int32) (tf : Nat → Int32) (r : gR) (rc : gR) (qz : Int32) (qn : Int32) (hq : Nat → Option gR) (lq : Nat → Option gR) (lfl : Nat → Int32) (p1 : Int32) : f_L_tryKeep tn tf r rc qz qn hq lq lfl p1 =
    (gLet (f_X5_save tn tf r rc qz qn hq lq lfl p1) (fun (q1 : Nat × Int32 × (Nat → Option gR) × (Nat → Int32)) =>
    if q1.1 = 0 then
      (q1.2.1, q1.2.2.1, q1.2.2.2)
    else
      ((-9999001), q1.2.2.1, q1.2.2.2))) := rfl
theorem hd_L_tryKeep : yL_tryKeep.cls ≠ "java/lang/invoke/MethodHandle" ∧ yL_tryKeep.cls ≠ "java/lang/invoke/VarHandle" ∧ (parseMethodDescriptor yL_tryKeep.desc).map (fun d => d.parameters.length) = some 2 := by decide +kernel
set_option maxHeartbeats 4000000 in
set_option maxRecDepth 100000 in
theorem c_L_tryKeep (l : Launch) (hst : l.stackTraces = false) (D : va_G) (y : Nat → ClassId) (a0 a1 a2 a3 a4 a5 a6 a7 a8 a9 a10 a11 a12 a13 : Nat) (ga gb : Nat → Nat × Nat × Nat) (zh : Nat) (tn : Int32) (tf : Nat → Int32) (r : gR) (rc : gR) (qz : Int32) (qn : Int32) (hq : Nat → Option gR) (lq : Nat → Option gR) (lfl : Nat → Int32) (p1 : Int32) (ho : okC r) : Met l yL_tryKeep wsL_tryKeep ({ frames := 8, cells := 4, slots := 86, locals := 123 }) (lP D y [.ref a0, .int p1] zh ((a0, .inr (4, [.ref a1, .ref a2, .ref a3, .ref a4, .ref a5])) :: (a1, .inr (3, [.ref a6, .int tn])) :: (a6, .inl (y 1, 120, .inl tf)) :: (a2, soF a7 a8 r) :: (a7, soV y r) :: (a8, soW y r) :: (a3, soF a9 a10 rc) :: (a9, soV y rc) :: (a10, soW y rc) :: (a4, .inr (0, [.ref a11, .int qz, .int qn])) :: (a11, .inl (y 3, 14, .inr (.inr (.inr (.inr (gRf ga hq)))))) :: (a5, .inr (1, [.ref a12, .ref a13])) :: (a12, .inl (y 3, 2, .inr (.inr (.inr (.inr (gRf gb lq)))))) :: (a13, .inl (y 2, 2, .inl lfl)) :: gTail y ga gb hq lq)) (va_Qi (fun (v : Int32) (u : (Nat → Option gR) × (Nat → Int32)) => f_L_tryKeep tn tf r rc qz qn hq lq lfl p1 = (v, u)) (fun (u : (Nat → Option gR) × (Nat → Int32)) t => ∃ (g1 g2 : Nat → Nat × Nat × Nat), va_P D vwCl ((a0, .inr (4, [.ref a1, .ref a2, .ref a3, .ref a4, .ref a5])) :: (a1, .inr (3, [.ref a6, .int tn])) :: (a6, .inl (y 1, 120, .inl tf)) :: (a2, soF a7 a8 r) :: (a7, soV y r) :: (a8, soW y r) :: (a3, soF a9 a10 rc) :: (a9, soV y rc) :: (a10, soW y rc) :: (a4, .inr (0, [.ref a11, .int qz, .int qn])) :: (a11, .inl (y 3, 14, .inr (.inr (.inr (.inr (gRf g1 hq)))))) :: (a5, .inr (1, [.ref a12, .ref a13])) :: (a12, .inl (y 3, 2, .inr (.inr (.inr (.inr (gRf g2 u.1)))))) :: (a13, .inl (y 2, 2, .inl u.2)) :: gTail y g1 g2 hq u.1) t.heap ∧ va_D (va_A ((a0, .inr (4, [.ref a1, .ref a2, .ref a3, .ref a4, .ref a5])) :: (a1, .inr (3, [.ref a6, .int tn])) :: (a6, .inl (y 1, 120, .inl tf)) :: (a2, soF a7 a8 r) :: (a7, soV y r) :: (a8, soW y r) :: (a3, soF a9 a10 rc) :: (a9, soV y rc) :: (a10, soW y rc) :: (a4, .inr (0, [.ref a11, .int qz, .int qn])) :: (a11, .inl (y 3, 14, .inr (.inr (.inr (.inr (gRf ga hq)))))) :: (a5, .inr (1, [.ref a12, .ref a13])) :: (a12, .inl (y 3, 2, .inr (.inr (.inr (.inr (gRf gb lq)))))) :: (a13, .inl (y 2, 2, .inl lfl)) :: gTail y ga gb hq lq) zh) ((a0, .inr (4, [.ref a1, .ref a2, .ref a3, .ref a4, .ref a5])) :: (a1, .inr (3, [.ref a6, .int tn])) :: (a6, .inl (y 1, 120, .inl tf)) :: (a2, soF a7 a8 r) :: (a7, soV y r) :: (a8, soW y r) :: (a3, soF a9 a10 rc) :: (a9, soV y rc) :: (a10, soW y rc) :: (a4, .inr (0, [.ref a11, .int qz, .int qn])) :: (a11, .inl (y 3, 14, .inr (.inr (.inr (.inr (gRf g1 hq)))))) :: (a5, .inr (1, [.ref a12, .ref a13])) :: (a12, .inl (y 3, 2, .inr (.inr (.inr (.inr (gRf g2 u.1)))))) :: (a13, .inl (y 2, 2, .inl u.2)) :: gTail y g1 g2 hq u.1)) (va_A ((a0, .inr (4, [.ref a1, .ref a2, .ref a3, .ref a4, .ref a5])) :: (a1, .inr (3, [.ref a6, .int tn])) :: (a6, .inl (y 1, 120, .inl tf)) :: (a2, soF a7 a8 r) :: (a7, soV y r) :: (a8, soW y r) :: (a3, soF a9 a10 rc) :: (a9, soV y rc) :: (a10, soW y rc) :: (a4, .inr (0, [.ref a11, .int qz, .int qn])) :: (a11, .inl (y 3, 14, .inr (.inr (.inr (.inr (gRf ga hq)))))) :: (a5, .inr (1, [.ref a12, .ref a13])) :: (a12, .inl (y 3, 2, .inr (.inr (.inr (.inr (gRf gb lq)))))) :: (a13, .inl (y 2, 2, .inl lfl)) :: gTail y ga gb hq lq) zh)) 4 86 (va_A ((a0, .inr (4, [.ref a1, .ref a2, .ref a3, .ref a4, .ref a5])) :: (a1, .inr (3, [.ref a6, .int tn])) :: (a6, .inl (y 1, 120, .inl tf)) :: (a2, soF a7 a8 r) :: (a7, soV y r) :: (a8, soW y r) :: (a3, soF a9 a10 rc) :: (a9, soV y rc) :: (a10, soW y rc) :: (a4, .inr (0, [.ref a11, .int qz, .int qn])) :: (a11, .inl (y 3, 14, .inr (.inr (.inr (.inr (gRf ga hq)))))) :: (a5, .inr (1, [.ref a12, .ref a13])) :: (a12, .inl (y 3, 2, .inr (.inr (.inr (.inr (gRf gb lq)))))) :: (a13, .inl (y 2, 2, .inl lfl)) :: gTail y ga gb hq lq) zh) := by
  refine xL_of (vx_ofWH (cc := cL_tryKeep) (maxL := 3) (ret := (some .int)) (hh := [(0, 5, 6, 37)]) (by decide) rfl ?_)
  intro p e s m args below meth c s₁ B hml hv
  obtain ⟨⟨⟨rfl, hsz, hP, hE, hD⟩, hXE, hXZ⟩, hLN⟩ := hv
  have hx := B.exec
  have hb := B.bytes
  have hr := B.returns
  have hts := atoms_spec (ws := wsL_tryKeep) B.pre
  have hown : s.vm.findClass RL = some m.cls := findClass_of_methodNamed B.named
  have hlocks := B.notSynchronized
  have htab := vx_table (x := yL_tryKeep) B (hts _ List.mem_cons_self)
  have w_0 := hts (.classLink RL 37 "java/lang/IndexOutOfBoundsException") (List.mem_cons_of_mem _ (List.mem_append_left _ (List.mem_append_left _ (List.mem_append_left _ (List.mem_append_left _ (List.mem_append_left _ (List.mem_of_getElem? (i := 0) rfl)))))))
  have w_1 := hts (.constant RL 39 (-9999001)) (List.mem_cons_of_mem _ (List.mem_append_left _ (List.mem_append_left _ (List.mem_append_left _ (List.mem_append_left _ (List.mem_append_left _ (List.mem_of_getElem? (i := 1) rfl)))))))
  subst hsz
  have hD := hD.self (sz := s.heap.size)
  generalize hAe : va_A ((a0, .inr (4, [.ref a1, .ref a2, .ref a3, .ref a4, .ref a5])) :: (a1, .inr (3, [.ref a6, .int tn])) :: (a6, .inl (y 1, 120, .inl tf)) :: (a2, soF a7 a8 r) :: (a7, soV y r) :: (a8, soW y r) :: (a3, soF a9 a10 rc) :: (a9, soV y rc) :: (a10, soW y rc) :: (a4, .inr (0, [.ref a11, .int qz, .int qn])) :: (a11, .inl (y 3, 14, .inr (.inr (.inr (.inr (gRf ga hq)))))) :: (a5, .inr (1, [.ref a12, .ref a13])) :: (a12, .inl (y 3, 2, .inr (.inr (.inr (.inr (gRf gb lq)))))) :: (a13, .inl (y 2, 2, .inl lfl)) :: gTail y ga gb hq lq) s.heap.size = A at hD hXZ ⊢
  have hA : ∀ q : Nat, s.heap.size ≤ q → A q := fun q h => by rw [← hAe]; exact Or.inr h
  have hS : va_S A s.heap s.heap [] := va_S.rf
  have hl := lv_entry ([.ref a0, .int p1]) (n := 3) (Nat.le_of_ble_eq_true rfl)
  rw [lg_entry_eq]
  generalize (lg_sl ([.ref a0, .int p1]) ++ List.replicate (3 - (lg_sl ([.ref a0, .int p1])).length) Slot.unset).toArray = ls at hl ⊢
  have hl : lv_has ls 3 [(0, .ref a0), (1, .int p1)] := hl
  have hF := f_L_tryKeep_s tn tf r rc qz qn hq lq lfl p1
  obtain ⟨T, hT⟩ : ∃ T : va_W, gTail y ga gb hq lq = T := ⟨_, rfl⟩
  rw [hT] at hP hD
  refine lv_aload_n hx hb dL_tryKeep_0 rfl (lv_at hl 0 rfl) ?_
  refine lv_iload_n hx hb dL_tryKeep_1 rfl (lv_at hl 1 rfl) ?_
  rw [← hT] at hP hD
  obtain ⟨q1, eq1⟩ : ∃ z : Nat × Int32 × (Nat → Option gR) × (Nat → Int32), f_X5_save tn tf r rc qz qn hq lq lfl p1 = z := ⟨_, rfl⟩
  have hF := hF.trans (gLet_e eq1)
  refine xq_callEi (ex := ([] : va_W)) (vx_runV (As := [.int p1]) (rest := []) ⟨hx, hb, hml, hown, hts⟩ (c_X5_save l hst D y a0 a1 a2 a3 a4 a5 a6 a7 a8 a9 a10 a11 a12 a13 ga gb s.heap.size tn tf r rc qz qn hq lq lfl p1 ho) (cwV 1 hts gL_tryKeep_X5_save rfl rfl rfl hd_X5_save ⟨Nat.le_of_ble_eq_true rfl, Nat.le_of_ble_eq_true rfl⟩) (xV (q := (RX5, TX5, 5)) hE hXE hXZ hS hA hP hD 0 rfl rfl) rfl rfl hl.1 rfl (lv_room (Nat.le_of_ble_eq_true rfl)) dL_tryKeep_2 ⟨Nat.le_of_ble_eq_true rfl, Nat.le_of_ble_eq_true rfl⟩) hP hD hS hA (fun E5 ce6 a97 u3 ga8 gb9 H locs h4 hP hD hS h4a h4b h4c => ?_) (fun v2 u3 ga8 gb9 H locs h4 hP hD hS => ?_)
  · have h4q : q1.1 = xc E5 := by rw [← eq1, h4.1]
    obtain rfl : q1.2.2 = u3 := by rw [← eq1, h4.1]
    have hP : va_P D vwCl ((a0, .inr (4, [.ref a1, .ref a2, .ref a3, .ref a4, .ref a5])) :: (a1, .inr (3, [.ref a6, .int tn])) :: (a6, .inl (y 1, 120, .inl tf)) :: (a2, soF a7 a8 r) :: (a7, soV y r) :: (a8, soW y r) :: (a3, soF a9 a10 rc) :: (a9, soV y rc) :: (a10, soW y rc) :: (a4, .inr (0, [.ref a11, .int qz, .int qn])) :: (a11, .inl (y 3, 14, .inr (.inr (.inr (.inr (gRf ga8 hq)))))) :: (a5, .inr (1, [.ref a12, .ref a13])) :: (a12, .inl (y 3, 2, .inr (.inr (.inr (.inr (gRf gb9 q1.2.2.1)))))) :: (a13, .inl (y 2, 2, .inl q1.2.2.2)) :: gTail y ga8 gb9 hq q1.2.2.1) H := hP
    have hD : va_D A ((a0, .inr (4, [.ref a1, .ref a2, .ref a3, .ref a4, .ref a5])) :: (a1, .inr (3, [.ref a6, .int tn])) :: (a6, .inl (y 1, 120, .inl tf)) :: (a2, soF a7 a8 r) :: (a7, soV y r) :: (a8, soW y r) :: (a3, soF a9 a10 rc) :: (a9, soV y rc) :: (a10, soW y rc) :: (a4, .inr (0, [.ref a11, .int qz, .int qn])) :: (a11, .inl (y 3, 14, .inr (.inr (.inr (.inr (gRf ga8 hq)))))) :: (a5, .inr (1, [.ref a12, .ref a13])) :: (a12, .inl (y 3, 2, .inr (.inr (.inr (.inr (gRf gb9 q1.2.2.1)))))) :: (a13, .inl (y 2, 2, .inl q1.2.2.2)) :: gTail y ga8 gb9 hq q1.2.2.1) := hD
    obtain ⟨T10, hT10⟩ : ∃ T : va_W, gTail y ga8 gb9 hq q1.2.2.1 = T := ⟨_, rfl⟩
    rw [hT10] at hP hD
    rcases xc_E h4.2 with rfl | rfl | rfl
    · rw [xc_IA] at h4q
      have hc := cd_X5_save tn tf r rc qz qn hq lq lfl p1
      rw [eq1, h4q] at hc
      exact absurd hc (by decide)
    · rw [xc_IS] at h4q
      have hc := cd_X5_save tn tf r rc qz qn hq lq lfl p1
      rw [eq1, h4q] at hc
      exact absurd hc (by decide)
    · rw [xc_IO] at h4q
      have hF := hF.trans (if_neg (show ¬ q1.1 = 0 by rw [h4q]; decide))
      refine vx_catch hown (tableOf []) ⟨0, 5, 6, 37⟩ (tableOf []) (htab.trans rfl) (fun z hz => nomatch hz) (by decide) (by decide) w_0 (hXE.1.1.2.2.use rfl) h4a h4b h4c ?_
      refine W.eq (g2 := F0 m 6 ls [.ref a97]) rfl ?_
      refine lv_astore_n (lv' := [(2, .ref a97), (0, .ref a0), (1, .int p1)]) hx hb dL_tryKeep_6 rfl hl (by decide) rfl (fun ls hl => ?_)
      refine lv_ldc (v := (-9999001)) hx hb hown w_1 dL_tryKeep_7 ?_
      refine W.widen (k := 4) (n := 86) (Nat.le_of_ble_eq_true rfl) (Nat.le_of_ble_eq_true rfl) ?_
      refine vx_ret ?_
      rw [← hT10] at hP hD
      exact W.iret (v := (-9999001)) hx hb hr (fun t ht hW => ⟨⟨(-9999001), ⟨q1.2.2.1, q1.2.2.2⟩, rfl, hF, ⟨ga8, gb9, by rw [ht]; exact hP, hD⟩⟩, hS.F ht⟩) hS.2.2 dL_tryKeep_9
  · have h4q : q1.1 = 0 := by rw [← eq1, h4]
    obtain ⟨rfl, rfl⟩ : q1.2.1 = v2 ∧ q1.2.2 = u3 := ⟨by rw [← eq1, h4], by rw [← eq1, h4]⟩
    have hP : va_P D vwCl ((a0, .inr (4, [.ref a1, .ref a2, .ref a3, .ref a4, .ref a5])) :: (a1, .inr (3, [.ref a6, .int tn])) :: (a6, .inl (y 1, 120, .inl tf)) :: (a2, soF a7 a8 r) :: (a7, soV y r) :: (a8, soW y r) :: (a3, soF a9 a10 rc) :: (a9, soV y rc) :: (a10, soW y rc) :: (a4, .inr (0, [.ref a11, .int qz, .int qn])) :: (a11, .inl (y 3, 14, .inr (.inr (.inr (.inr (gRf ga8 hq)))))) :: (a5, .inr (1, [.ref a12, .ref a13])) :: (a12, .inl (y 3, 2, .inr (.inr (.inr (.inr (gRf gb9 q1.2.2.1)))))) :: (a13, .inl (y 2, 2, .inl q1.2.2.2)) :: gTail y ga8 gb9 hq q1.2.2.1) H := hP
    have hD : va_D A ((a0, .inr (4, [.ref a1, .ref a2, .ref a3, .ref a4, .ref a5])) :: (a1, .inr (3, [.ref a6, .int tn])) :: (a6, .inl (y 1, 120, .inl tf)) :: (a2, soF a7 a8 r) :: (a7, soV y r) :: (a8, soW y r) :: (a3, soF a9 a10 rc) :: (a9, soV y rc) :: (a10, soW y rc) :: (a4, .inr (0, [.ref a11, .int qz, .int qn])) :: (a11, .inl (y 3, 14, .inr (.inr (.inr (.inr (gRf ga8 hq)))))) :: (a5, .inr (1, [.ref a12, .ref a13])) :: (a12, .inl (y 3, 2, .inr (.inr (.inr (.inr (gRf gb9 q1.2.2.1)))))) :: (a13, .inl (y 2, 2, .inl q1.2.2.2)) :: gTail y ga8 gb9 hq q1.2.2.1) := hD
    obtain ⟨T11, hT11⟩ : ∃ T : va_W, gTail y ga8 gb9 hq q1.2.2.1 = T := ⟨_, rfl⟩
    rw [hT11] at hP hD
    have hF := hF.trans (if_pos h4q)
    refine W.widen (k := 4) (n := 86) (Nat.le_of_ble_eq_true rfl) (Nat.le_of_ble_eq_true rfl) ?_
    refine vx_ret ?_
    rw [← hT11] at hP hD
    exact W.iret (v := q1.2.1) hx hb hr (fun t ht hW => ⟨⟨q1.2.1, ⟨q1.2.2.1, q1.2.2.2⟩, rfl, hF, ⟨ga8, gb9, by rw [ht]; exact hP, hD⟩⟩, hS.F ht⟩) hS.2.2 dL_tryKeep_5

def f_L_tryBack (tn : Int32) (tf : Nat → Int32) (r : gR) (rc : gR) (qz : Int32) (qn : Int32) (hq : Nat → Option gR) (lq : Nat → Option gR) (lfl : Nat → Int32) (p1 : Int32) : Int32 × gR × Int32 :=
    gLet (f_X5_restore tn tf r rc qz qn hq lq lfl p1) (fun (q1 : Nat × Int32 × gR × Int32) =>
    if q1.1 = 0 then
      (q1.2.1, q1.2.2.1, q1.2.2.2)
    else
      if q1.1 = 3 then
        ((-9999001), q1.2.2.1, q1.2.2.2)
      else
        ((-9999003), q1.2.2.1, q1.2.2.2))
theorem f_L_tryBack_s (tn : Int32) (tf : Nat → Int32) (r : gR) (rc : gR) (qz : Int32) (qn : Int32) (hq : Nat → Option gR) (lq : Nat → Option gR) (lfl : Nat → Int32) (p1 : Int32) : f_L_tryBack tn tf r rc qz qn hq lq lfl p1 =
    (gLet (f_X5_restore tn tf r rc qz qn hq lq lfl p1) (fun (q1 : Nat × Int32 × gR × Int32) =>
    if q1.1 = 0 then
      (q1.2.1, q1.2.2.1, q1.2.2.2)
    else
      if q1.1 = 3 then
        ((-9999001), q1.2.2.1, q1.2.2.2)
      else
        ((-9999003), q1.2.2.1, q1.2.2.2))) := rfl
theorem hd_L_tryBack : yL_tryBack.cls ≠ "java/lang/invoke/MethodHandle" ∧ yL_tryBack.cls ≠ "java/lang/invoke/VarHandle" ∧ (parseMethodDescriptor yL_tryBack.desc).map (fun d => d.parameters.length) = some 2 := by decide +kernel
set_option maxHeartbeats 4000000 in
set_option maxRecDepth 100000 in
theorem c_L_tryBack (l : Launch) (hst : l.stackTraces = false) (D : va_G) (y : Nat → ClassId) (a0 a1 a2 a3 a4 a5 a6 a7 a8 a9 a10 a11 a12 a13 : Nat) (ga gb : Nat → Nat × Nat × Nat) (zh : Nat) (tn : Int32) (tf : Nat → Int32) (r : gR) (rc : gR) (qz : Int32) (qn : Int32) (hq : Nat → Option gR) (lq : Nat → Option gR) (lfl : Nat → Int32) (p1 : Int32) (hoq : okQ lq) : Met l yL_tryBack wsL_tryBack ({ frames := 8, cells := 2, slots := 12, locals := 123 }) (lP D y [.ref a0, .int p1] zh ((a0, .inr (4, [.ref a1, .ref a2, .ref a3, .ref a4, .ref a5])) :: (a1, .inr (3, [.ref a6, .int tn])) :: (a6, .inl (y 1, 120, .inl tf)) :: (a2, soF a7 a8 r) :: (a7, soV y r) :: (a8, soW y r) :: (a3, soF a9 a10 rc) :: (a9, soV y rc) :: (a10, soW y rc) :: (a4, .inr (0, [.ref a11, .int qz, .int qn])) :: (a11, .inl (y 3, 14, .inr (.inr (.inr (.inr (gRf ga hq)))))) :: (a5, .inr (1, [.ref a12, .ref a13])) :: (a12, .inl (y 3, 2, .inr (.inr (.inr (.inr (gRf gb lq)))))) :: (a13, .inl (y 2, 2, .inl lfl)) :: gTail y ga gb hq lq)) (va_Qi (fun (v : Int32) (u : gR × Int32) => f_L_tryBack tn tf r rc qz qn hq lq lfl p1 = (v, u)) (fun (u : gR × Int32) t => ∃ (g1 g2 : Nat → Nat × Nat × Nat), va_P D vwCl ((a0, .inr (4, [.ref a1, .ref a2, .ref a3, .ref a4, .ref a5])) :: (a1, .inr (3, [.ref a6, .int tn])) :: (a6, .inl (y 1, 120, .inl tf)) :: (a2, soF a7 a8 u.1) :: (a7, soV y u.1) :: (a8, soW y u.1) :: (a3, soF a9 a10 rc) :: (a9, soV y rc) :: (a10, soW y rc) :: (a4, .inr (0, [.ref a11, .int u.2, .int qn])) :: (a11, .inl (y 3, 14, .inr (.inr (.inr (.inr (gRf g1 hq)))))) :: (a5, .inr (1, [.ref a12, .ref a13])) :: (a12, .inl (y 3, 2, .inr (.inr (.inr (.inr (gRf g2 lq)))))) :: (a13, .inl (y 2, 2, .inl lfl)) :: gTail y g1 g2 hq lq) t.heap ∧ va_D (va_A ((a0, .inr (4, [.ref a1, .ref a2, .ref a3, .ref a4, .ref a5])) :: (a1, .inr (3, [.ref a6, .int tn])) :: (a6, .inl (y 1, 120, .inl tf)) :: (a2, soF a7 a8 r) :: (a7, soV y r) :: (a8, soW y r) :: (a3, soF a9 a10 rc) :: (a9, soV y rc) :: (a10, soW y rc) :: (a4, .inr (0, [.ref a11, .int qz, .int qn])) :: (a11, .inl (y 3, 14, .inr (.inr (.inr (.inr (gRf ga hq)))))) :: (a5, .inr (1, [.ref a12, .ref a13])) :: (a12, .inl (y 3, 2, .inr (.inr (.inr (.inr (gRf gb lq)))))) :: (a13, .inl (y 2, 2, .inl lfl)) :: gTail y ga gb hq lq) zh) ((a0, .inr (4, [.ref a1, .ref a2, .ref a3, .ref a4, .ref a5])) :: (a1, .inr (3, [.ref a6, .int tn])) :: (a6, .inl (y 1, 120, .inl tf)) :: (a2, soF a7 a8 u.1) :: (a7, soV y u.1) :: (a8, soW y u.1) :: (a3, soF a9 a10 rc) :: (a9, soV y rc) :: (a10, soW y rc) :: (a4, .inr (0, [.ref a11, .int u.2, .int qn])) :: (a11, .inl (y 3, 14, .inr (.inr (.inr (.inr (gRf g1 hq)))))) :: (a5, .inr (1, [.ref a12, .ref a13])) :: (a12, .inl (y 3, 2, .inr (.inr (.inr (.inr (gRf g2 lq)))))) :: (a13, .inl (y 2, 2, .inl lfl)) :: gTail y g1 g2 hq lq)) (va_A ((a0, .inr (4, [.ref a1, .ref a2, .ref a3, .ref a4, .ref a5])) :: (a1, .inr (3, [.ref a6, .int tn])) :: (a6, .inl (y 1, 120, .inl tf)) :: (a2, soF a7 a8 r) :: (a7, soV y r) :: (a8, soW y r) :: (a3, soF a9 a10 rc) :: (a9, soV y rc) :: (a10, soW y rc) :: (a4, .inr (0, [.ref a11, .int qz, .int qn])) :: (a11, .inl (y 3, 14, .inr (.inr (.inr (.inr (gRf ga hq)))))) :: (a5, .inr (1, [.ref a12, .ref a13])) :: (a12, .inl (y 3, 2, .inr (.inr (.inr (.inr (gRf gb lq)))))) :: (a13, .inl (y 2, 2, .inl lfl)) :: gTail y ga gb hq lq) zh)) 2 12 (va_A ((a0, .inr (4, [.ref a1, .ref a2, .ref a3, .ref a4, .ref a5])) :: (a1, .inr (3, [.ref a6, .int tn])) :: (a6, .inl (y 1, 120, .inl tf)) :: (a2, soF a7 a8 r) :: (a7, soV y r) :: (a8, soW y r) :: (a3, soF a9 a10 rc) :: (a9, soV y rc) :: (a10, soW y rc) :: (a4, .inr (0, [.ref a11, .int qz, .int qn])) :: (a11, .inl (y 3, 14, .inr (.inr (.inr (.inr (gRf ga hq)))))) :: (a5, .inr (1, [.ref a12, .ref a13])) :: (a12, .inl (y 3, 2, .inr (.inr (.inr (.inr (gRf gb lq)))))) :: (a13, .inl (y 2, 2, .inl lfl)) :: gTail y ga gb hq lq) zh) := by
  refine xL_of (vx_ofWH (cc := cL_tryBack) (maxL := 3) (ret := (some .int)) (hh := [(0, 5, 6, 37), (0, 5, 10, 24)]) (by decide) rfl ?_)
  intro p e s m args below meth c s₁ B hml hv
  obtain ⟨⟨⟨rfl, hsz, hP, hE, hD⟩, hXE, hXZ⟩, hLN⟩ := hv
  have hx := B.exec
  have hb := B.bytes
  have hr := B.returns
  have hts := atoms_spec (ws := wsL_tryBack) B.pre
  have hown : s.vm.findClass RL = some m.cls := findClass_of_methodNamed B.named
  have hlocks := B.notSynchronized
  have htab := vx_table (x := yL_tryBack) B (hts _ List.mem_cons_self)
  have w_0 := hts (.classLink RL 37 "java/lang/IndexOutOfBoundsException") (List.mem_cons_of_mem _ (List.mem_append_left _ (List.mem_append_left _ (List.mem_append_left _ (List.mem_append_left _ (List.mem_append_left _ (List.mem_append_left _ (List.mem_append_left _ (List.mem_of_getElem? (i := 0) rfl)))))))))
  have w_1 := hts (.classLink RL 24 "java/lang/IllegalStateException") (List.mem_cons_of_mem _ (List.mem_append_left _ (List.mem_append_left _ (List.mem_append_left _ (List.mem_append_left _ (List.mem_append_left _ (List.mem_append_left _ (List.mem_append_left _ (List.mem_of_getElem? (i := 1) rfl)))))))))
  have w_2 := hts (.constant RL 26 (-9999003)) (List.mem_cons_of_mem _ (List.mem_append_left _ (List.mem_append_left _ (List.mem_append_left _ (List.mem_append_left _ (List.mem_append_left _ (List.mem_append_left _ (List.mem_append_left _ (List.mem_of_getElem? (i := 3) rfl)))))))))
  have w_3 := hts (.constant RL 39 (-9999001)) (List.mem_cons_of_mem _ (List.mem_append_left _ (List.mem_append_left _ (List.mem_append_left _ (List.mem_append_left _ (List.mem_append_left _ (List.mem_append_left _ (List.mem_append_left _ (List.mem_of_getElem? (i := 2) rfl)))))))))
  subst hsz
  have hD := hD.self (sz := s.heap.size)
  generalize hAe : va_A ((a0, .inr (4, [.ref a1, .ref a2, .ref a3, .ref a4, .ref a5])) :: (a1, .inr (3, [.ref a6, .int tn])) :: (a6, .inl (y 1, 120, .inl tf)) :: (a2, soF a7 a8 r) :: (a7, soV y r) :: (a8, soW y r) :: (a3, soF a9 a10 rc) :: (a9, soV y rc) :: (a10, soW y rc) :: (a4, .inr (0, [.ref a11, .int qz, .int qn])) :: (a11, .inl (y 3, 14, .inr (.inr (.inr (.inr (gRf ga hq)))))) :: (a5, .inr (1, [.ref a12, .ref a13])) :: (a12, .inl (y 3, 2, .inr (.inr (.inr (.inr (gRf gb lq)))))) :: (a13, .inl (y 2, 2, .inl lfl)) :: gTail y ga gb hq lq) s.heap.size = A at hD hXZ ⊢
  have hA : ∀ q : Nat, s.heap.size ≤ q → A q := fun q h => by rw [← hAe]; exact Or.inr h
  have hS : va_S A s.heap s.heap [] := va_S.rf
  have hl := lv_entry ([.ref a0, .int p1]) (n := 3) (Nat.le_of_ble_eq_true rfl)
  rw [lg_entry_eq]
  generalize (lg_sl ([.ref a0, .int p1]) ++ List.replicate (3 - (lg_sl ([.ref a0, .int p1])).length) Slot.unset).toArray = ls at hl ⊢
  have hl : lv_has ls 3 [(0, .ref a0), (1, .int p1)] := hl
  have hF := f_L_tryBack_s tn tf r rc qz qn hq lq lfl p1
  obtain ⟨T, hT⟩ : ∃ T : va_W, gTail y ga gb hq lq = T := ⟨_, rfl⟩
  rw [hT] at hP hD
  refine lv_aload_n hx hb dL_tryBack_0 rfl (lv_at hl 0 rfl) ?_
  refine lv_iload_n hx hb dL_tryBack_1 rfl (lv_at hl 1 rfl) ?_
  rw [← hT] at hP hD
  obtain ⟨q1, eq1⟩ : ∃ z : Nat × Int32 × gR × Int32, f_X5_restore tn tf r rc qz qn hq lq lfl p1 = z := ⟨_, rfl⟩
  have hF := hF.trans (gLet_e eq1)
  refine xq_callEi (ex := ([] : va_W)) (vx_runV (As := [.int p1]) (rest := []) ⟨hx, hb, hml, hown, hts⟩ (c_X5_restore l hst D y a0 a1 a2 a3 a4 a5 a6 a7 a8 a9 a10 a11 a12 a13 ga gb s.heap.size tn tf r rc qz qn hq lq lfl p1 hoq) (cwV 1 hts gL_tryBack_X5_restore rfl rfl rfl hd_X5_restore ⟨Nat.le_of_ble_eq_true rfl, Nat.le_of_ble_eq_true rfl⟩) (xV (q := (RX5, TX5, 5)) hE hXE hXZ hS hA hP hD 0 rfl rfl) rfl rfl hl.1 rfl (lv_room (Nat.le_of_ble_eq_true rfl)) dL_tryBack_2 ⟨Nat.le_of_ble_eq_true rfl, Nat.le_of_ble_eq_true rfl⟩) hP hD hS hA (fun E5 ce6 a97 u3 ga8 gb9 H locs h4 hP hD hS h4a h4b h4c => ?_) (fun v2 u3 ga8 gb9 H locs h4 hP hD hS => ?_)
  · have h4q : q1.1 = xc E5 := by rw [← eq1, h4.1]
    obtain rfl : q1.2.2 = u3 := by rw [← eq1, h4.1]
    have hP : va_P D vwCl ((a0, .inr (4, [.ref a1, .ref a2, .ref a3, .ref a4, .ref a5])) :: (a1, .inr (3, [.ref a6, .int tn])) :: (a6, .inl (y 1, 120, .inl tf)) :: (a2, soF a7 a8 q1.2.2.1) :: (a7, soV y q1.2.2.1) :: (a8, soW y q1.2.2.1) :: (a3, soF a9 a10 rc) :: (a9, soV y rc) :: (a10, soW y rc) :: (a4, .inr (0, [.ref a11, .int q1.2.2.2, .int qn])) :: (a11, .inl (y 3, 14, .inr (.inr (.inr (.inr (gRf ga8 hq)))))) :: (a5, .inr (1, [.ref a12, .ref a13])) :: (a12, .inl (y 3, 2, .inr (.inr (.inr (.inr (gRf gb9 lq)))))) :: (a13, .inl (y 2, 2, .inl lfl)) :: gTail y ga8 gb9 hq lq) H := hP
    have hD : va_D A ((a0, .inr (4, [.ref a1, .ref a2, .ref a3, .ref a4, .ref a5])) :: (a1, .inr (3, [.ref a6, .int tn])) :: (a6, .inl (y 1, 120, .inl tf)) :: (a2, soF a7 a8 q1.2.2.1) :: (a7, soV y q1.2.2.1) :: (a8, soW y q1.2.2.1) :: (a3, soF a9 a10 rc) :: (a9, soV y rc) :: (a10, soW y rc) :: (a4, .inr (0, [.ref a11, .int q1.2.2.2, .int qn])) :: (a11, .inl (y 3, 14, .inr (.inr (.inr (.inr (gRf ga8 hq)))))) :: (a5, .inr (1, [.ref a12, .ref a13])) :: (a12, .inl (y 3, 2, .inr (.inr (.inr (.inr (gRf gb9 lq)))))) :: (a13, .inl (y 2, 2, .inl lfl)) :: gTail y ga8 gb9 hq lq) := hD
    obtain ⟨T10, hT10⟩ : ∃ T : va_W, gTail y ga8 gb9 hq lq = T := ⟨_, rfl⟩
    rw [hT10] at hP hD
    rcases xc_E h4.2 with rfl | rfl | rfl
    · rw [xc_IA] at h4q
      have hc := cd_X5_restore tn tf r rc qz qn hq lq lfl p1
      rw [eq1, h4q] at hc
      exact absurd hc (by decide)
    · rw [xc_IS] at h4q
      have hF := hF.trans (if_neg (show ¬ q1.1 = 0 by rw [h4q]; decide))
      have hF := hF.trans (if_neg (show ¬ q1.1 = 3 by rw [h4q]; decide))
      refine vx_catch hown (tableOf [(0, 5, 6, 37)]) ⟨0, 5, 10, 24⟩ (tableOf []) (htab.trans rfl) (fun z hz => by simp only [tableOf, List.map_cons, List.map_nil, List.mem_cons, List.not_mem_nil, or_false] at hz; rcases hz with rfl; exact Or.inr ⟨by decide, _, w_0, hLN.2.1.2⟩) (by decide) (by decide) w_1 (hXE.1.1.2.1.use rfl) h4a h4b h4c ?_
      refine W.eq (g2 := F0 m 10 ls [.ref a97]) rfl ?_
      refine lv_astore_n (lv' := [(2, .ref a97), (0, .ref a0), (1, .int p1)]) hx hb dL_tryBack_10 rfl hl (by decide) rfl (fun ls hl => ?_)
      refine lv_ldc (v := (-9999003)) hx hb hown w_2 dL_tryBack_11 ?_
      refine W.widen (k := 2) (n := 12) (Nat.le_of_ble_eq_true rfl) (Nat.le_of_ble_eq_true rfl) ?_
      refine vx_ret ?_
      rw [← hT10] at hP hD
      exact W.iret (v := (-9999003)) hx hb hr (fun t ht hW => ⟨⟨(-9999003), ⟨q1.2.2.1, q1.2.2.2⟩, rfl, hF, ⟨ga8, gb9, by rw [ht]; exact hP, hD⟩⟩, hS.F ht⟩) hS.2.2 dL_tryBack_13
    · rw [xc_IO] at h4q
      have hF := hF.trans (if_neg (show ¬ q1.1 = 0 by rw [h4q]; decide))
      have hF := hF.trans (if_pos h4q)
      refine vx_catch hown (tableOf []) ⟨0, 5, 6, 37⟩ (tableOf [(0, 5, 10, 24)]) (htab.trans rfl) (fun z hz => nomatch hz) (by decide) (by decide) w_0 (hXE.1.1.2.2.use rfl) h4a h4b h4c ?_
      refine W.eq (g2 := F0 m 6 ls [.ref a97]) rfl ?_
      refine lv_astore_n (lv' := [(2, .ref a97), (0, .ref a0), (1, .int p1)]) hx hb dL_tryBack_6 rfl hl (by decide) rfl (fun ls hl => ?_)
      refine lv_ldc (v := (-9999001)) hx hb hown w_3 dL_tryBack_7 ?_
      refine W.widen (k := 2) (n := 12) (Nat.le_of_ble_eq_true rfl) (Nat.le_of_ble_eq_true rfl) ?_
      refine vx_ret ?_
      rw [← hT10] at hP hD
      exact W.iret (v := (-9999001)) hx hb hr (fun t ht hW => ⟨⟨(-9999001), ⟨q1.2.2.1, q1.2.2.2⟩, rfl, hF, ⟨ga8, gb9, by rw [ht]; exact hP, hD⟩⟩, hS.F ht⟩) hS.2.2 dL_tryBack_9
  · have h4q : q1.1 = 0 := by rw [← eq1, h4]
    obtain ⟨rfl, rfl⟩ : q1.2.1 = v2 ∧ q1.2.2 = u3 := ⟨by rw [← eq1, h4], by rw [← eq1, h4]⟩
    have hP : va_P D vwCl ((a0, .inr (4, [.ref a1, .ref a2, .ref a3, .ref a4, .ref a5])) :: (a1, .inr (3, [.ref a6, .int tn])) :: (a6, .inl (y 1, 120, .inl tf)) :: (a2, soF a7 a8 q1.2.2.1) :: (a7, soV y q1.2.2.1) :: (a8, soW y q1.2.2.1) :: (a3, soF a9 a10 rc) :: (a9, soV y rc) :: (a10, soW y rc) :: (a4, .inr (0, [.ref a11, .int q1.2.2.2, .int qn])) :: (a11, .inl (y 3, 14, .inr (.inr (.inr (.inr (gRf ga8 hq)))))) :: (a5, .inr (1, [.ref a12, .ref a13])) :: (a12, .inl (y 3, 2, .inr (.inr (.inr (.inr (gRf gb9 lq)))))) :: (a13, .inl (y 2, 2, .inl lfl)) :: gTail y ga8 gb9 hq lq) H := hP
    have hD : va_D A ((a0, .inr (4, [.ref a1, .ref a2, .ref a3, .ref a4, .ref a5])) :: (a1, .inr (3, [.ref a6, .int tn])) :: (a6, .inl (y 1, 120, .inl tf)) :: (a2, soF a7 a8 q1.2.2.1) :: (a7, soV y q1.2.2.1) :: (a8, soW y q1.2.2.1) :: (a3, soF a9 a10 rc) :: (a9, soV y rc) :: (a10, soW y rc) :: (a4, .inr (0, [.ref a11, .int q1.2.2.2, .int qn])) :: (a11, .inl (y 3, 14, .inr (.inr (.inr (.inr (gRf ga8 hq)))))) :: (a5, .inr (1, [.ref a12, .ref a13])) :: (a12, .inl (y 3, 2, .inr (.inr (.inr (.inr (gRf gb9 lq)))))) :: (a13, .inl (y 2, 2, .inl lfl)) :: gTail y ga8 gb9 hq lq) := hD
    obtain ⟨T11, hT11⟩ : ∃ T : va_W, gTail y ga8 gb9 hq lq = T := ⟨_, rfl⟩
    rw [hT11] at hP hD
    have hF := hF.trans (if_pos h4q)
    refine W.widen (k := 2) (n := 12) (Nat.le_of_ble_eq_true rfl) (Nat.le_of_ble_eq_true rfl) ?_
    refine vx_ret ?_
    rw [← hT11] at hP hD
    exact W.iret (v := q1.2.1) hx hb hr (fun t ht hW => ⟨⟨q1.2.1, ⟨q1.2.2.1, q1.2.2.2⟩, rfl, hF, ⟨ga8, gb9, by rw [ht]; exact hP, hD⟩⟩, hS.F ht⟩) hS.2.2 dL_tryBack_5
