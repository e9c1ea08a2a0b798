/-! THE LAW'S OWN METHODS, 2 -/

def f_L_tryMake (tn : Int32) (tf : Nat → Int32) (r : gR) (rc : gR) (qz : Int32) (qn : Int32) (hq : Nat → Option gR) (lq : Nat → Option gR) (lfl : Nat → Int32) (p1 : Int32) (p2 : Int32) (p3 : Int32) : Int32 × gR × (Nat → Option gR) × Int32 × Int32 :=
    gLet (f_X5_make tn tf r rc qz qn hq lq lfl p1 p2 p3) (fun (q1 : Nat × Int32 × gR × (Nat → Option gR) × Int32 × Int32) =>
    if q1.1 = 0 then
      (q1.2.1, q1.2.2.1, q1.2.2.2.1, q1.2.2.2.2.1, q1.2.2.2.2.2)
    else
      ((-9999002), q1.2.2.1, q1.2.2.2.1, q1.2.2.2.2.1, q1.2.2.2.2.2))
theorem f_L_tryMake_s (tn : Int32) (tf : Nat → Int32) (r : gR) (rc : gR) (qz : Int32) (qn : Int32) (hq : Nat → Option gR) (lq : Nat → Option gR) (lfl : Nat → Int32) (p1 : Int32) (p2 : Int32) (p3 : Int32) : f_L_tryMake tn tf r rc qz qn hq lq lfl p1 p2 p3 =
    (gLet (f_X5_make tn tf r rc qz qn hq lq lfl p1 p2 p3) (fun (q1 : Nat × Int32 × gR × (Nat → Option gR) × Int32 × Int32) =>
    if q1.1 = 0 then
      (q1.2.1, q1.2.2.1, q1.2.2.2.1, q1.2.2.2.2.1, q1.2.2.2.2.2)
    else
      ((-9999002), q1.2.2.1, q1.2.2.2.1, q1.2.2.2.2.1, q1.2.2.2.2.2))) := rfl
theorem hd_L_tryMake : yL_tryMake.cls ≠ "java/lang/invoke/MethodHandle" ∧ yL_tryMake.cls ≠ "java/lang/invoke/VarHandle" ∧ (parseMethodDescriptor yL_tryMake.desc).map (fun d => d.parameters.length) = some 4 := by decide +kernel
set_option maxHeartbeats 4000000 in
set_option maxRecDepth 100000 in
theorem c_L_tryMake (l : Launch) (hst : l.stackTraces = false) (D : va_G) (y : Nat → ClassId) (a0 a1 a2 a3 a4 a5 a6 a7 a8 a9 a10 a11 a12 a13 : Nat) (ga gb : Nat → Nat × Nat × Nat) (zh : Nat) (tn : Int32) (tf : Nat → Int32) (r : gR) (rc : gR) (qz : Int32) (qn : Int32) (hq : Nat → Option gR) (lq : Nat → Option gR) (lfl : Nat → Int32) (p1 : Int32) (p2 : Int32) (p3 : Int32) (hh : 0 ≤ qn.toInt ∧ qn.toInt < (14 : Nat)) (ho : okC r) : Met l yL_tryMake wsL_tryMake ({ frames := 7, cells := 3, slots := 80, locals := 105 }) (lP D y [.ref a0, .int p1, .int p2, .int p3] zh ((a0, .inr (4, [.ref a1, .ref a2, .ref a3, .ref a4, .ref a5])) :: (a1, .inr (3, [.ref a6, .int tn])) :: (a6, .inl (y 1, 120, .inl tf)) :: (a2, soF a7 a8 r) :: (a7, soV y r) :: (a8, soW y r) :: (a3, soF a9 a10 rc) :: (a9, soV y rc) :: (a10, soW y rc) :: (a4, .inr (0, [.ref a11, .int qz, .int qn])) :: (a11, .inl (y 3, 14, .inr (.inr (.inr (.inr (gRf ga hq)))))) :: (a5, .inr (1, [.ref a12, .ref a13])) :: (a12, .inl (y 3, 2, .inr (.inr (.inr (.inr (gRf gb lq)))))) :: (a13, .inl (y 2, 2, .inl lfl)) :: gTail y ga gb hq lq)) (va_Qi (fun (v : Int32) (u : gR × (Nat → Option gR) × Int32 × Int32) => f_L_tryMake tn tf r rc qz qn hq lq lfl p1 p2 p3 = (v, u)) (fun (u : gR × (Nat → Option gR) × Int32 × Int32) t => ∃ (g1 g2 : Nat → Nat × Nat × Nat), va_P D vwCl ((a0, .inr (4, [.ref a1, .ref a2, .ref a3, .ref a4, .ref a5])) :: (a1, .inr (3, [.ref a6, .int tn])) :: (a6, .inl (y 1, 120, .inl tf)) :: (a2, soF a7 a8 u.1) :: (a7, soV y u.1) :: (a8, soW y u.1) :: (a3, soF a9 a10 rc) :: (a9, soV y rc) :: (a10, soW y rc) :: (a4, .inr (0, [.ref a11, .int u.2.2.1, .int u.2.2.2])) :: (a11, .inl (y 3, 14, .inr (.inr (.inr (.inr (gRf g1 u.2.1)))))) :: (a5, .inr (1, [.ref a12, .ref a13])) :: (a12, .inl (y 3, 2, .inr (.inr (.inr (.inr (gRf g2 lq)))))) :: (a13, .inl (y 2, 2, .inl lfl)) :: gTail y g1 g2 u.2.1 lq) t.heap ∧ va_D (va_A ((a0, .inr (4, [.ref a1, .ref a2, .ref a3, .ref a4, .ref a5])) :: (a1, .inr (3, [.ref a6, .int tn])) :: (a6, .inl (y 1, 120, .inl tf)) :: (a2, soF a7 a8 r) :: (a7, soV y r) :: (a8, soW y r) :: (a3, soF a9 a10 rc) :: (a9, soV y rc) :: (a10, soW y rc) :: (a4, .inr (0, [.ref a11, .int qz, .int qn])) :: (a11, .inl (y 3, 14, .inr (.inr (.inr (.inr (gRf ga hq)))))) :: (a5, .inr (1, [.ref a12, .ref a13])) :: (a12, .inl (y 3, 2, .inr (.inr (.inr (.inr (gRf gb lq)))))) :: (a13, .inl (y 2, 2, .inl lfl)) :: gTail y ga gb hq lq) zh) ((a0, .inr (4, [.ref a1, .ref a2, .ref a3, .ref a4, .ref a5])) :: (a1, .inr (3, [.ref a6, .int tn])) :: (a6, .inl (y 1, 120, .inl tf)) :: (a2, soF a7 a8 u.1) :: (a7, soV y u.1) :: (a8, soW y u.1) :: (a3, soF a9 a10 rc) :: (a9, soV y rc) :: (a10, soW y rc) :: (a4, .inr (0, [.ref a11, .int u.2.2.1, .int u.2.2.2])) :: (a11, .inl (y 3, 14, .inr (.inr (.inr (.inr (gRf g1 u.2.1)))))) :: (a5, .inr (1, [.ref a12, .ref a13])) :: (a12, .inl (y 3, 2, .inr (.inr (.inr (.inr (gRf g2 lq)))))) :: (a13, .inl (y 2, 2, .inl lfl)) :: gTail y g1 g2 u.2.1 lq)) (va_A ((a0, .inr (4, [.ref a1, .ref a2, .ref a3, .ref a4, .ref a5])) :: (a1, .inr (3, [.ref a6, .int tn])) :: (a6, .inl (y 1, 120, .inl tf)) :: (a2, soF a7 a8 r) :: (a7, soV y r) :: (a8, soW y r) :: (a3, soF a9 a10 rc) :: (a9, soV y rc) :: (a10, soW y rc) :: (a4, .inr (0, [.ref a11, .int qz, .int qn])) :: (a11, .inl (y 3, 14, .inr (.inr (.inr (.inr (gRf ga hq)))))) :: (a5, .inr (1, [.ref a12, .ref a13])) :: (a12, .inl (y 3, 2, .inr (.inr (.inr (.inr (gRf gb lq)))))) :: (a13, .inl (y 2, 2, .inl lfl)) :: gTail y ga gb hq lq) zh)) 3 80 (va_A ((a0, .inr (4, [.ref a1, .ref a2, .ref a3, .ref a4, .ref a5])) :: (a1, .inr (3, [.ref a6, .int tn])) :: (a6, .inl (y 1, 120, .inl tf)) :: (a2, soF a7 a8 r) :: (a7, soV y r) :: (a8, soW y r) :: (a3, soF a9 a10 rc) :: (a9, soV y rc) :: (a10, soW y rc) :: (a4, .inr (0, [.ref a11, .int qz, .int qn])) :: (a11, .inl (y 3, 14, .inr (.inr (.inr (.inr (gRf ga hq)))))) :: (a5, .inr (1, [.ref a12, .ref a13])) :: (a12, .inl (y 3, 2, .inr (.inr (.inr (.inr (gRf gb lq)))))) :: (a13, .inl (y 2, 2, .inl lfl)) :: gTail y ga gb hq lq) zh) := by
  refine xL_of (vx_ofWH (cc := cL_tryMake) (maxL := 5) (ret := (some .int)) (hh := [(0, 7, 8, 13)]) (by decide) rfl ?_)
  intro p e s m args below meth c s₁ B hml hv
  obtain ⟨⟨⟨rfl, hsz, hP, hE, hD⟩, hXE, hXZ⟩, hLN⟩ := hv
  have hx := B.exec
  have hb := B.bytes
  have hr := B.returns
  have hts := atoms_spec (ws := wsL_tryMake) B.pre
  have hown : s.vm.findClass RL = some m.cls := findClass_of_methodNamed B.named
  have hlocks := B.notSynchronized
  have htab := vx_table (x := yL_tryMake) B (hts _ List.mem_cons_self)
  have w_0 := hts (.classLink RL 13 "java/lang/IllegalArgumentException") (List.mem_cons_of_mem _ (List.mem_append_left _ (List.mem_append_left _ (List.mem_append_left _ (List.mem_append_left _ (List.mem_append_left _ (List.mem_of_getElem? (i := 0) rfl)))))))
  have w_1 := hts (.constant RL 15 (-9999002)) (List.mem_cons_of_mem _ (List.mem_append_left _ (List.mem_append_left _ (List.mem_append_left _ (List.mem_append_left _ (List.mem_append_left _ (List.mem_of_getElem? (i := 1) rfl)))))))
  subst hsz
  have hD := hD.self (sz := s.heap.size)
  generalize hAe : va_A ((a0, .inr (4, [.ref a1, .ref a2, .ref a3, .ref a4, .ref a5])) :: (a1, .inr (3, [.ref a6, .int tn])) :: (a6, .inl (y 1, 120, .inl tf)) :: (a2, soF a7 a8 r) :: (a7, soV y r) :: (a8, soW y r) :: (a3, soF a9 a10 rc) :: (a9, soV y rc) :: (a10, soW y rc) :: (a4, .inr (0, [.ref a11, .int qz, .int qn])) :: (a11, .inl (y 3, 14, .inr (.inr (.inr (.inr (gRf ga hq)))))) :: (a5, .inr (1, [.ref a12, .ref a13])) :: (a12, .inl (y 3, 2, .inr (.inr (.inr (.inr (gRf gb lq)))))) :: (a13, .inl (y 2, 2, .inl lfl)) :: gTail y ga gb hq lq) s.heap.size = A at hD hXZ ⊢
  have hA : ∀ q : Nat, s.heap.size ≤ q → A q := fun q h => by rw [← hAe]; exact Or.inr h
  have hS : va_S A s.heap s.heap [] := va_S.rf
  have hl := lv_entry ([.ref a0, .int p1, .int p2, .int p3]) (n := 5) (Nat.le_of_ble_eq_true rfl)
  rw [lg_entry_eq]
  generalize (lg_sl ([.ref a0, .int p1, .int p2, .int p3]) ++ List.replicate (5 - (lg_sl ([.ref a0, .int p1, .int p2, .int p3])).length) Slot.unset).toArray = ls at hl ⊢
  have hl : lv_has ls 5 [(0, .ref a0), (1, .int p1), (2, .int p2), (3, .int p3)] := hl
  have hF := f_L_tryMake_s tn tf r rc qz qn hq lq lfl p1 p2 p3
  obtain ⟨T, hT⟩ : ∃ T : va_W, gTail y ga gb hq lq = T := ⟨_, rfl⟩
  rw [hT] at hP hD
  refine lv_aload_n hx hb dL_tryMake_0 rfl (lv_at hl 0 rfl) ?_
  refine lv_iload_n hx hb dL_tryMake_1 rfl (lv_at hl 1 rfl) ?_
  refine lv_iload_n hx hb dL_tryMake_2 rfl (lv_at hl 2 rfl) ?_
  refine lv_iload_n hx hb dL_tryMake_3 rfl (lv_at hl 3 rfl) ?_
  rw [← hT] at hP hD
  obtain ⟨q1, eq1⟩ : ∃ z : Nat × Int32 × gR × (Nat → Option gR) × Int32 × Int32, f_X5_make tn tf r rc qz qn hq lq lfl p1 p2 p3 = z := ⟨_, rfl⟩
  have hF := hF.trans (gLet_e eq1)
  refine xq_callEi (ex := ([] : va_W)) (vx_runV (As := [.int p1, .int p2, .int p3]) (rest := []) ⟨hx, hb, hml, hown, hts⟩ (c_X5_make l hst D y a0 a1 a2 a3 a4 a5 a6 a7 a8 a9 a10 a11 a12 a13 ga gb s.heap.size tn tf r rc qz qn hq lq lfl p1 p2 p3 hh ho) (cwV 3 hts gL_tryMake_X5_make rfl rfl rfl hd_X5_make ⟨Nat.le_of_ble_eq_true rfl, Nat.le_of_ble_eq_true rfl⟩) (xV (q := (RX5, TX5, 5)) hE hXE hXZ hS hA hP hD 0 rfl rfl) rfl rfl hl.1 rfl (lv_room (Nat.le_of_ble_eq_true rfl)) dL_tryMake_4 ⟨Nat.le_of_ble_eq_true rfl, Nat.le_of_ble_eq_true rfl⟩) hP hD hS hA (fun E5 ce6 a97 u3 ga8 gb9 H locs h4 hP hD hS h4a h4b h4c => ?_) (fun v2 u3 ga8 gb9 H locs h4 hP hD hS => ?_)
  · have h4q : q1.1 = xc E5 := by rw [← eq1, h4.1]
    obtain rfl : q1.2.2 = u3 := by rw [← eq1, h4.1]
    have hP : va_P D vwCl ((a0, .inr (4, [.ref a1, .ref a2, .ref a3, .ref a4, .ref a5])) :: (a1, .inr (3, [.ref a6, .int tn])) :: (a6, .inl (y 1, 120, .inl tf)) :: (a2, soF a7 a8 q1.2.2.1) :: (a7, soV y q1.2.2.1) :: (a8, soW y q1.2.2.1) :: (a3, soF a9 a10 rc) :: (a9, soV y rc) :: (a10, soW y rc) :: (a4, .inr (0, [.ref a11, .int q1.2.2.2.2.1, .int q1.2.2.2.2.2])) :: (a11, .inl (y 3, 14, .inr (.inr (.inr (.inr (gRf ga8 q1.2.2.2.1)))))) :: (a5, .inr (1, [.ref a12, .ref a13])) :: (a12, .inl (y 3, 2, .inr (.inr (.inr (.inr (gRf gb9 lq)))))) :: (a13, .inl (y 2, 2, .inl lfl)) :: gTail y ga8 gb9 q1.2.2.2.1 lq) H := hP
    have hD : va_D A ((a0, .inr (4, [.ref a1, .ref a2, .ref a3, .ref a4, .ref a5])) :: (a1, .inr (3, [.ref a6, .int tn])) :: (a6, .inl (y 1, 120, .inl tf)) :: (a2, soF a7 a8 q1.2.2.1) :: (a7, soV y q1.2.2.1) :: (a8, soW y q1.2.2.1) :: (a3, soF a9 a10 rc) :: (a9, soV y rc) :: (a10, soW y rc) :: (a4, .inr (0, [.ref a11, .int q1.2.2.2.2.1, .int q1.2.2.2.2.2])) :: (a11, .inl (y 3, 14, .inr (.inr (.inr (.inr (gRf ga8 q1.2.2.2.1)))))) :: (a5, .inr (1, [.ref a12, .ref a13])) :: (a12, .inl (y 3, 2, .inr (.inr (.inr (.inr (gRf gb9 lq)))))) :: (a13, .inl (y 2, 2, .inl lfl)) :: gTail y ga8 gb9 q1.2.2.2.1 lq) := hD
    obtain ⟨T10, hT10⟩ : ∃ T : va_W, gTail y ga8 gb9 q1.2.2.2.1 lq = T := ⟨_, rfl⟩
    rw [hT10] at hP hD
    rcases xc_E h4.2 with rfl | rfl | rfl
    · rw [xc_IA] at h4q
      have hF := hF.trans (if_neg (show ¬ q1.1 = 0 by rw [h4q]; decide))
      refine vx_catch hown (tableOf []) ⟨0, 7, 8, 13⟩ (tableOf []) (htab.trans rfl) (fun z hz => nomatch hz) (by decide) (by decide) w_0 (hXE.1.1.1.use rfl) h4a h4b h4c ?_
      refine W.eq (g2 := F0 m 8 ls [.ref a97]) rfl ?_
      refine lv_astore (lv' := [(4, .ref a97), (0, .ref a0), (1, .int p1), (2, .int p2), (3, .int p3)]) hx hb dL_tryMake_8 hl (by decide) rfl (fun ls hl => ?_)
      refine lv_ldc (v := (-9999002)) hx hb hown w_1 dL_tryMake_10 ?_
      refine W.widen (k := 3) (n := 80) (Nat.le_of_ble_eq_true rfl) (Nat.le_of_ble_eq_true rfl) ?_
      refine vx_ret ?_
      rw [← hT10] at hP hD
      exact W.iret (v := (-9999002)) hx hb hr (fun t ht hW => ⟨⟨(-9999002), ⟨q1.2.2.1, q1.2.2.2.1, q1.2.2.2.2.1, q1.2.2.2.2.2⟩, rfl, hF, ⟨ga8, gb9, by rw [ht]; exact hP, hD⟩⟩, hS.F ht⟩) hS.2.2 dL_tryMake_12
    · rw [xc_IS] at h4q
      have hc := cd_X5_make tn tf r rc qz qn hq lq lfl p1 p2 p3
      rw [eq1, h4q] at hc
      exact absurd hc (by decide)
    · rw [xc_IO] at h4q
      have hc := cd_X5_make tn tf r rc qz qn hq lq lfl p1 p2 p3
      rw [eq1, h4q] at hc
      exact absurd hc (by decide)
  · have h4q : q1.1 = 0 := by rw [← eq1, h4]
    obtain ⟨rfl, rfl⟩ : q1.2.1 = v2 ∧ q1.2.2 = u3 := ⟨by rw [← eq1, h4], by rw [← eq1, h4]⟩
    have hP : va_P D vwCl ((a0, .inr (4, [.ref a1, .ref a2, .ref a3, .ref a4, .ref a5])) :: (a1, .inr (3, [.ref a6, .int tn])) :: (a6, .inl (y 1, 120, .inl tf)) :: (a2, soF a7 a8 q1.2.2.1) :: (a7, soV y q1.2.2.1) :: (a8, soW y q1.2.2.1) :: (a3, soF a9 a10 rc) :: (a9, soV y rc) :: (a10, soW y rc) :: (a4, .inr (0, [.ref a11, .int q1.2.2.2.2.1, .int q1.2.2.2.2.2])) :: (a11, .inl (y 3, 14, .inr (.inr (.inr (.inr (gRf ga8 q1.2.2.2.1)))))) :: (a5, .inr (1, [.ref a12, .ref a13])) :: (a12, .inl (y 3, 2, .inr (.inr (.inr (.inr (gRf gb9 lq)))))) :: (a13, .inl (y 2, 2, .inl lfl)) :: gTail y ga8 gb9 q1.2.2.2.1 lq) H := hP
    have hD : va_D A ((a0, .inr (4, [.ref a1, .ref a2, .ref a3, .ref a4, .ref a5])) :: (a1, .inr (3, [.ref a6, .int tn])) :: (a6, .inl (y 1, 120, .inl tf)) :: (a2, soF a7 a8 q1.2.2.1) :: (a7, soV y q1.2.2.1) :: (a8, soW y q1.2.2.1) :: (a3, soF a9 a10 rc) :: (a9, soV y rc) :: (a10, soW y rc) :: (a4, .inr (0, [.ref a11, .int q1.2.2.2.2.1, .int q1.2.2.2.2.2])) :: (a11, .inl (y 3, 14, .inr (.inr (.inr (.inr (gRf ga8 q1.2.2.2.1)))))) :: (a5, .inr (1, [.ref a12, .ref a13])) :: (a12, .inl (y 3, 2, .inr (.inr (.inr (.inr (gRf gb9 lq)))))) :: (a13, .inl (y 2, 2, .inl lfl)) :: gTail y ga8 gb9 q1.2.2.2.1 lq) := hD
    obtain ⟨T11, hT11⟩ : ∃ T : va_W, gTail y ga8 gb9 q1.2.2.2.1 lq = T := ⟨_, rfl⟩
    rw [hT11] at hP hD
    have hF := hF.trans (if_pos h4q)
    refine W.widen (k := 3) (n := 80) (Nat.le_of_ble_eq_true rfl) (Nat.le_of_ble_eq_true rfl) ?_
    refine vx_ret ?_
    rw [← hT11] at hP hD
    exact W.iret (v := q1.2.1) hx hb hr (fun t ht hW => ⟨⟨q1.2.1, ⟨q1.2.2.1, q1.2.2.2.1, q1.2.2.2.2.1, q1.2.2.2.2.2⟩, rfl, hF, ⟨ga8, gb9, by rw [ht]; exact hP, hD⟩⟩, hS.F ht⟩) hS.2.2 dL_tryMake_7

def f_L_tryWrite (tn : Int32) (tf : Nat → Int32) (r : gR) (rc : gR) (qz : Int32) (qn : Int32) (hq : Nat → Option gR) (lq : Nat → Option gR) (lfl : Nat → Int32) (p1 : Int32) (p2 : Int32) : Int32 × gR × (Nat → Option gR) × Int32 × Int32 :=
    gLet (f_X5_write tn tf r rc qz qn hq lq lfl p1 p2) (fun (q1 : Nat × Int32 × gR × (Nat → Option gR) × Int32 × Int32) =>
    if q1.1 = 0 then
      (q1.2.1, q1.2.2.1, q1.2.2.2.1, q1.2.2.2.2.1, q1.2.2.2.2.2)
    else
      if q1.1 = 3 then
        ((-9999001), q1.2.2.1, q1.2.2.2.1, q1.2.2.2.2.1, q1.2.2.2.2.2)
      else
        if q1.1 = 1 then
          ((-9999002), q1.2.2.1, q1.2.2.2.1, q1.2.2.2.2.1, q1.2.2.2.2.2)
        else
          ((-9999003), q1.2.2.1, q1.2.2.2.1, q1.2.2.2.2.1, q1.2.2.2.2.2))
theorem f_L_tryWrite_s (tn : Int32) (tf : Nat → Int32) (r : gR) (rc : gR) (qz : Int32) (qn : Int32) (hq : Nat → Option gR) (lq : Nat → Option gR) (lfl : Nat → Int32) (p1 : Int32) (p2 : Int32) : f_L_tryWrite tn tf r rc qz qn hq lq lfl p1 p2 =
    (gLet (f_X5_write tn tf r rc qz qn hq lq lfl p1 p2) (fun (q1 : Nat × Int32 × gR × (Nat → Option gR) × Int32 × Int32) =>
    if q1.1 = 0 then
      (q1.2.1, q1.2.2.1, q1.2.2.2.1, q1.2.2.2.2.1, q1.2.2.2.2.2)
    else
      if q1.1 = 3 then
        ((-9999001), q1.2.2.1, q1.2.2.2.1, q1.2.2.2.2.1, q1.2.2.2.2.2)
      else
        if q1.1 = 1 then
          ((-9999002), q1.2.2.1, q1.2.2.2.1, q1.2.2.2.2.1, q1.2.2.2.2.2)
        else
          ((-9999003), q1.2.2.1, q1.2.2.2.1, q1.2.2.2.2.1, q1.2.2.2.2.2))) := rfl
theorem hd_L_tryWrite : yL_tryWrite.cls ≠ "java/lang/invoke/MethodHandle" ∧ yL_tryWrite.cls ≠ "java/lang/invoke/VarHandle" ∧ (parseMethodDescriptor yL_tryWrite.desc).map (fun d => d.parameters.length) = some 3 := by decide +kernel
set_option maxHeartbeats 4000000 in
set_option maxRecDepth 100000 in
theorem c_L_tryWrite (l : Launch) (hst : l.stackTraces = false) (D : va_G) (y : Nat → ClassId) (a0 a1 a2 a3 a4 a5 a6 a7 a8 a9 a10 a11 a12 a13 : Nat) (ga gb : Nat → Nat × Nat × Nat) (zh : Nat) (tn : Int32) (tf : Nat → Int32) (r : gR) (rc : gR) (qz : Int32) (qn : Int32) (hq : Nat → Option gR) (lq : Nat → Option gR) (lfl : Nat → Int32) (p1 : Int32) (p2 : Int32) (hh : 0 ≤ qn.toInt ∧ qn.toInt < (14 : Nat)) (ho : okC r) : Met l yL_tryWrite wsL_tryWrite ({ frames := 8, cells := 5, slots := 92, locals := 125 }) (lP D y [.ref a0, .int p1, .int p2] zh ((a0, .inr (4, [.ref a1, .ref a2, .ref a3, .ref a4, .ref a5])) :: (a1, .inr (3, [.ref a6, .int tn])) :: (a6, .inl (y 1, 120, .inl tf)) :: (a2, soF a7 a8 r) :: (a7, soV y r) :: (a8, soW y r) :: (a3, soF a9 a10 rc) :: (a9, soV y rc) :: (a10, soW y rc) :: (a4, .inr (0, [.ref a11, .int qz, .int qn])) :: (a11, .inl (y 3, 14, .inr (.inr (.inr (.inr (gRf ga hq)))))) :: (a5, .inr (1, [.ref a12, .ref a13])) :: (a12, .inl (y 3, 2, .inr (.inr (.inr (.inr (gRf gb lq)))))) :: (a13, .inl (y 2, 2, .inl lfl)) :: gTail y ga gb hq lq)) (va_Qi (fun (v : Int32) (u : gR × (Nat → Option gR) × Int32 × Int32) => f_L_tryWrite tn tf r rc qz qn hq lq lfl p1 p2 = (v, u)) (fun (u : gR × (Nat → Option gR) × Int32 × Int32) t => ∃ (g1 g2 : Nat → Nat × Nat × Nat), va_P D vwCl ((a0, .inr (4, [.ref a1, .ref a2, .ref a3, .ref a4, .ref a5])) :: (a1, .inr (3, [.ref a6, .int tn])) :: (a6, .inl (y 1, 120, .inl tf)) :: (a2, soF a7 a8 u.1) :: (a7, soV y u.1) :: (a8, soW y u.1) :: (a3, soF a9 a10 rc) :: (a9, soV y rc) :: (a10, soW y rc) :: (a4, .inr (0, [.ref a11, .int u.2.2.1, .int u.2.2.2])) :: (a11, .inl (y 3, 14, .inr (.inr (.inr (.inr (gRf g1 u.2.1)))))) :: (a5, .inr (1, [.ref a12, .ref a13])) :: (a12, .inl (y 3, 2, .inr (.inr (.inr (.inr (gRf g2 lq)))))) :: (a13, .inl (y 2, 2, .inl lfl)) :: gTail y g1 g2 u.2.1 lq) t.heap ∧ va_D (va_A ((a0, .inr (4, [.ref a1, .ref a2, .ref a3, .ref a4, .ref a5])) :: (a1, .inr (3, [.ref a6, .int tn])) :: (a6, .inl (y 1, 120, .inl tf)) :: (a2, soF a7 a8 r) :: (a7, soV y r) :: (a8, soW y r) :: (a3, soF a9 a10 rc) :: (a9, soV y rc) :: (a10, soW y rc) :: (a4, .inr (0, [.ref a11, .int qz, .int qn])) :: (a11, .inl (y 3, 14, .inr (.inr (.inr (.inr (gRf ga hq)))))) :: (a5, .inr (1, [.ref a12, .ref a13])) :: (a12, .inl (y 3, 2, .inr (.inr (.inr (.inr (gRf gb lq)))))) :: (a13, .inl (y 2, 2, .inl lfl)) :: gTail y ga gb hq lq) zh) ((a0, .inr (4, [.ref a1, .ref a2, .ref a3, .ref a4, .ref a5])) :: (a1, .inr (3, [.ref a6, .int tn])) :: (a6, .inl (y 1, 120, .inl tf)) :: (a2, soF a7 a8 u.1) :: (a7, soV y u.1) :: (a8, soW y u.1) :: (a3, soF a9 a10 rc) :: (a9, soV y rc) :: (a10, soW y rc) :: (a4, .inr (0, [.ref a11, .int u.2.2.1, .int u.2.2.2])) :: (a11, .inl (y 3, 14, .inr (.inr (.inr (.inr (gRf g1 u.2.1)))))) :: (a5, .inr (1, [.ref a12, .ref a13])) :: (a12, .inl (y 3, 2, .inr (.inr (.inr (.inr (gRf g2 lq)))))) :: (a13, .inl (y 2, 2, .inl lfl)) :: gTail y g1 g2 u.2.1 lq)) (va_A ((a0, .inr (4, [.ref a1, .ref a2, .ref a3, .ref a4, .ref a5])) :: (a1, .inr (3, [.ref a6, .int tn])) :: (a6, .inl (y 1, 120, .inl tf)) :: (a2, soF a7 a8 r) :: (a7, soV y r) :: (a8, soW y r) :: (a3, soF a9 a10 rc) :: (a9, soV y rc) :: (a10, soW y rc) :: (a4, .inr (0, [.ref a11, .int qz, .int qn])) :: (a11, .inl (y 3, 14, .inr (.inr (.inr (.inr (gRf ga hq)))))) :: (a5, .inr (1, [.ref a12, .ref a13])) :: (a12, .inl (y 3, 2, .inr (.inr (.inr (.inr (gRf gb lq)))))) :: (a13, .inl (y 2, 2, .inl lfl)) :: gTail y ga gb hq lq) zh)) 5 92 (va_A ((a0, .inr (4, [.ref a1, .ref a2, .ref a3, .ref a4, .ref a5])) :: (a1, .inr (3, [.ref a6, .int tn])) :: (a6, .inl (y 1, 120, .inl tf)) :: (a2, soF a7 a8 r) :: (a7, soV y r) :: (a8, soW y r) :: (a3, soF a9 a10 rc) :: (a9, soV y rc) :: (a10, soW y rc) :: (a4, .inr (0, [.ref a11, .int qz, .int qn])) :: (a11, .inl (y 3, 14, .inr (.inr (.inr (.inr (gRf ga hq)))))) :: (a5, .inr (1, [.ref a12, .ref a13])) :: (a12, .inl (y 3, 2, .inr (.inr (.inr (.inr (gRf gb lq)))))) :: (a13, .inl (y 2, 2, .inl lfl)) :: gTail y ga gb hq lq) zh) := by
  refine xL_of (vx_ofWH (cc := cL_tryWrite) (maxL := 4) (ret := (some .int)) (hh := [(0, 6, 7, 37), (0, 6, 11, 13), (0, 6, 15, 24)]) (by decide) rfl ?_)
  intro p e s m args below meth c s₁ B hml hv
  obtain ⟨⟨⟨rfl, hsz, hP, hE, hD⟩, hXE, hXZ⟩, hLN⟩ := hv
  have hx := B.exec
  have hb := B.bytes
  have hr := B.returns
  have hts := atoms_spec (ws := wsL_tryWrite) B.pre
  have hown : s.vm.findClass RL = some m.cls := findClass_of_methodNamed B.named
  have hlocks := B.notSynchronized
  have htab := vx_table (x := yL_tryWrite) B (hts _ List.mem_cons_self)
  have w_0 := hts (.classLink RL 37 "java/lang/IndexOutOfBoundsException") (List.mem_cons_of_mem _ (List.mem_append_left _ (List.mem_append_left _ (List.mem_append_left _ (List.mem_append_left _ (List.mem_append_left _ (List.mem_append_left _ (List.mem_append_left _ (List.mem_of_getElem? (i := 0) rfl)))))))))
  have w_1 := hts (.classLink RL 13 "java/lang/IllegalArgumentException") (List.mem_cons_of_mem _ (List.mem_append_left _ (List.mem_append_left _ (List.mem_append_left _ (List.mem_append_left _ (List.mem_append_left _ (List.mem_append_left _ (List.mem_append_left _ (List.mem_of_getElem? (i := 1) rfl)))))))))
  have w_2 := hts (.classLink RL 24 "java/lang/IllegalStateException") (List.mem_cons_of_mem _ (List.mem_append_left _ (List.mem_append_left _ (List.mem_append_left _ (List.mem_append_left _ (List.mem_append_left _ (List.mem_append_left _ (List.mem_append_left _ (List.mem_of_getElem? (i := 2) rfl)))))))))
  have w_3 := hts (.constant RL 15 (-9999002)) (List.mem_cons_of_mem _ (List.mem_append_left _ (List.mem_append_left _ (List.mem_append_left _ (List.mem_append_left _ (List.mem_append_left _ (List.mem_append_left _ (List.mem_append_left _ (List.mem_of_getElem? (i := 4) rfl)))))))))
  have w_4 := hts (.constant RL 26 (-9999003)) (List.mem_cons_of_mem _ (List.mem_append_left _ (List.mem_append_left _ (List.mem_append_left _ (List.mem_append_left _ (List.mem_append_left _ (List.mem_append_left _ (List.mem_append_left _ (List.mem_of_getElem? (i := 5) rfl)))))))))
  have w_5 := hts (.constant RL 39 (-9999001)) (List.mem_cons_of_mem _ (List.mem_append_left _ (List.mem_append_left _ (List.mem_append_left _ (List.mem_append_left _ (List.mem_append_left _ (List.mem_append_left _ (List.mem_append_left _ (List.mem_of_getElem? (i := 3) rfl)))))))))
  subst hsz
  have hD := hD.self (sz := s.heap.size)
  generalize hAe : va_A ((a0, .inr (4, [.ref a1, .ref a2, .ref a3, .ref a4, .ref a5])) :: (a1, .inr (3, [.ref a6, .int tn])) :: (a6, .inl (y 1, 120, .inl tf)) :: (a2, soF a7 a8 r) :: (a7, soV y r) :: (a8, soW y r) :: (a3, soF a9 a10 rc) :: (a9, soV y rc) :: (a10, soW y rc) :: (a4, .inr (0, [.ref a11, .int qz, .int qn])) :: (a11, .inl (y 3, 14, .inr (.inr (.inr (.inr (gRf ga hq)))))) :: (a5, .inr (1, [.ref a12, .ref a13])) :: (a12, .inl (y 3, 2, .inr (.inr (.inr (.inr (gRf gb lq)))))) :: (a13, .inl (y 2, 2, .inl lfl)) :: gTail y ga gb hq lq) s.heap.size = A at hD hXZ ⊢
  have hA : ∀ q : Nat, s.heap.size ≤ q → A q := fun q h => by rw [← hAe]; exact Or.inr h
  have hS : va_S A s.heap s.heap [] := va_S.rf
  have hl := lv_entry ([.ref a0, .int p1, .int p2]) (n := 4) (Nat.le_of_ble_eq_true rfl)
  rw [lg_entry_eq]
  generalize (lg_sl ([.ref a0, .int p1, .int p2]) ++ List.replicate (4 - (lg_sl ([.ref a0, .int p1, .int p2])).length) Slot.unset).toArray = ls at hl ⊢
  have hl : lv_has ls 4 [(0, .ref a0), (1, .int p1), (2, .int p2)] := hl
  have hF := f_L_tryWrite_s tn tf r rc qz qn hq lq lfl p1 p2
  obtain ⟨T, hT⟩ : ∃ T : va_W, gTail y ga gb hq lq = T := ⟨_, rfl⟩
  rw [hT] at hP hD
  refine lv_aload_n hx hb dL_tryWrite_0 rfl (lv_at hl 0 rfl) ?_
  refine lv_iload_n hx hb dL_tryWrite_1 rfl (lv_at hl 1 rfl) ?_
  refine lv_iload_n hx hb dL_tryWrite_2 rfl (lv_at hl 2 rfl) ?_
  rw [← hT] at hP hD
  obtain ⟨q1, eq1⟩ : ∃ z : Nat × Int32 × gR × (Nat → Option gR) × Int32 × Int32, f_X5_write tn tf r rc qz qn hq lq lfl p1 p2 = z := ⟨_, rfl⟩
  have hF := hF.trans (gLet_e eq1)
  refine xq_callEi (ex := ([] : va_W)) (vx_runV (As := [.int p1, .int p2]) (rest := []) ⟨hx, hb, hml, hown, hts⟩ (c_X5_write l hst D y a0 a1 a2 a3 a4 a5 a6 a7 a8 a9 a10 a11 a12 a13 ga gb s.heap.size tn tf r rc qz qn hq lq lfl p1 p2 hh ho) (cwV 2 hts gL_tryWrite_X5_write rfl rfl rfl hd_X5_write ⟨Nat.le_of_ble_eq_true rfl, Nat.le_of_ble_eq_true rfl⟩) (xV (q := (RX5, TX5, 5)) hE hXE hXZ hS hA hP hD 0 rfl rfl) rfl rfl hl.1 rfl (lv_room (Nat.le_of_ble_eq_true rfl)) dL_tryWrite_3 ⟨Nat.le_of_ble_eq_true rfl, Nat.le_of_ble_eq_true rfl⟩) hP hD hS hA (fun E5 ce6 a97 u3 ga8 gb9 H locs h4 hP hD hS h4a h4b h4c => ?_) (fun v2 u3 ga8 gb9 H locs h4 hP hD hS => ?_)
  · have h4q : q1.1 = xc E5 := by rw [← eq1, h4.1]
    obtain rfl : q1.2.2 = u3 := by rw [← eq1, h4.1]
    have hP : va_P D vwCl ((a0, .inr (4, [.ref a1, .ref a2, .ref a3, .ref a4, .ref a5])) :: (a1, .inr (3, [.ref a6, .int tn])) :: (a6, .inl (y 1, 120, .inl tf)) :: (a2, soF a7 a8 q1.2.2.1) :: (a7, soV y q1.2.2.1) :: (a8, soW y q1.2.2.1) :: (a3, soF a9 a10 rc) :: (a9, soV y rc) :: (a10, soW y rc) :: (a4, .inr (0, [.ref a11, .int q1.2.2.2.2.1, .int q1.2.2.2.2.2])) :: (a11, .inl (y 3, 14, .inr (.inr (.inr (.inr (gRf ga8 q1.2.2.2.1)))))) :: (a5, .inr (1, [.ref a12, .ref a13])) :: (a12, .inl (y 3, 2, .inr (.inr (.inr (.inr (gRf gb9 lq)))))) :: (a13, .inl (y 2, 2, .inl lfl)) :: gTail y ga8 gb9 q1.2.2.2.1 lq) H := hP
    have hD : va_D A ((a0, .inr (4, [.ref a1, .ref a2, .ref a3, .ref a4, .ref a5])) :: (a1, .inr (3, [.ref a6, .int tn])) :: (a6, .inl (y 1, 120, .inl tf)) :: (a2, soF a7 a8 q1.2.2.1) :: (a7, soV y q1.2.2.1) :: (a8, soW y q1.2.2.1) :: (a3, soF a9 a10 rc) :: (a9, soV y rc) :: (a10, soW y rc) :: (a4, .inr (0, [.ref a11, .int q1.2.2.2.2.1, .int q1.2.2.2.2.2])) :: (a11, .inl (y 3, 14, .inr (.inr (.inr (.inr (gRf ga8 q1.2.2.2.1)))))) :: (a5, .inr (1, [.ref a12, .ref a13])) :: (a12, .inl (y 3, 2, .inr (.inr (.inr (.inr (gRf gb9 lq)))))) :: (a13, .inl (y 2, 2, .inl lfl)) :: gTail y ga8 gb9 q1.2.2.2.1 lq) := hD
    obtain ⟨T10, hT10⟩ : ∃ T : va_W, gTail y ga8 gb9 q1.2.2.2.1 lq = T := ⟨_, rfl⟩
    rw [hT10] at hP hD
    rcases xc_E h4.2 with rfl | rfl | rfl
    · rw [xc_IA] at h4q
      have hF := hF.trans (if_neg (show ¬ q1.1 = 0 by rw [h4q]; decide))
      have hF := hF.trans (if_neg (show ¬ q1.1 = 3 by rw [h4q]; decide))
      have hF := hF.trans (if_pos h4q)
      refine vx_catch hown (tableOf [(0, 6, 7, 37)]) ⟨0, 6, 11, 13⟩ (tableOf [(0, 6, 15, 24)]) (htab.trans rfl) (fun z hz => by simp only [tableOf, List.map_cons, List.map_nil, List.mem_cons, List.not_mem_nil, or_false] at hz; rcases hz with rfl; exact Or.inr ⟨by decide, _, w_0, hLN.1.2⟩) (by decide) (by decide) w_1 (hXE.1.1.1.use rfl) h4a h4b h4c ?_
      refine W.eq (g2 := F0 m 11 ls [.ref a97]) rfl ?_
      refine lv_astore_n (lv' := [(3, .ref a97), (0, .ref a0), (1, .int p1), (2, .int p2)]) hx hb dL_tryWrite_11 rfl hl (by decide) rfl (fun ls hl => ?_)
      refine lv_ldc (v := (-9999002)) hx hb hown w_3 dL_tryWrite_12 ?_
      refine W.widen (k := 5) (n := 92) (Nat.le_of_ble_eq_true rfl) (Nat.le_of_ble_eq_true rfl) ?_
      refine vx_ret ?_
      rw [← hT10] at hP hD
      exact W.iret (v := (-9999002)) hx hb hr (fun t ht hW => ⟨⟨(-9999002), ⟨q1.2.2.1, q1.2.2.2.1, q1.2.2.2.2.1, q1.2.2.2.2.2⟩, rfl, hF, ⟨ga8, gb9, by rw [ht]; exact hP, hD⟩⟩, hS.F ht⟩) hS.2.2 dL_tryWrite_14
    · rw [xc_IS] at h4q
      have hF := hF.trans (if_neg (show ¬ q1.1 = 0 by rw [h4q]; decide))
      have hF := hF.trans (if_neg (show ¬ q1.1 = 3 by rw [h4q]; decide))
      have hF := hF.trans (if_neg (show ¬ q1.1 = 1 by rw [h4q]; decide))
      refine vx_catch hown (tableOf [(0, 6, 7, 37), (0, 6, 11, 13)]) ⟨0, 6, 15, 24⟩ (tableOf []) (htab.trans rfl) (fun z hz => by
          simp only [tableOf, List.map_cons, List.map_nil, List.mem_cons, List.not_mem_nil, or_false] at hz
          rcases hz with rfl | rfl
          · exact Or.inr ⟨by decide, _, w_0, hLN.2.1.2⟩
          · exact Or.inr ⟨by decide, _, w_1, hLN.2.1.1⟩) (by decide) (by decide) w_2 (hXE.1.1.2.1.use rfl) h4a h4b h4c ?_
      refine W.eq (g2 := F0 m 15 ls [.ref a97]) rfl ?_
      refine lv_astore_n (lv' := [(3, .ref a97), (0, .ref a0), (1, .int p1), (2, .int p2)]) hx hb dL_tryWrite_15 rfl hl (by decide) rfl (fun ls hl => ?_)
      refine lv_ldc (v := (-9999003)) hx hb hown w_4 dL_tryWrite_16 ?_
      refine W.widen (k := 5) (n := 92) (Nat.le_of_ble_eq_true rfl) (Nat.le_of_ble_eq_true rfl) ?_
      refine vx_ret ?_
      rw [← hT10] at hP hD
      exact W.iret (v := (-9999003)) hx hb hr (fun t ht hW => ⟨⟨(-9999003), ⟨q1.2.2.1, q1.2.2.2.1, q1.2.2.2.2.1, q1.2.2.2.2.2⟩, rfl, hF, ⟨ga8, gb9, by rw [ht]; exact hP, hD⟩⟩, hS.F ht⟩) hS.2.2 dL_tryWrite_18
    · rw [xc_IO] at h4q
      have hF := hF.trans (if_neg (show ¬ q1.1 = 0 by rw [h4q]; decide))
      have hF := hF.trans (if_pos h4q)
      refine vx_catch hown (tableOf []) ⟨0, 6, 7, 37⟩ (tableOf [(0, 6, 11, 13), (0, 6, 15, 24)]) (htab.trans rfl) (fun z hz => nomatch hz) (by decide) (by decide) w_0 (hXE.1.1.2.2.use rfl) h4a h4b h4c ?_
      refine W.eq (g2 := F0 m 7 ls [.ref a97]) rfl ?_
      refine lv_astore_n (lv' := [(3, .ref a97), (0, .ref a0), (1, .int p1), (2, .int p2)]) hx hb dL_tryWrite_7 rfl hl (by decide) rfl (fun ls hl => ?_)
      refine lv_ldc (v := (-9999001)) hx hb hown w_5 dL_tryWrite_8 ?_
      refine W.widen (k := 5) (n := 92) (Nat.le_of_ble_eq_true rfl) (Nat.le_of_ble_eq_true rfl) ?_
      refine vx_ret ?_
      rw [← hT10] at hP hD
      exact W.iret (v := (-9999001)) hx hb hr (fun t ht hW => ⟨⟨(-9999001), ⟨q1.2.2.1, q1.2.2.2.1, q1.2.2.2.2.1, q1.2.2.2.2.2⟩, rfl, hF, ⟨ga8, gb9, by rw [ht]; exact hP, hD⟩⟩, hS.F ht⟩) hS.2.2 dL_tryWrite_10
  · have h4q : q1.1 = 0 := by rw [← eq1, h4]
    obtain ⟨rfl, rfl⟩ : q1.2.1 = v2 ∧ q1.2.2 = u3 := ⟨by rw [← eq1, h4], by rw [← eq1, h4]⟩
    have hP : va_P D vwCl ((a0, .inr (4, [.ref a1, .ref a2, .ref a3, .ref a4, .ref a5])) :: (a1, .inr (3, [.ref a6, .int tn])) :: (a6, .inl (y 1, 120, .inl tf)) :: (a2, soF a7 a8 q1.2.2.1) :: (a7, soV y q1.2.2.1) :: (a8, soW y q1.2.2.1) :: (a3, soF a9 a10 rc) :: (a9, soV y rc) :: (a10, soW y rc) :: (a4, .inr (0, [.ref a11, .int q1.2.2.2.2.1, .int q1.2.2.2.2.2])) :: (a11, .inl (y 3, 14, .inr (.inr (.inr (.inr (gRf ga8 q1.2.2.2.1)))))) :: (a5, .inr (1, [.ref a12, .ref a13])) :: (a12, .inl (y 3, 2, .inr (.inr (.inr (.inr (gRf gb9 lq)))))) :: (a13, .inl (y 2, 2, .inl lfl)) :: gTail y ga8 gb9 q1.2.2.2.1 lq) H := hP
    have hD : va_D A ((a0, .inr (4, [.ref a1, .ref a2, .ref a3, .ref a4, .ref a5])) :: (a1, .inr (3, [.ref a6, .int tn])) :: (a6, .inl (y 1, 120, .inl tf)) :: (a2, soF a7 a8 q1.2.2.1) :: (a7, soV y q1.2.2.1) :: (a8, soW y q1.2.2.1) :: (a3, soF a9 a10 rc) :: (a9, soV y rc) :: (a10, soW y rc) :: (a4, .inr (0, [.ref a11, .int q1.2.2.2.2.1, .int q1.2.2.2.2.2])) :: (a11, .inl (y 3, 14, .inr (.inr (.inr (.inr (gRf ga8 q1.2.2.2.1)))))) :: (a5, .inr (1, [.ref a12, .ref a13])) :: (a12, .inl (y 3, 2, .inr (.inr (.inr (.inr (gRf gb9 lq)))))) :: (a13, .inl (y 2, 2, .inl lfl)) :: gTail y ga8 gb9 q1.2.2.2.1 lq) := hD
    obtain ⟨T11, hT11⟩ : ∃ T : va_W, gTail y ga8 gb9 q1.2.2.2.1 lq = T := ⟨_, rfl⟩
    rw [hT11] at hP hD
    have hF := hF.trans (if_pos h4q)
    refine W.widen (k := 5) (n := 92) (Nat.le_of_ble_eq_true rfl) (Nat.le_of_ble_eq_true rfl) ?_
    refine vx_ret ?_
    rw [← hT11] at hP hD
    exact W.iret (v := q1.2.1) hx hb hr (fun t ht hW => ⟨⟨q1.2.1, ⟨q1.2.2.1, q1.2.2.2.1, q1.2.2.2.2.1, q1.2.2.2.2.2⟩, rfl, hF, ⟨ga8, gb9, by rw [ht]; exact hP, hD⟩⟩, hS.F ht⟩) hS.2.2 dL_tryWrite_6

def f_L_tryHammer (tn : Int32) (tf : Nat → Int32) (r : gR) (rc : gR) (qz : Int32) (qn : Int32) (hq : Nat → Option gR) (lq : Nat → Option gR) (lfl : Nat → Int32) (p1 : Int32) (p2 : Int32) : Int32 × gR × (Nat → Option gR) × Int32 × Int32 :=
    gLet (f_X5_hammer tn tf r rc qz qn hq lq lfl p1 p2) (fun (q1 : Nat × Int32 × gR × (Nat → Option gR) × Int32 × Int32) =>
    if q1.1 = 0 then
      (q1.2.1, q1.2.2.1, q1.2.2.2.1, q1.2.2.2.2.1, q1.2.2.2.2.2)
    else
      if q1.1 = 3 then
        ((-9999001), q1.2.2.1, q1.2.2.2.1, q1.2.2.2.2.1, q1.2.2.2.2.2)
      else
        ((-9999002), q1.2.2.1, q1.2.2.2.1, q1.2.2.2.2.1, q1.2.2.2.2.2))
theorem f_L_tryHammer_s (tn : Int32) (tf : Nat → Int32) (r : gR) (rc : gR) (qz : Int32) (qn : Int32) (hq : Nat → Option gR) (lq : Nat → Option gR) (lfl : Nat → Int32) (p1 : Int32) (p2 : Int32) : f_L_tryHammer tn tf r rc qz qn hq lq lfl p1 p2 =
    (gLet (f_X5_hammer tn tf r rc qz qn hq lq lfl p1 p2) (fun (q1 : Nat × Int32 × gR × (Nat → Option gR) × Int32 × Int32) =>
    if q1.1 = 0 then
      (q1.2.1, q1.2.2.1, q1.2.2.2.1, q1.2.2.2.2.1, q1.2.2.2.2.2)
    else
      if q1.1 = 3 then
        ((-9999001), q1.2.2.1, q1.2.2.2.1, q1.2.2.2.2.1, q1.2.2.2.2.2)
      else
        ((-9999002), q1.2.2.1, q1.2.2.2.1, q1.2.2.2.2.1, q1.2.2.2.2.2))) := rfl
theorem hd_L_tryHammer : yL_tryHammer.cls ≠ "java/lang/invoke/MethodHandle" ∧ yL_tryHammer.cls ≠ "java/lang/invoke/VarHandle" ∧ (parseMethodDescriptor yL_tryHammer.desc).map (fun d => d.parameters.length) = some 3 := by decide +kernel
set_option maxHeartbeats 4000000 in
set_option maxRecDepth 100000 in
theorem c_L_tryHammer (l : Launch) (hst : l.stackTraces = false) (D : va_G) (y : Nat → ClassId) (a0 a1 a2 a3 a4 a5 a6 a7 a8 a9 a10 a11 a12 a13 : Nat) (ga gb : Nat → Nat × Nat × Nat) (zh : Nat) (tn : Int32) (tf : Nat → Int32) (r : gR) (rc : gR) (qz : Int32) (qn : Int32) (hq : Nat → Option gR) (lq : Nat → Option gR) (lfl : Nat → Int32) (p1 : Int32) (p2 : Int32) (hh : 0 ≤ qn.toInt ∧ qn.toInt < (14 : Nat)) (ho : okC r) : Met l yL_tryHammer wsL_tryHammer ({ frames := 8, cells := 5, slots := 92, locals := 125 }) (lP D y [.ref a0, .int p1, .int p2] zh ((a0, .inr (4, [.ref a1, .ref a2, .ref a3, .ref a4, .ref a5])) :: (a1, .inr (3, [.ref a6, .int tn])) :: (a6, .inl (y 1, 120, .inl tf)) :: (a2, soF a7 a8 r) :: (a7, soV y r) :: (a8, soW y r) :: (a3, soF a9 a10 rc) :: (a9, soV y rc) :: (a10, soW y rc) :: (a4, .inr (0, [.ref a11, .int qz, .int qn])) :: (a11, .inl (y 3, 14, .inr (.inr (.inr (.inr (gRf ga hq)))))) :: (a5, .inr (1, [.ref a12, .ref a13])) :: (a12, .inl (y 3, 2, .inr (.inr (.inr (.inr (gRf gb lq)))))) :: (a13, .inl (y 2, 2, .inl lfl)) :: gTail y ga gb hq lq)) (va_Qi (fun (v : Int32) (u : gR × (Nat → Option gR) × Int32 × Int32) => f_L_tryHammer tn tf r rc qz qn hq lq lfl p1 p2 = (v, u)) (fun (u : gR × (Nat → Option gR) × Int32 × Int32) t => ∃ (g1 g2 : Nat → Nat × Nat × Nat), va_P D vwCl ((a0, .inr (4, [.ref a1, .ref a2, .ref a3, .ref a4, .ref a5])) :: (a1, .inr (3, [.ref a6, .int tn])) :: (a6, .inl (y 1, 120, .inl tf)) :: (a2, soF a7 a8 u.1) :: (a7, soV y u.1) :: (a8, soW y u.1) :: (a3, soF a9 a10 rc) :: (a9, soV y rc) :: (a10, soW y rc) :: (a4, .inr (0, [.ref a11, .int u.2.2.1, .int u.2.2.2])) :: (a11, .inl (y 3, 14, .inr (.inr (.inr (.inr (gRf g1 u.2.1)))))) :: (a5, .inr (1, [.ref a12, .ref a13])) :: (a12, .inl (y 3, 2, .inr (.inr (.inr (.inr (gRf g2 lq)))))) :: (a13, .inl (y 2, 2, .inl lfl)) :: gTail y g1 g2 u.2.1 lq) t.heap ∧ va_D (va_A ((a0, .inr (4, [.ref a1, .ref a2, .ref a3, .ref a4, .ref a5])) :: (a1, .inr (3, [.ref a6, .int tn])) :: (a6, .inl (y 1, 120, .inl tf)) :: (a2, soF a7 a8 r) :: (a7, soV y r) :: (a8, soW y r) :: (a3, soF a9 a10 rc) :: (a9, soV y rc) :: (a10, soW y rc) :: (a4, .inr (0, [.ref a11, .int qz, .int qn])) :: (a11, .inl (y 3, 14, .inr (.inr (.inr (.inr (gRf ga hq)))))) :: (a5, .inr (1, [.ref a12, .ref a13])) :: (a12, .inl (y 3, 2, .inr (.inr (.inr (.inr (gRf gb lq)))))) :: (a13, .inl (y 2, 2, .inl lfl)) :: gTail y ga gb hq lq) zh) ((a0, .inr (4, [.ref a1, .ref a2, .ref a3, .ref a4, .ref a5])) :: (a1, .inr (3, [.ref a6, .int tn])) :: (a6, .inl (y 1, 120, .inl tf)) :: (a2, soF a7 a8 u.1) :: (a7, soV y u.1) :: (a8, soW y u.1) :: (a3, soF a9 a10 rc) :: (a9, soV y rc) :: (a10, soW y rc) :: (a4, .inr (0, [.ref a11, .int u.2.2.1, .int u.2.2.2])) :: (a11, .inl (y 3, 14, .inr (.inr (.inr (.inr (gRf g1 u.2.1)))))) :: (a5, .inr (1, [.ref a12, .ref a13])) :: (a12, .inl (y 3, 2, .inr (.inr (.inr (.inr (gRf g2 lq)))))) :: (a13, .inl (y 2, 2, .inl lfl)) :: gTail y g1 g2 u.2.1 lq)) (va_A ((a0, .inr (4, [.ref a1, .ref a2, .ref a3, .ref a4, .ref a5])) :: (a1, .inr (3, [.ref a6, .int tn])) :: (a6, .inl (y 1, 120, .inl tf)) :: (a2, soF a7 a8 r) :: (a7, soV y r) :: (a8, soW y r) :: (a3, soF a9 a10 rc) :: (a9, soV y rc) :: (a10, soW y rc) :: (a4, .inr (0, [.ref a11, .int qz, .int qn])) :: (a11, .inl (y 3, 14, .inr (.inr (.inr (.inr (gRf ga hq)))))) :: (a5, .inr (1, [.ref a12, .ref a13])) :: (a12, .inl (y 3, 2, .inr (.inr (.inr (.inr (gRf gb lq)))))) :: (a13, .inl (y 2, 2, .inl lfl)) :: gTail y ga gb hq lq) zh)) 5 92 (va_A ((a0, .inr (4, [.ref a1, .ref a2, .ref a3, .ref a4, .ref a5])) :: (a1, .inr (3, [.ref a6, .int tn])) :: (a6, .inl (y 1, 120, .inl tf)) :: (a2, soF a7 a8 r) :: (a7, soV y r) :: (a8, soW y r) :: (a3, soF a9 a10 rc) :: (a9, soV y rc) :: (a10, soW y rc) :: (a4, .inr (0, [.ref a11, .int qz, .int qn])) :: (a11, .inl (y 3, 14, .inr (.inr (.inr (.inr (gRf ga hq)))))) :: (a5, .inr (1, [.ref a12, .ref a13])) :: (a12, .inl (y 3, 2, .inr (.inr (.inr (.inr (gRf gb lq)))))) :: (a13, .inl (y 2, 2, .inl lfl)) :: gTail y ga gb hq lq) zh) := by
  refine xL_of (vx_ofWH (cc := cL_tryHammer) (maxL := 4) (ret := (some .int)) (hh := [(0, 6, 7, 37), (0, 6, 11, 13)]) (by decide) rfl ?_)
  intro p e s m args below meth c s₁ B hml hv
  obtain ⟨⟨⟨rfl, hsz, hP, hE, hD⟩, hXE, hXZ⟩, hLN⟩ := hv
  have hx := B.exec
  have hb := B.bytes
  have hr := B.returns
  have hts := atoms_spec (ws := wsL_tryHammer) B.pre
  have hown : s.vm.findClass RL = some m.cls := findClass_of_methodNamed B.named
  have hlocks := B.notSynchronized
  have htab := vx_table (x := yL_tryHammer) B (hts _ List.mem_cons_self)
  have w_0 := hts (.classLink RL 37 "java/lang/IndexOutOfBoundsException") (List.mem_cons_of_mem _ (List.mem_append_left _ (List.mem_append_left _ (List.mem_append_left _ (List.mem_append_left _ (List.mem_append_left _ (List.mem_append_left _ (List.mem_of_getElem? (i := 0) rfl))))))))
  have w_1 := hts (.classLink RL 13 "java/lang/IllegalArgumentException") (List.mem_cons_of_mem _ (List.mem_append_left _ (List.mem_append_left _ (List.mem_append_left _ (List.mem_append_left _ (List.mem_append_left _ (List.mem_append_left _ (List.mem_of_getElem? (i := 1) rfl))))))))
  have w_2 := hts (.constant RL 15 (-9999002)) (List.mem_cons_of_mem _ (List.mem_append_left _ (List.mem_append_left _ (List.mem_append_left _ (List.mem_append_left _ (List.mem_append_left _ (List.mem_append_left _ (List.mem_of_getElem? (i := 3) rfl))))))))
  have w_3 := hts (.constant RL 39 (-9999001)) (List.mem_cons_of_mem _ (List.mem_append_left _ (List.mem_append_left _ (List.mem_append_left _ (List.mem_append_left _ (List.mem_append_left _ (List.mem_append_left _ (List.mem_of_getElem? (i := 2) rfl))))))))
  subst hsz
  have hD := hD.self (sz := s.heap.size)
  generalize hAe : va_A ((a0, .inr (4, [.ref a1, .ref a2, .ref a3, .ref a4, .ref a5])) :: (a1, .inr (3, [.ref a6, .int tn])) :: (a6, .inl (y 1, 120, .inl tf)) :: (a2, soF a7 a8 r) :: (a7, soV y r) :: (a8, soW y r) :: (a3, soF a9 a10 rc) :: (a9, soV y rc) :: (a10, soW y rc) :: (a4, .inr (0, [.ref a11, .int qz, .int qn])) :: (a11, .inl (y 3, 14, .inr (.inr (.inr (.inr (gRf ga hq)))))) :: (a5, .inr (1, [.ref a12, .ref a13])) :: (a12, .inl (y 3, 2, .inr (.inr (.inr (.inr (gRf gb lq)))))) :: (a13, .inl (y 2, 2, .inl lfl)) :: gTail y ga gb hq lq) s.heap.size = A at hD hXZ ⊢
  have hA : ∀ q : Nat, s.heap.size ≤ q → A q := fun q h => by rw [← hAe]; exact Or.inr h
  have hS : va_S A s.heap s.heap [] := va_S.rf
  have hl := lv_entry ([.ref a0, .int p1, .int p2]) (n := 4) (Nat.le_of_ble_eq_true rfl)
  rw [lg_entry_eq]
  generalize (lg_sl ([.ref a0, .int p1, .int p2]) ++ List.replicate (4 - (lg_sl ([.ref a0, .int p1, .int p2])).length) Slot.unset).toArray = ls at hl ⊢
  have hl : lv_has ls 4 [(0, .ref a0), (1, .int p1), (2, .int p2)] := hl
  have hF := f_L_tryHammer_s tn tf r rc qz qn hq lq lfl p1 p2
  obtain ⟨T, hT⟩ : ∃ T : va_W, gTail y ga gb hq lq = T := ⟨_, rfl⟩
  rw [hT] at hP hD
  refine lv_aload_n hx hb dL_tryHammer_0 rfl (lv_at hl 0 rfl) ?_
  refine lv_iload_n hx hb dL_tryHammer_1 rfl (lv_at hl 1 rfl) ?_
  refine lv_iload_n hx hb dL_tryHammer_2 rfl (lv_at hl 2 rfl) ?_
  rw [← hT] at hP hD
  obtain ⟨q1, eq1⟩ : ∃ z : Nat × Int32 × gR × (Nat → Option gR) × Int32 × Int32, f_X5_hammer tn tf r rc qz qn hq lq lfl p1 p2 = z := ⟨_, rfl⟩
  have hF := hF.trans (gLet_e eq1)
  refine xq_callEi (ex := ([] : va_W)) (vx_runV (As := [.int p1, .int p2]) (rest := []) ⟨hx, hb, hml, hown, hts⟩ (c_X5_hammer l hst D y a0 a1 a2 a3 a4 a5 a6 a7 a8 a9 a10 a11 a12 a13 ga gb s.heap.size tn tf r rc qz qn hq lq lfl p1 p2 hh ho) (cwV 2 hts gL_tryHammer_X5_hammer rfl rfl rfl hd_X5_hammer ⟨Nat.le_of_ble_eq_true rfl, Nat.le_of_ble_eq_true rfl⟩) (xV (q := (RX5, TX5, 5)) hE hXE hXZ hS hA hP hD 0 rfl rfl) rfl rfl hl.1 rfl (lv_room (Nat.le_of_ble_eq_true rfl)) dL_tryHammer_3 ⟨Nat.le_of_ble_eq_true rfl, Nat.le_of_ble_eq_true rfl⟩) hP hD hS hA (fun E5 ce6 a97 u3 ga8 gb9 H locs h4 hP hD hS h4a h4b h4c => ?_) (fun v2 u3 ga8 gb9 H locs h4 hP hD hS => ?_)
  · have h4q : q1.1 = xc E5 := by rw [← eq1, h4.1]
    obtain rfl : q1.2.2 = u3 := by rw [← eq1, h4.1]
    have hP : va_P D vwCl ((a0, .inr (4, [.ref a1, .ref a2, .ref a3, .ref a4, .ref a5])) :: (a1, .inr (3, [.ref a6, .int tn])) :: (a6, .inl (y 1, 120, .inl tf)) :: (a2, soF a7 a8 q1.2.2.1) :: (a7, soV y q1.2.2.1) :: (a8, soW y q1.2.2.1) :: (a3, soF a9 a10 rc) :: (a9, soV y rc) :: (a10, soW y rc) :: (a4, .inr (0, [.ref a11, .int q1.2.2.2.2.1, .int q1.2.2.2.2.2])) :: (a11, .inl (y 3, 14, .inr (.inr (.inr (.inr (gRf ga8 q1.2.2.2.1)))))) :: (a5, .inr (1, [.ref a12, .ref a13])) :: (a12, .inl (y 3, 2, .inr (.inr (.inr (.inr (gRf gb9 lq)))))) :: (a13, .inl (y 2, 2, .inl lfl)) :: gTail y ga8 gb9 q1.2.2.2.1 lq) H := hP
    have hD : va_D A ((a0, .inr (4, [.ref a1, .ref a2, .ref a3, .ref a4, .ref a5])) :: (a1, .inr (3, [.ref a6, .int tn])) :: (a6, .inl (y 1, 120, .inl tf)) :: (a2, soF a7 a8 q1.2.2.1) :: (a7, soV y q1.2.2.1) :: (a8, soW y q1.2.2.1) :: (a3, soF a9 a10 rc) :: (a9, soV y rc) :: (a10, soW y rc) :: (a4, .inr (0, [.ref a11, .int q1.2.2.2.2.1, .int q1.2.2.2.2.2])) :: (a11, .inl (y 3, 14, .inr (.inr (.inr (.inr (gRf ga8 q1.2.2.2.1)))))) :: (a5, .inr (1, [.ref a12, .ref a13])) :: (a12, .inl (y 3, 2, .inr (.inr (.inr (.inr (gRf gb9 lq)))))) :: (a13, .inl (y 2, 2, .inl lfl)) :: gTail y ga8 gb9 q1.2.2.2.1 lq) := hD
    obtain ⟨T10, hT10⟩ : ∃ T : va_W, gTail y ga8 gb9 q1.2.2.2.1 lq = T := ⟨_, rfl⟩
    rw [hT10] at hP hD
    rcases xc_E h4.2 with rfl | rfl | rfl
    · rw [xc_IA] at h4q
      have hF := hF.trans (if_neg (show ¬ q1.1 = 0 by rw [h4q]; decide))
      have hF := hF.trans (if_neg (show ¬ q1.1 = 3 by rw [h4q]; decide))
      refine vx_catch hown (tableOf [(0, 6, 7, 37)]) ⟨0, 6, 11, 13⟩ (tableOf []) (htab.trans rfl) (fun z hz => by simp only [tableOf, List.map_cons, List.map_nil, List.mem_cons, List.not_mem_nil, or_false] at hz; rcases hz with rfl; exact Or.inr ⟨by decide, _, w_0, hLN.1.2⟩) (by decide) (by decide) w_1 (hXE.1.1.1.use rfl) h4a h4b h4c ?_
      refine W.eq (g2 := F0 m 11 ls [.ref a97]) rfl ?_
      refine lv_astore_n (lv' := [(3, .ref a97), (0, .ref a0), (1, .int p1), (2, .int p2)]) hx hb dL_tryHammer_11 rfl hl (by decide) rfl (fun ls hl => ?_)
      refine lv_ldc (v := (-9999002)) hx hb hown w_2 dL_tryHammer_12 ?_
      refine W.widen (k := 5) (n := 92) (Nat.le_of_ble_eq_true rfl) (Nat.le_of_ble_eq_true rfl) ?_
      refine vx_ret ?_
      rw [← hT10] at hP hD
      exact W.iret (v := (-9999002)) hx hb hr (fun t ht hW => ⟨⟨(-9999002), ⟨q1.2.2.1, q1.2.2.2.1, q1.2.2.2.2.1, q1.2.2.2.2.2⟩, rfl, hF, ⟨ga8, gb9, by rw [ht]; exact hP, hD⟩⟩, hS.F ht⟩) hS.2.2 dL_tryHammer_14
    · rw [xc_IS] at h4q
      have hc := cd_X5_hammer tn tf r rc qz qn hq lq lfl p1 p2
      rw [eq1, h4q] at hc
      exact absurd hc (by decide)
    · rw [xc_IO] at h4q
      have hF := hF.trans (if_neg (show ¬ q1.1 = 0 by rw [h4q]; decide))
      have hF := hF.trans (if_pos h4q)
      refine vx_catch hown (tableOf []) ⟨0, 6, 7, 37⟩ (tableOf [(0, 6, 11, 13)]) (htab.trans rfl) (fun z hz => nomatch hz) (by decide) (by decide) w_0 (hXE.1.1.2.2.use rfl) h4a h4b h4c ?_
      refine W.eq (g2 := F0 m 7 ls [.ref a97]) rfl ?_
      refine lv_astore_n (lv' := [(3, .ref a97), (0, .ref a0), (1, .int p1), (2, .int p2)]) hx hb dL_tryHammer_7 rfl hl (by decide) rfl (fun ls hl => ?_)
      refine lv_ldc (v := (-9999001)) hx hb hown w_3 dL_tryHammer_8 ?_
      refine W.widen (k := 5) (n := 92) (Nat.le_of_ble_eq_true rfl) (Nat.le_of_ble_eq_true rfl) ?_
      refine vx_ret ?_
      rw [← hT10] at hP hD
      exact W.iret (v := (-9999001)) hx hb hr (fun t ht hW => ⟨⟨(-9999001), ⟨q1.2.2.1, q1.2.2.2.1, q1.2.2.2.2.1, q1.2.2.2.2.2⟩, rfl, hF, ⟨ga8, gb9, by rw [ht]; exact hP, hD⟩⟩, hS.F ht⟩) hS.2.2 dL_tryHammer_10
  · have h4q : q1.1 = 0 := by rw [← eq1, h4]
    obtain ⟨rfl, rfl⟩ : q1.2.1 = v2 ∧ q1.2.2 = u3 := ⟨by rw [← eq1, h4], by rw [← eq1, h4]⟩
    have hP : va_P D vwCl ((a0, .inr (4, [.ref a1, .ref a2, .ref a3, .ref a4, .ref a5])) :: (a1, .inr (3, [.ref a6, .int tn])) :: (a6, .inl (y 1, 120, .inl tf)) :: (a2, soF a7 a8 q1.2.2.1) :: (a7, soV y q1.2.2.1) :: (a8, soW y q1.2.2.1) :: (a3, soF a9 a10 rc) :: (a9, soV y rc) :: (a10, soW y rc) :: (a4, .inr (0, [.ref a11, .int q1.2.2.2.2.1, .int q1.2.2.2.2.2])) :: (a11, .inl (y 3, 14, .inr (.inr (.inr (.inr (gRf ga8 q1.2.2.2.1)))))) :: (a5, .inr (1, [.ref a12, .ref a13])) :: (a12, .inl (y 3, 2, .inr (.inr (.inr (.inr (gRf gb9 lq)))))) :: (a13, .inl (y 2, 2, .inl lfl)) :: gTail y ga8 gb9 q1.2.2.2.1 lq) H := hP
    have hD : va_D A ((a0, .inr (4, [.ref a1, .ref a2, .ref a3, .ref a4, .ref a5])) :: (a1, .inr (3, [.ref a6, .int tn])) :: (a6, .inl (y 1, 120, .inl tf)) :: (a2, soF a7 a8 q1.2.2.1) :: (a7, soV y q1.2.2.1) :: (a8, soW y q1.2.2.1) :: (a3, soF a9 a10 rc) :: (a9, soV y rc) :: (a10, soW y rc) :: (a4, .inr (0, [.ref a11, .int q1.2.2.2.2.1, .int q1.2.2.2.2.2])) :: (a11, .inl (y 3, 14, .inr (.inr (.inr (.inr (gRf ga8 q1.2.2.2.1)))))) :: (a5, .inr (1, [.ref a12, .ref a13])) :: (a12, .inl (y 3, 2, .inr (.inr (.inr (.inr (gRf gb9 lq)))))) :: (a13, .inl (y 2, 2, .inl lfl)) :: gTail y ga8 gb9 q1.2.2.2.1 lq) := hD
    obtain ⟨T11, hT11⟩ : ∃ T : va_W, gTail y ga8 gb9 q1.2.2.2.1 lq = T := ⟨_, rfl⟩
    rw [hT11] at hP hD
    have hF := hF.trans (if_pos h4q)
    refine W.widen (k := 5) (n := 92) (Nat.le_of_ble_eq_true rfl) (Nat.le_of_ble_eq_true rfl) ?_
    refine vx_ret ?_
    rw [← hT11] at hP hD
    exact W.iret (v := q1.2.1) hx hb hr (fun t ht hW => ⟨⟨q1.2.1, ⟨q1.2.2.1, q1.2.2.2.1, q1.2.2.2.2.1, q1.2.2.2.2.2⟩, rfl, hF, ⟨ga8, gb9, by rw [ht]; exact hP, hD⟩⟩, hS.F ht⟩) hS.2.2 dL_tryHammer_6

def f_L_tryAll (tn : Int32) (tf : Nat → Int32) (r : gR) (rc : gR) (qz : Int32) (qn : Int32) (hq : Nat → Option gR) (lq : Nat → Option gR) (lfl : Nat → Int32) (p1 : Int32) : Int32 × gR × (Nat → Option gR) × Int32 × Int32 :=
    gLet (f_X5_all tn tf r rc qz qn hq lq lfl p1) (fun (q1 : Nat × Int32 × gR × (Nat → Option gR) × Int32 × Int32) =>
    if q1.1 = 0 then
      (q1.2.1, q1.2.2.1, q1.2.2.2.1, q1.2.2.2.2.1, q1.2.2.2.2.2)
    else
      if q1.1 = 1 then
        ((-9999002), q1.2.2.1, q1.2.2.2.1, q1.2.2.2.2.1, q1.2.2.2.2.2)
      else
        ((-9999003), q1.2.2.1, q1.2.2.2.1, q1.2.2.2.2.1, q1.2.2.2.2.2))
theorem f_L_tryAll_s (tn : Int32) (tf : Nat → Int32) (r : gR) (rc : gR) (qz : Int32) (qn : Int32) (hq : Nat → Option gR) (lq : Nat → Option gR) (lfl : Nat → Int32) (p1 : Int32) : f_L_tryAll tn tf r rc qz qn hq lq lfl p1 =
    (gLet (f_X5_all tn tf r rc qz qn hq lq lfl p1) (fun (q1 : Nat × Int32 × gR × (Nat → Option gR) × Int32 × Int32) =>
    if q1.1 = 0 then
      (q1.2.1, q1.2.2.1, q1.2.2.2.1, q1.2.2.2.2.1, q1.2.2.2.2.2)
    else
      if q1.1 = 1 then
        ((-9999002), q1.2.2.1, q1.2.2.2.1, q1.2.2.2.2.1, q1.2.2.2.2.2)
      else
        ((-9999003), q1.2.2.1, q1.2.2.2.1, q1.2.2.2.2.1, q1.2.2.2.2.2))) := rfl
theorem hd_L_tryAll : yL_tryAll.cls ≠ "java/lang/invoke/MethodHandle" ∧ yL_tryAll.cls ≠ "java/lang/invoke/VarHandle" ∧ (parseMethodDescriptor yL_tryAll.desc).map (fun d => d.parameters.length) = some 2 := by decide +kernel
set_option maxHeartbeats 4000000 in
set_option maxRecDepth 100000 in
theorem c_L_tryAll (l : Launch) (hst : l.stackTraces = false) (D : va_G) (y : Nat → ClassId) (a0 a1 a2 a3 a4 a5 a6 a7 a8 a9 a10 a11 a12 a13 : Nat) (ga gb : Nat → Nat × Nat × Nat) (zh : Nat) (tn : Int32) (tf : Nat → Int32) (r : gR) (rc : gR) (qz : Int32) (qn : Int32) (hq : Nat → Option gR) (lq : Nat → Option gR) (lfl : Nat → Int32) (p1 : Int32) (hh : 0 ≤ qn.toInt ∧ qn.toInt < (14 : Nat)) (ho : okC r) : Met l yL_tryAll wsL_tryAll ({ frames := 8, cells := 5, slots := 92, locals := 123 }) (lP D y [.ref a0, .int p1] zh ((a0, .inr (4, [.ref a1, .ref a2, .ref a3, .ref a4, .ref a5])) :: (a1, .inr (3, [.ref a6, .int tn])) :: (a6, .inl (y 1, 120, .inl tf)) :: (a2, soF a7 a8 r) :: (a7, soV y r) :: (a8, soW y r) :: (a3, soF a9 a10 rc) :: (a9, soV y rc) :: (a10, soW y rc) :: (a4, .inr (0, [.ref a11, .int qz, .int qn])) :: (a11, .inl (y 3, 14, .inr (.inr (.inr (.inr (gRf ga hq)))))) :: (a5, .inr (1, [.ref a12, .ref a13])) :: (a12, .inl (y 3, 2, .inr (.inr (.inr (.inr (gRf gb lq)))))) :: (a13, .inl (y 2, 2, .inl lfl)) :: gTail y ga gb hq lq)) (va_Qi (fun (v : Int32) (u : gR × (Nat → Option gR) × Int32 × Int32) => f_L_tryAll tn tf r rc qz qn hq lq lfl p1 = (v, u)) (fun (u : gR × (Nat → Option gR) × Int32 × Int32) t => ∃ (g1 g2 : Nat → Nat × Nat × Nat), va_P D vwCl ((a0, .inr (4, [.ref a1, .ref a2, .ref a3, .ref a4, .ref a5])) :: (a1, .inr (3, [.ref a6, .int tn])) :: (a6, .inl (y 1, 120, .inl tf)) :: (a2, soF a7 a8 u.1) :: (a7, soV y u.1) :: (a8, soW y u.1) :: (a3, soF a9 a10 rc) :: (a9, soV y rc) :: (a10, soW y rc) :: (a4, .inr (0, [.ref a11, .int u.2.2.1, .int u.2.2.2])) :: (a11, .inl (y 3, 14, .inr (.inr (.inr (.inr (gRf g1 u.2.1)))))) :: (a5, .inr (1, [.ref a12, .ref a13])) :: (a12, .inl (y 3, 2, .inr (.inr (.inr (.inr (gRf g2 lq)))))) :: (a13, .inl (y 2, 2, .inl lfl)) :: gTail y g1 g2 u.2.1 lq) t.heap ∧ va_D (va_A ((a0, .inr (4, [.ref a1, .ref a2, .ref a3, .ref a4, .ref a5])) :: (a1, .inr (3, [.ref a6, .int tn])) :: (a6, .inl (y 1, 120, .inl tf)) :: (a2, soF a7 a8 r) :: (a7, soV y r) :: (a8, soW y r) :: (a3, soF a9 a10 rc) :: (a9, soV y rc) :: (a10, soW y rc) :: (a4, .inr (0, [.ref a11, .int qz, .int qn])) :: (a11, .inl (y 3, 14, .inr (.inr (.inr (.inr (gRf ga hq)))))) :: (a5, .inr (1, [.ref a12, .ref a13])) :: (a12, .inl (y 3, 2, .inr (.inr (.inr (.inr (gRf gb lq)))))) :: (a13, .inl (y 2, 2, .inl lfl)) :: gTail y ga gb hq lq) zh) ((a0, .inr (4, [.ref a1, .ref a2, .ref a3, .ref a4, .ref a5])) :: (a1, .inr (3, [.ref a6, .int tn])) :: (a6, .inl (y 1, 120, .inl tf)) :: (a2, soF a7 a8 u.1) :: (a7, soV y u.1) :: (a8, soW y u.1) :: (a3, soF a9 a10 rc) :: (a9, soV y rc) :: (a10, soW y rc) :: (a4, .inr (0, [.ref a11, .int u.2.2.1, .int u.2.2.2])) :: (a11, .inl (y 3, 14, .inr (.inr (.inr (.inr (gRf g1 u.2.1)))))) :: (a5, .inr (1, [.ref a12, .ref a13])) :: (a12, .inl (y 3, 2, .inr (.inr (.inr (.inr (gRf g2 lq)))))) :: (a13, .inl (y 2, 2, .inl lfl)) :: gTail y g1 g2 u.2.1 lq)) (va_A ((a0, .inr (4, [.ref a1, .ref a2, .ref a3, .ref a4, .ref a5])) :: (a1, .inr (3, [.ref a6, .int tn])) :: (a6, .inl (y 1, 120, .inl tf)) :: (a2, soF a7 a8 r) :: (a7, soV y r) :: (a8, soW y r) :: (a3, soF a9 a10 rc) :: (a9, soV y rc) :: (a10, soW y rc) :: (a4, .inr (0, [.ref a11, .int qz, .int qn])) :: (a11, .inl (y 3, 14, .inr (.inr (.inr (.inr (gRf ga hq)))))) :: (a5, .inr (1, [.ref a12, .ref a13])) :: (a12, .inl (y 3, 2, .inr (.inr (.inr (.inr (gRf gb lq)))))) :: (a13, .inl (y 2, 2, .inl lfl)) :: gTail y ga gb hq lq) zh)) 5 92 (va_A ((a0, .inr (4, [.ref a1, .ref a2, .ref a3, .ref a4, .ref a5])) :: (a1, .inr (3, [.ref a6, .int tn])) :: (a6, .inl (y 1, 120, .inl tf)) :: (a2, soF a7 a8 r) :: (a7, soV y r) :: (a8, soW y r) :: (a3, soF a9 a10 rc) :: (a9, soV y rc) :: (a10, soW y rc) :: (a4, .inr (0, [.ref a11, .int qz, .int qn])) :: (a11, .inl (y 3, 14, .inr (.inr (.inr (.inr (gRf ga hq)))))) :: (a5, .inr (1, [.ref a12, .ref a13])) :: (a12, .inl (y 3, 2, .inr (.inr (.inr (.inr (gRf gb lq)))))) :: (a13, .inl (y 2, 2, .inl lfl)) :: gTail y ga gb hq lq) zh) := by
  refine xL_of (vx_ofWH (cc := cL_tryAll) (maxL := 3) (ret := (some .int)) (hh := [(0, 5, 6, 13), (0, 5, 10, 24)]) (by decide) rfl ?_)
  intro p e s m args below meth c s₁ B hml hv
  obtain ⟨⟨⟨rfl, hsz, hP, hE, hD⟩, hXE, hXZ⟩, hLN⟩ := hv
  have hx := B.exec
  have hb := B.bytes
  have hr := B.returns
  have hts := atoms_spec (ws := wsL_tryAll) B.pre
  have hown : s.vm.findClass RL = some m.cls := findClass_of_methodNamed B.named
  have hlocks := B.notSynchronized
  have htab := vx_table (x := yL_tryAll) B (hts _ List.mem_cons_self)
  have w_0 := hts (.classLink RL 13 "java/lang/IllegalArgumentException") (List.mem_cons_of_mem _ (List.mem_append_left _ (List.mem_append_left _ (List.mem_append_left _ (List.mem_append_left _ (List.mem_append_left _ (List.mem_append_left _ (List.mem_of_getElem? (i := 0) rfl))))))))
  have w_1 := hts (.classLink RL 24 "java/lang/IllegalStateException") (List.mem_cons_of_mem _ (List.mem_append_left _ (List.mem_append_left _ (List.mem_append_left _ (List.mem_append_left _ (List.mem_append_left _ (List.mem_append_left _ (List.mem_of_getElem? (i := 1) rfl))))))))
  have w_2 := hts (.constant RL 15 (-9999002)) (List.mem_cons_of_mem _ (List.mem_append_left _ (List.mem_append_left _ (List.mem_append_left _ (List.mem_append_left _ (List.mem_append_left _ (List.mem_append_left _ (List.mem_of_getElem? (i := 2) rfl))))))))
  have w_3 := hts (.constant RL 26 (-9999003)) (List.mem_cons_of_mem _ (List.mem_append_left _ (List.mem_append_left _ (List.mem_append_left _ (List.mem_append_left _ (List.mem_append_left _ (List.mem_append_left _ (List.mem_of_getElem? (i := 3) rfl))))))))
  subst hsz
  have hD := hD.self (sz := s.heap.size)
  generalize hAe : va_A ((a0, .inr (4, [.ref a1, .ref a2, .ref a3, .ref a4, .ref a5])) :: (a1, .inr (3, [.ref a6, .int tn])) :: (a6, .inl (y 1, 120, .inl tf)) :: (a2, soF a7 a8 r) :: (a7, soV y r) :: (a8, soW y r) :: (a3, soF a9 a10 rc) :: (a9, soV y rc) :: (a10, soW y rc) :: (a4, .inr (0, [.ref a11, .int qz, .int qn])) :: (a11, .inl (y 3, 14, .inr (.inr (.inr (.inr (gRf ga hq)))))) :: (a5, .inr (1, [.ref a12, .ref a13])) :: (a12, .inl (y 3, 2, .inr (.inr (.inr (.inr (gRf gb lq)))))) :: (a13, .inl (y 2, 2, .inl lfl)) :: gTail y ga gb hq lq) s.heap.size = A at hD hXZ ⊢
  have hA : ∀ q : Nat, s.heap.size ≤ q → A q := fun q h => by rw [← hAe]; exact Or.inr h
  have hS : va_S A s.heap s.heap [] := va_S.rf
  have hl := lv_entry ([.ref a0, .int p1]) (n := 3) (Nat.le_of_ble_eq_true rfl)
  rw [lg_entry_eq]
  generalize (lg_sl ([.ref a0, .int p1]) ++ List.replicate (3 - (lg_sl ([.ref a0, .int p1])).length) Slot.unset).toArray = ls at hl ⊢
  have hl : lv_has ls 3 [(0, .ref a0), (1, .int p1)] := hl
  have hF := f_L_tryAll_s tn tf r rc qz qn hq lq lfl p1
  obtain ⟨T, hT⟩ : ∃ T : va_W, gTail y ga gb hq lq = T := ⟨_, rfl⟩
  rw [hT] at hP hD
  refine lv_aload_n hx hb dL_tryAll_0 rfl (lv_at hl 0 rfl) ?_
  refine lv_iload_n hx hb dL_tryAll_1 rfl (lv_at hl 1 rfl) ?_
  rw [← hT] at hP hD
  obtain ⟨q1, eq1⟩ : ∃ z : Nat × Int32 × gR × (Nat → Option gR) × Int32 × Int32, f_X5_all tn tf r rc qz qn hq lq lfl p1 = z := ⟨_, rfl⟩
  have hF := hF.trans (gLet_e eq1)
  refine xq_callEi (ex := ([] : va_W)) (vx_runV (As := [.int p1]) (rest := []) ⟨hx, hb, hml, hown, hts⟩ (c_X5_all l hst D y a0 a1 a2 a3 a4 a5 a6 a7 a8 a9 a10 a11 a12 a13 ga gb s.heap.size tn tf r rc qz qn hq lq lfl p1 hh ho) (cwV 1 hts gL_tryAll_X5_all rfl rfl rfl hd_X5_all ⟨Nat.le_of_ble_eq_true rfl, Nat.le_of_ble_eq_true rfl⟩) (xV (q := (RX5, TX5, 5)) hE hXE hXZ hS hA hP hD 0 rfl rfl) rfl rfl hl.1 rfl (lv_room (Nat.le_of_ble_eq_true rfl)) dL_tryAll_2 ⟨Nat.le_of_ble_eq_true rfl, Nat.le_of_ble_eq_true rfl⟩) hP hD hS hA (fun E5 ce6 a97 u3 ga8 gb9 H locs h4 hP hD hS h4a h4b h4c => ?_) (fun v2 u3 ga8 gb9 H locs h4 hP hD hS => ?_)
  · have h4q : q1.1 = xc E5 := by rw [← eq1, h4.1]
    obtain rfl : q1.2.2 = u3 := by rw [← eq1, h4.1]
    have hP : va_P D vwCl ((a0, .inr (4, [.ref a1, .ref a2, .ref a3, .ref a4, .ref a5])) :: (a1, .inr (3, [.ref a6, .int tn])) :: (a6, .inl (y 1, 120, .inl tf)) :: (a2, soF a7 a8 q1.2.2.1) :: (a7, soV y q1.2.2.1) :: (a8, soW y q1.2.2.1) :: (a3, soF a9 a10 rc) :: (a9, soV y rc) :: (a10, soW y rc) :: (a4, .inr (0, [.ref a11, .int q1.2.2.2.2.1, .int q1.2.2.2.2.2])) :: (a11, .inl (y 3, 14, .inr (.inr (.inr (.inr (gRf ga8 q1.2.2.2.1)))))) :: (a5, .inr (1, [.ref a12, .ref a13])) :: (a12, .inl (y 3, 2, .inr (.inr (.inr (.inr (gRf gb9 lq)))))) :: (a13, .inl (y 2, 2, .inl lfl)) :: gTail y ga8 gb9 q1.2.2.2.1 lq) H := hP
    have hD : va_D A ((a0, .inr (4, [.ref a1, .ref a2, .ref a3, .ref a4, .ref a5])) :: (a1, .inr (3, [.ref a6, .int tn])) :: (a6, .inl (y 1, 120, .inl tf)) :: (a2, soF a7 a8 q1.2.2.1) :: (a7, soV y q1.2.2.1) :: (a8, soW y q1.2.2.1) :: (a3, soF a9 a10 rc) :: (a9, soV y rc) :: (a10, soW y rc) :: (a4, .inr (0, [.ref a11, .int q1.2.2.2.2.1, .int q1.2.2.2.2.2])) :: (a11, .inl (y 3, 14, .inr (.inr (.inr (.inr (gRf ga8 q1.2.2.2.1)))))) :: (a5, .inr (1, [.ref a12, .ref a13])) :: (a12, .inl (y 3, 2, .inr (.inr (.inr (.inr (gRf gb9 lq)))))) :: (a13, .inl (y 2, 2, .inl lfl)) :: gTail y ga8 gb9 q1.2.2.2.1 lq) := hD
    obtain ⟨T10, hT10⟩ : ∃ T : va_W, gTail y ga8 gb9 q1.2.2.2.1 lq = T := ⟨_, rfl⟩
    rw [hT10] at hP hD
    rcases xc_E h4.2 with rfl | rfl | rfl
    · rw [xc_IA] at h4q
      have hF := hF.trans (if_neg (show ¬ q1.1 = 0 by rw [h4q]; decide))
      have hF := hF.trans (if_pos h4q)
      refine vx_catch hown (tableOf []) ⟨0, 5, 6, 13⟩ (tableOf [(0, 5, 10, 24)]) (htab.trans rfl) (fun z hz => nomatch hz) (by decide) (by decide) w_0 (hXE.1.1.1.use rfl) h4a h4b h4c ?_
      refine W.eq (g2 := F0 m 6 ls [.ref a97]) rfl ?_
      refine lv_astore_n (lv' := [(2, .ref a97), (0, .ref a0), (1, .int p1)]) hx hb dL_tryAll_6 rfl hl (by decide) rfl (fun ls hl => ?_)
      refine lv_ldc (v := (-9999002)) hx hb hown w_2 dL_tryAll_7 ?_
      refine W.widen (k := 5) (n := 92) (Nat.le_of_ble_eq_true rfl) (Nat.le_of_ble_eq_true rfl) ?_
      refine vx_ret ?_
      rw [← hT10] at hP hD
      exact W.iret (v := (-9999002)) hx hb hr (fun t ht hW => ⟨⟨(-9999002), ⟨q1.2.2.1, q1.2.2.2.1, q1.2.2.2.2.1, q1.2.2.2.2.2⟩, rfl, hF, ⟨ga8, gb9, by rw [ht]; exact hP, hD⟩⟩, hS.F ht⟩) hS.2.2 dL_tryAll_9
    · rw [xc_IS] at h4q
      have hF := hF.trans (if_neg (show ¬ q1.1 = 0 by rw [h4q]; decide))
      have hF := hF.trans (if_neg (show ¬ q1.1 = 1 by rw [h4q]; decide))
      refine vx_catch hown (tableOf [(0, 5, 6, 13)]) ⟨0, 5, 10, 24⟩ (tableOf []) (htab.trans rfl) (fun z hz => by simp only [tableOf, List.map_cons, List.map_nil, List.mem_cons, List.not_mem_nil, or_false] at hz; rcases hz with rfl; exact Or.inr ⟨by decide, _, w_0, hLN.2.1.1⟩) (by decide) (by decide) w_1 (hXE.1.1.2.1.use rfl) h4a h4b h4c ?_
      refine W.eq (g2 := F0 m 10 ls [.ref a97]) rfl ?_
      refine lv_astore_n (lv' := [(2, .ref a97), (0, .ref a0), (1, .int p1)]) hx hb dL_tryAll_10 rfl hl (by decide) rfl (fun ls hl => ?_)
      refine lv_ldc (v := (-9999003)) hx hb hown w_3 dL_tryAll_11 ?_
      refine W.widen (k := 5) (n := 92) (Nat.le_of_ble_eq_true rfl) (Nat.le_of_ble_eq_true rfl) ?_
      refine vx_ret ?_
      rw [← hT10] at hP hD
      exact W.iret (v := (-9999003)) hx hb hr (fun t ht hW => ⟨⟨(-9999003), ⟨q1.2.2.1, q1.2.2.2.1, q1.2.2.2.2.1, q1.2.2.2.2.2⟩, rfl, hF, ⟨ga8, gb9, by rw [ht]; exact hP, hD⟩⟩, hS.F ht⟩) hS.2.2 dL_tryAll_13
    · rw [xc_IO] at h4q
      have hc := cd_X5_all tn tf r rc qz qn hq lq lfl p1
      rw [eq1, h4q] at hc
      exact absurd hc (by decide)
  · have h4q : q1.1 = 0 := by rw [← eq1, h4]
    obtain ⟨rfl, rfl⟩ : q1.2.1 = v2 ∧ q1.2.2 = u3 := ⟨by rw [← eq1, h4], by rw [← eq1, h4]⟩
    have hP : va_P D vwCl ((a0, .inr (4, [.ref a1, .ref a2, .ref a3, .ref a4, .ref a5])) :: (a1, .inr (3, [.ref a6, .int tn])) :: (a6, .inl (y 1, 120, .inl tf)) :: (a2, soF a7 a8 q1.2.2.1) :: (a7, soV y q1.2.2.1) :: (a8, soW y q1.2.2.1) :: (a3, soF a9 a10 rc) :: (a9, soV y rc) :: (a10, soW y rc) :: (a4, .inr (0, [.ref a11, .int q1.2.2.2.2.1, .int q1.2.2.2.2.2])) :: (a11, .inl (y 3, 14, .inr (.inr (.inr (.inr (gRf ga8 q1.2.2.2.1)))))) :: (a5, .inr (1, [.ref a12, .ref a13])) :: (a12, .inl (y 3, 2, .inr (.inr (.inr (.inr (gRf gb9 lq)))))) :: (a13, .inl (y 2, 2, .inl lfl)) :: gTail y ga8 gb9 q1.2.2.2.1 lq) H := hP
    have hD : va_D A ((a0, .inr (4, [.ref a1, .ref a2, .ref a3, .ref a4, .ref a5])) :: (a1, .inr (3, [.ref a6, .int tn])) :: (a6, .inl (y 1, 120, .inl tf)) :: (a2, soF a7 a8 q1.2.2.1) :: (a7, soV y q1.2.2.1) :: (a8, soW y q1.2.2.1) :: (a3, soF a9 a10 rc) :: (a9, soV y rc) :: (a10, soW y rc) :: (a4, .inr (0, [.ref a11, .int q1.2.2.2.2.1, .int q1.2.2.2.2.2])) :: (a11, .inl (y 3, 14, .inr (.inr (.inr (.inr (gRf ga8 q1.2.2.2.1)))))) :: (a5, .inr (1, [.ref a12, .ref a13])) :: (a12, .inl (y 3, 2, .inr (.inr (.inr (.inr (gRf gb9 lq)))))) :: (a13, .inl (y 2, 2, .inl lfl)) :: gTail y ga8 gb9 q1.2.2.2.1 lq) := hD
    obtain ⟨T11, hT11⟩ : ∃ T : va_W, gTail y ga8 gb9 q1.2.2.2.1 lq = T := ⟨_, rfl⟩
    rw [hT11] at hP hD
    have hF := hF.trans (if_pos h4q)
    refine W.widen (k := 5) (n := 92) (Nat.le_of_ble_eq_true rfl) (Nat.le_of_ble_eq_true rfl) ?_
    refine vx_ret ?_
    rw [← hT11] at hP hD
    exact W.iret (v := q1.2.1) hx hb hr (fun t ht hW => ⟨⟨q1.2.1, ⟨q1.2.2.1, q1.2.2.2.1, q1.2.2.2.2.1, q1.2.2.2.2.2⟩, rfl, hF, ⟨ga8, gb9, by rw [ht]; exact hP, hD⟩⟩, hS.F ht⟩) hS.2.2 dL_tryAll_5

def f_L_tryLay (tn : Int32) (tf : Nat → Int32) (r : gR) (rc : gR) (qz : Int32) (qn : Int32) (hq : Nat → Option gR) (lq : Nat → Option gR) (lfl : Nat → Int32) (p1 : Int32) (p2 : Int32) : Int32 × gR × (Nat → Option gR) × Int32 × Int32 :=
    gLet (f_X5_set tn tf r rc qz qn hq lq lfl p1 p2) (fun (q1 : Nat × Int32 × gR × (Nat → Option gR) × Int32 × Int32) =>
    if q1.1 = 0 then
      (q1.2.1, q1.2.2.1, q1.2.2.2.1, q1.2.2.2.2.1, q1.2.2.2.2.2)
    else
      ((-9999002), q1.2.2.1, q1.2.2.2.1, q1.2.2.2.2.1, q1.2.2.2.2.2))
theorem f_L_tryLay_s (tn : Int32) (tf : Nat → Int32) (r : gR) (rc : gR) (qz : Int32) (qn : Int32) (hq : Nat → Option gR) (lq : Nat → Option gR) (lfl : Nat → Int32) (p1 : Int32) (p2 : Int32) : f_L_tryLay tn tf r rc qz qn hq lq lfl p1 p2 =
    (gLet (f_X5_set tn tf r rc qz qn hq lq lfl p1 p2) (fun (q1 : Nat × Int32 × gR × (Nat → Option gR) × Int32 × Int32) =>
    if q1.1 = 0 then
      (q1.2.1, q1.2.2.1, q1.2.2.2.1, q1.2.2.2.2.1, q1.2.2.2.2.2)
    else
      ((-9999002), q1.2.2.1, q1.2.2.2.1, q1.2.2.2.2.1, q1.2.2.2.2.2))) := rfl
theorem hd_L_tryLay : yL_tryLay.cls ≠ "java/lang/invoke/MethodHandle" ∧ yL_tryLay.cls ≠ "java/lang/invoke/VarHandle" ∧ (parseMethodDescriptor yL_tryLay.desc).map (fun d => d.parameters.length) = some 3 := by decide +kernel
set_option maxHeartbeats 4000000 in
set_option maxRecDepth 100000 in
theorem c_L_tryLay (l : Launch) (hst : l.stackTraces = false) (D : va_G) (y : Nat → ClassId) (a0 a1 a2 a3 a4 a5 a6 a7 a8 a9 a10 a11 a12 a13 : Nat) (ga gb : Nat → Nat × Nat × Nat) (zh : Nat) (tn : Int32) (tf : Nat → Int32) (r : gR) (rc : gR) (qz : Int32) (qn : Int32) (hq : Nat → Option gR) (lq : Nat → Option gR) (lfl : Nat → Int32) (p1 : Int32) (p2 : Int32) (hh : 0 ≤ qn.toInt ∧ qn.toInt < (14 : Nat)) (ho : okC r) : Met l yL_tryLay wsL_tryLay ({ frames := 7, cells := 5, slots := 92, locals := 105 }) (lP D y [.ref a0, .int p1, .int p2] zh ((a0, .inr (4, [.ref a1, .ref a2, .ref a3, .ref a4, .ref a5])) :: (a1, .inr (3, [.ref a6, .int tn])) :: (a6, .inl (y 1, 120, .inl tf)) :: (a2, soF a7 a8 r) :: (a7, soV y r) :: (a8, soW y r) :: (a3, soF a9 a10 rc) :: (a9, soV y rc) :: (a10, soW y rc) :: (a4, .inr (0, [.ref a11, .int qz, .int qn])) :: (a11, .inl (y 3, 14, .inr (.inr (.inr (.inr (gRf ga hq)))))) :: (a5, .inr (1, [.ref a12, .ref a13])) :: (a12, .inl (y 3, 2, .inr (.inr (.inr (.inr (gRf gb lq)))))) :: (a13, .inl (y 2, 2, .inl lfl)) :: gTail y ga gb hq lq)) (va_Qi (fun (v : Int32) (u : gR × (Nat → Option gR) × Int32 × Int32) => f_L_tryLay tn tf r rc qz qn hq lq lfl p1 p2 = (v, u)) (fun (u : gR × (Nat → Option gR) × Int32 × Int32) t => ∃ (g1 g2 : Nat → Nat × Nat × Nat), va_P D vwCl ((a0, .inr (4, [.ref a1, .ref a2, .ref a3, .ref a4, .ref a5])) :: (a1, .inr (3, [.ref a6, .int tn])) :: (a6, .inl (y 1, 120, .inl tf)) :: (a2, soF a7 a8 u.1) :: (a7, soV y u.1) :: (a8, soW y u.1) :: (a3, soF a9 a10 rc) :: (a9, soV y rc) :: (a10, soW y rc) :: (a4, .inr (0, [.ref a11, .int u.2.2.1, .int u.2.2.2])) :: (a11, .inl (y 3, 14, .inr (.inr (.inr (.inr (gRf g1 u.2.1)))))) :: (a5, .inr (1, [.ref a12, .ref a13])) :: (a12, .inl (y 3, 2, .inr (.inr (.inr (.inr (gRf g2 lq)))))) :: (a13, .inl (y 2, 2, .inl lfl)) :: gTail y g1 g2 u.2.1 lq) t.heap ∧ va_D (va_A ((a0, .inr (4, [.ref a1, .ref a2, .ref a3, .ref a4, .ref a5])) :: (a1, .inr (3, [.ref a6, .int tn])) :: (a6, .inl (y 1, 120, .inl tf)) :: (a2, soF a7 a8 r) :: (a7, soV y r) :: (a8, soW y r) :: (a3, soF a9 a10 rc) :: (a9, soV y rc) :: (a10, soW y rc) :: (a4, .inr (0, [.ref a11, .int qz, .int qn])) :: (a11, .inl (y 3, 14, .inr (.inr (.inr (.inr (gRf ga hq)))))) :: (a5, .inr (1, [.ref a12, .ref a13])) :: (a12, .inl (y 3, 2, .inr (.inr (.inr (.inr (gRf gb lq)))))) :: (a13, .inl (y 2, 2, .inl lfl)) :: gTail y ga gb hq lq) zh) ((a0, .inr (4, [.ref a1, .ref a2, .ref a3, .ref a4, .ref a5])) :: (a1, .inr (3, [.ref a6, .int tn])) :: (a6, .inl (y 1, 120, .inl tf)) :: (a2, soF a7 a8 u.1) :: (a7, soV y u.1) :: (a8, soW y u.1) :: (a3, soF a9 a10 rc) :: (a9, soV y rc) :: (a10, soW y rc) :: (a4, .inr (0, [.ref a11, .int u.2.2.1, .int u.2.2.2])) :: (a11, .inl (y 3, 14, .inr (.inr (.inr (.inr (gRf g1 u.2.1)))))) :: (a5, .inr (1, [.ref a12, .ref a13])) :: (a12, .inl (y 3, 2, .inr (.inr (.inr (.inr (gRf g2 lq)))))) :: (a13, .inl (y 2, 2, .inl lfl)) :: gTail y g1 g2 u.2.1 lq)) (va_A ((a0, .inr (4, [.ref a1, .ref a2, .ref a3, .ref a4, .ref a5])) :: (a1, .inr (3, [.ref a6, .int tn])) :: (a6, .inl (y 1, 120, .inl tf)) :: (a2, soF a7 a8 r) :: (a7, soV y r) :: (a8, soW y r) :: (a3, soF a9 a10 rc) :: (a9, soV y rc) :: (a10, soW y rc) :: (a4, .inr (0, [.ref a11, .int qz, .int qn])) :: (a11, .inl (y 3, 14, .inr (.inr (.inr (.inr (gRf ga hq)))))) :: (a5, .inr (1, [.ref a12, .ref a13])) :: (a12, .inl (y 3, 2, .inr (.inr (.inr (.inr (gRf gb lq)))))) :: (a13, .inl (y 2, 2, .inl lfl)) :: gTail y ga gb hq lq) zh)) 5 92 (va_A ((a0, .inr (4, [.ref a1, .ref a2, .ref a3, .ref a4, .ref a5])) :: (a1, .inr (3, [.ref a6, .int tn])) :: (a6, .inl (y 1, 120, .inl tf)) :: (a2, soF a7 a8 r) :: (a7, soV y r) :: (a8, soW y r) :: (a3, soF a9 a10 rc) :: (a9, soV y rc) :: (a10, soW y rc) :: (a4, .inr (0, [.ref a11, .int qz, .int qn])) :: (a11, .inl (y 3, 14, .inr (.inr (.inr (.inr (gRf ga hq)))))) :: (a5, .inr (1, [.ref a12, .ref a13])) :: (a12, .inl (y 3, 2, .inr (.inr (.inr (.inr (gRf gb lq)))))) :: (a13, .inl (y 2, 2, .inl lfl)) :: gTail y ga gb hq lq) zh) := by
  refine xL_of (vx_ofWH (cc := cL_tryLay) (maxL := 4) (ret := (some .int)) (hh := [(0, 6, 7, 13)]) (by decide) rfl ?_)
  intro p e s m args below meth c s₁ B hml hv
  obtain ⟨⟨⟨rfl, hsz, hP, hE, hD⟩, hXE, hXZ⟩, hLN⟩ := hv
  have hx := B.exec
  have hb := B.bytes
  have hr := B.returns
  have hts := atoms_spec (ws := wsL_tryLay) B.pre
  have hown : s.vm.findClass RL = some m.cls := findClass_of_methodNamed B.named
  have hlocks := B.notSynchronized
  have htab := vx_table (x := yL_tryLay) B (hts _ List.mem_cons_self)
  have w_0 := hts (.classLink RL 13 "java/lang/IllegalArgumentException") (List.mem_cons_of_mem _ (List.mem_append_left _ (List.mem_append_left _ (List.mem_append_left _ (List.mem_append_left _ (List.mem_append_left _ (List.mem_of_getElem? (i := 0) rfl)))))))
  have w_1 := hts (.constant RL 15 (-9999002)) (List.mem_cons_of_mem _ (List.mem_append_left _ (List.mem_append_left _ (List.mem_append_left _ (List.mem_append_left _ (List.mem_append_left _ (List.mem_of_getElem? (i := 1) rfl)))))))
  subst hsz
  have hD := hD.self (sz := s.heap.size)
  generalize hAe : va_A ((a0, .inr (4, [.ref a1, .ref a2, .ref a3, .ref a4, .ref a5])) :: (a1, .inr (3, [.ref a6, .int tn])) :: (a6, .inl (y 1, 120, .inl tf)) :: (a2, soF a7 a8 r) :: (a7, soV y r) :: (a8, soW y r) :: (a3, soF a9 a10 rc) :: (a9, soV y rc) :: (a10, soW y rc) :: (a4, .inr (0, [.ref a11, .int qz, .int qn])) :: (a11, .inl (y 3, 14, .inr (.inr (.inr (.inr (gRf ga hq)))))) :: (a5, .inr (1, [.ref a12, .ref a13])) :: (a12, .inl (y 3, 2, .inr (.inr (.inr (.inr (gRf gb lq)))))) :: (a13, .inl (y 2, 2, .inl lfl)) :: gTail y ga gb hq lq) s.heap.size = A at hD hXZ ⊢
  have hA : ∀ q : Nat, s.heap.size ≤ q → A q := fun q h => by rw [← hAe]; exact Or.inr h
  have hS : va_S A s.heap s.heap [] := va_S.rf
  have hl := lv_entry ([.ref a0, .int p1, .int p2]) (n := 4) (Nat.le_of_ble_eq_true rfl)
  rw [lg_entry_eq]
  generalize (lg_sl ([.ref a0, .int p1, .int p2]) ++ List.replicate (4 - (lg_sl ([.ref a0, .int p1, .int p2])).length) Slot.unset).toArray = ls at hl ⊢
  have hl : lv_has ls 4 [(0, .ref a0), (1, .int p1), (2, .int p2)] := hl
  have hF := f_L_tryLay_s tn tf r rc qz qn hq lq lfl p1 p2
  obtain ⟨T, hT⟩ : ∃ T : va_W, gTail y ga gb hq lq = T := ⟨_, rfl⟩
  rw [hT] at hP hD
  refine lv_aload_n hx hb dL_tryLay_0 rfl (lv_at hl 0 rfl) ?_
  refine lv_iload_n hx hb dL_tryLay_1 rfl (lv_at hl 1 rfl) ?_
  refine lv_iload_n hx hb dL_tryLay_2 rfl (lv_at hl 2 rfl) ?_
  rw [← hT] at hP hD
  obtain ⟨q1, eq1⟩ : ∃ z : Nat × Int32 × gR × (Nat → Option gR) × Int32 × Int32, f_X5_set tn tf r rc qz qn hq lq lfl p1 p2 = z := ⟨_, rfl⟩
  have hF := hF.trans (gLet_e eq1)
  refine xq_callEi (ex := ([] : va_W)) (vx_runV (As := [.int p1, .int p2]) (rest := []) ⟨hx, hb, hml, hown, hts⟩ (c_X5_set l hst D y a0 a1 a2 a3 a4 a5 a6 a7 a8 a9 a10 a11 a12 a13 ga gb s.heap.size tn tf r rc qz qn hq lq lfl p1 p2 hh ho) (cwV 2 hts gL_tryLay_X5_set rfl rfl rfl hd_X5_set ⟨Nat.le_of_ble_eq_true rfl, Nat.le_of_ble_eq_true rfl⟩) (xV (q := (RX5, TX5, 5)) hE hXE hXZ hS hA hP hD 0 rfl rfl) rfl rfl hl.1 rfl (lv_room (Nat.le_of_ble_eq_true rfl)) dL_tryLay_3 ⟨Nat.le_of_ble_eq_true rfl, Nat.le_of_ble_eq_true rfl⟩) hP hD hS hA (fun E5 ce6 a97 u3 ga8 gb9 H locs h4 hP hD hS h4a h4b h4c => ?_) (fun v2 u3 ga8 gb9 H locs h4 hP hD hS => ?_)
  · have h4q : q1.1 = xc E5 := by rw [← eq1, h4.1]
    obtain rfl : q1.2.2 = u3 := by rw [← eq1, h4.1]
    have hP : va_P D vwCl ((a0, .inr (4, [.ref a1, .ref a2, .ref a3, .ref a4, .ref a5])) :: (a1, .inr (3, [.ref a6, .int tn])) :: (a6, .inl (y 1, 120, .inl tf)) :: (a2, soF a7 a8 q1.2.2.1) :: (a7, soV y q1.2.2.1) :: (a8, soW y q1.2.2.1) :: (a3, soF a9 a10 rc) :: (a9, soV y rc) :: (a10, soW y rc) :: (a4, .inr (0, [.ref a11, .int q1.2.2.2.2.1, .int q1.2.2.2.2.2])) :: (a11, .inl (y 3, 14, .inr (.inr (.inr (.inr (gRf ga8 q1.2.2.2.1)))))) :: (a5, .inr (1, [.ref a12, .ref a13])) :: (a12, .inl (y 3, 2, .inr (.inr (.inr (.inr (gRf gb9 lq)))))) :: (a13, .inl (y 2, 2, .inl lfl)) :: gTail y ga8 gb9 q1.2.2.2.1 lq) H := hP
    have hD : va_D A ((a0, .inr (4, [.ref a1, .ref a2, .ref a3, .ref a4, .ref a5])) :: (a1, .inr (3, [.ref a6, .int tn])) :: (a6, .inl (y 1, 120, .inl tf)) :: (a2, soF a7 a8 q1.2.2.1) :: (a7, soV y q1.2.2.1) :: (a8, soW y q1.2.2.1) :: (a3, soF a9 a10 rc) :: (a9, soV y rc) :: (a10, soW y rc) :: (a4, .inr (0, [.ref a11, .int q1.2.2.2.2.1, .int q1.2.2.2.2.2])) :: (a11, .inl (y 3, 14, .inr (.inr (.inr (.inr (gRf ga8 q1.2.2.2.1)))))) :: (a5, .inr (1, [.ref a12, .ref a13])) :: (a12, .inl (y 3, 2, .inr (.inr (.inr (.inr (gRf gb9 lq)))))) :: (a13, .inl (y 2, 2, .inl lfl)) :: gTail y ga8 gb9 q1.2.2.2.1 lq) := hD
    obtain ⟨T10, hT10⟩ : ∃ T : va_W, gTail y ga8 gb9 q1.2.2.2.1 lq = T := ⟨_, rfl⟩
    rw [hT10] at hP hD
    rcases xc_E h4.2 with rfl | rfl | rfl
    · rw [xc_IA] at h4q
      have hF := hF.trans (if_neg (show ¬ q1.1 = 0 by rw [h4q]; decide))
      refine vx_catch hown (tableOf []) ⟨0, 6, 7, 13⟩ (tableOf []) (htab.trans rfl) (fun z hz => nomatch hz) (by decide) (by decide) w_0 (hXE.1.1.1.use rfl) h4a h4b h4c ?_
      refine W.eq (g2 := F0 m 7 ls [.ref a97]) rfl ?_
      refine lv_astore_n (lv' := [(3, .ref a97), (0, .ref a0), (1, .int p1), (2, .int p2)]) hx hb dL_tryLay_7 rfl hl (by decide) rfl (fun ls hl => ?_)
      refine lv_ldc (v := (-9999002)) hx hb hown w_1 dL_tryLay_8 ?_
      refine W.widen (k := 5) (n := 92) (Nat.le_of_ble_eq_true rfl) (Nat.le_of_ble_eq_true rfl) ?_
      refine vx_ret ?_
      rw [← hT10] at hP hD
      exact W.iret (v := (-9999002)) hx hb hr (fun t ht hW => ⟨⟨(-9999002), ⟨q1.2.2.1, q1.2.2.2.1, q1.2.2.2.2.1, q1.2.2.2.2.2⟩, rfl, hF, ⟨ga8, gb9, by rw [ht]; exact hP, hD⟩⟩, hS.F ht⟩) hS.2.2 dL_tryLay_10
    · rw [xc_IS] at h4q
      have hc := cd_X5_set tn tf r rc qz qn hq lq lfl p1 p2
      rw [eq1, h4q] at hc
      exact absurd hc (by decide)
    · rw [xc_IO] at h4q
      have hc := cd_X5_set tn tf r rc qz qn hq lq lfl p1 p2
      rw [eq1, h4q] at hc
      exact absurd hc (by decide)
  · have h4q : q1.1 = 0 := by rw [← eq1, h4]
    obtain ⟨rfl, rfl⟩ : q1.2.1 = v2 ∧ q1.2.2 = u3 := ⟨by rw [← eq1, h4], by rw [← eq1, h4]⟩
    have hP : va_P D vwCl ((a0, .inr (4, [.ref a1, .ref a2, .ref a3, .ref a4, .ref a5])) :: (a1, .inr (3, [.ref a6, .int tn])) :: (a6, .inl (y 1, 120, .inl tf)) :: (a2, soF a7 a8 q1.2.2.1) :: (a7, soV y q1.2.2.1) :: (a8, soW y q1.2.2.1) :: (a3, soF a9 a10 rc) :: (a9, soV y rc) :: (a10, soW y rc) :: (a4, .inr (0, [.ref a11, .int q1.2.2.2.2.1, .int q1.2.2.2.2.2])) :: (a11, .inl (y 3, 14, .inr (.inr (.inr (.inr (gRf ga8 q1.2.2.2.1)))))) :: (a5, .inr (1, [.ref a12, .ref a13])) :: (a12, .inl (y 3, 2, .inr (.inr (.inr (.inr (gRf gb9 lq)))))) :: (a13, .inl (y 2, 2, .inl lfl)) :: gTail y ga8 gb9 q1.2.2.2.1 lq) H := hP
    have hD : va_D A ((a0, .inr (4, [.ref a1, .ref a2, .ref a3, .ref a4, .ref a5])) :: (a1, .inr (3, [.ref a6, .int tn])) :: (a6, .inl (y 1, 120, .inl tf)) :: (a2, soF a7 a8 q1.2.2.1) :: (a7, soV y q1.2.2.1) :: (a8, soW y q1.2.2.1) :: (a3, soF a9 a10 rc) :: (a9, soV y rc) :: (a10, soW y rc) :: (a4, .inr (0, [.ref a11, .int q1.2.2.2.2.1, .int q1.2.2.2.2.2])) :: (a11, .inl (y 3, 14, .inr (.inr (.inr (.inr (gRf ga8 q1.2.2.2.1)))))) :: (a5, .inr (1, [.ref a12, .ref a13])) :: (a12, .inl (y 3, 2, .inr (.inr (.inr (.inr (gRf gb9 lq)))))) :: (a13, .inl (y 2, 2, .inl lfl)) :: gTail y ga8 gb9 q1.2.2.2.1 lq) := hD
    obtain ⟨T11, hT11⟩ : ∃ T : va_W, gTail y ga8 gb9 q1.2.2.2.1 lq = T := ⟨_, rfl⟩
    rw [hT11] at hP hD
    have hF := hF.trans (if_pos h4q)
    refine W.widen (k := 5) (n := 92) (Nat.le_of_ble_eq_true rfl) (Nat.le_of_ble_eq_true rfl) ?_
    refine vx_ret ?_
    rw [← hT11] at hP hD
    exact W.iret (v := q1.2.1) hx hb hr (fun t ht hW => ⟨⟨q1.2.1, ⟨q1.2.2.1, q1.2.2.2.1, q1.2.2.2.2.1, q1.2.2.2.2.2⟩, rfl, hF, ⟨ga8, gb9, by rw [ht]; exact hP, hD⟩⟩, hS.F ht⟩) hS.2.2 dL_tryLay_6

def f_L_tryUndo (tn : Int32) (tf : Nat → Int32) (r : gR) (rc : gR) (qz : Int32) (qn : Int32) (hq : Nat → Option gR) (lq : Nat → Option gR) (lfl : Nat → Int32) : Int32 × gR × Int32 × Int32 :=
    gLet (f_X5_undo tn tf r rc qz qn hq lq lfl) (fun (q1 : Nat × Int32 × gR × Int32 × Int32) =>
    if q1.1 = 0 then
      (q1.2.1, q1.2.2.1, q1.2.2.2.1, q1.2.2.2.2)
    else
      ((-9999003), q1.2.2.1, q1.2.2.2.1, q1.2.2.2.2))
theorem f_L_tryUndo_s (tn : Int32) (tf : Nat → Int32) (r : gR) (rc : gR) (qz : Int32) (qn : Int32) (hq : Nat → Option gR) (lq : Nat → Option gR) (lfl : Nat → Int32) : f_L_tryUndo tn tf r rc qz qn hq lq lfl =
    (gLet (f_X5_undo tn tf r rc qz qn hq lq lfl) (fun (q1 : Nat × Int32 × gR × Int32 × Int32) =>
    if q1.1 = 0 then
      (q1.2.1, q1.2.2.1, q1.2.2.2.1, q1.2.2.2.2)
    else
      ((-9999003), q1.2.2.1, q1.2.2.2.1, q1.2.2.2.2))) := rfl
theorem hd_L_tryUndo : yL_tryUndo.cls ≠ "java/lang/invoke/MethodHandle" ∧ yL_tryUndo.cls ≠ "java/lang/invoke/VarHandle" ∧ (parseMethodDescriptor yL_tryUndo.desc).map (fun d => d.parameters.length) = some 1 := by decide +kernel
set_option maxHeartbeats 4000000 in
set_option maxRecDepth 100000 in
theorem c_L_tryUndo (l : Launch) (hst : l.stackTraces = false) (D : va_G) (y : Nat → ClassId) (a0 a1 a2 a3 a4 a5 a6 a7 a8 a9 a10 a11 a12 a13 : Nat) (ga gb : Nat → Nat × Nat × Nat) (zh : Nat) (tn : Int32) (tf : Nat → Int32) (r : gR) (rc : gR) (qz : Int32) (qn : Int32) (hq : Nat → Option gR) (lq : Nat → Option gR) (lfl : Nat → Int32) (hh : 0 ≤ qn.toInt ∧ qn.toInt < (14 : Nat)) (hoq : okQ hq) : Met l yL_tryUndo wsL_tryUndo ({ frames := 7, cells := 2, slots := 12, locals := 102 }) (lP D y [.ref a0] zh ((a0, .inr (4, [.ref a1, .ref a2, .ref a3, .ref a4, .ref a5])) :: (a1, .inr (3, [.ref a6, .int tn])) :: (a6, .inl (y 1, 120, .inl tf)) :: (a2, soF a7 a8 r) :: (a7, soV y r) :: (a8, soW y r) :: (a3, soF a9 a10 rc) :: (a9, soV y rc) :: (a10, soW y rc) :: (a4, .inr (0, [.ref a11, .int qz, .int qn])) :: (a11, .inl (y 3, 14, .inr (.inr (.inr (.inr (gRf ga hq)))))) :: (a5, .inr (1, [.ref a12, .ref a13])) :: (a12, .inl (y 3, 2, .inr (.inr (.inr (.inr (gRf gb lq)))))) :: (a13, .inl (y 2, 2, .inl lfl)) :: gTail y ga gb hq lq)) (va_Qi (fun (v : Int32) (u : gR × Int32 × Int32) => f_L_tryUndo tn tf r rc qz qn hq lq lfl = (v, u)) (fun (u : gR × Int32 × Int32) t => ∃ (g1 g2 : Nat → Nat × Nat × Nat), va_P D vwCl ((a0, .inr (4, [.ref a1, .ref a2, .ref a3, .ref a4, .ref a5])) :: (a1, .inr (3, [.ref a6, .int tn])) :: (a6, .inl (y 1, 120, .inl tf)) :: (a2, soF a7 a8 u.1) :: (a7, soV y u.1) :: (a8, soW y u.1) :: (a3, soF a9 a10 rc) :: (a9, soV y rc) :: (a10, soW y rc) :: (a4, .inr (0, [.ref a11, .int u.2.1, .int u.2.2])) :: (a11, .inl (y 3, 14, .inr (.inr (.inr (.inr (gRf g1 hq)))))) :: (a5, .inr (1, [.ref a12, .ref a13])) :: (a12, .inl (y 3, 2, .inr (.inr (.inr (.inr (gRf g2 lq)))))) :: (a13, .inl (y 2, 2, .inl lfl)) :: gTail y g1 g2 hq lq) t.heap ∧ va_D (va_A ((a0, .inr (4, [.ref a1, .ref a2, .ref a3, .ref a4, .ref a5])) :: (a1, .inr (3, [.ref a6, .int tn])) :: (a6, .inl (y 1, 120, .inl tf)) :: (a2, soF a7 a8 r) :: (a7, soV y r) :: (a8, soW y r) :: (a3, soF a9 a10 rc) :: (a9, soV y rc) :: (a10, soW y rc) :: (a4, .inr (0, [.ref a11, .int qz, .int qn])) :: (a11, .inl (y 3, 14, .inr (.inr (.inr (.inr (gRf ga hq)))))) :: (a5, .inr (1, [.ref a12, .ref a13])) :: (a12, .inl (y 3, 2, .inr (.inr (.inr (.inr (gRf gb lq)))))) :: (a13, .inl (y 2, 2, .inl lfl)) :: gTail y ga gb hq lq) zh) ((a0, .inr (4, [.ref a1, .ref a2, .ref a3, .ref a4, .ref a5])) :: (a1, .inr (3, [.ref a6, .int tn])) :: (a6, .inl (y 1, 120, .inl tf)) :: (a2, soF a7 a8 u.1) :: (a7, soV y u.1) :: (a8, soW y u.1) :: (a3, soF a9 a10 rc) :: (a9, soV y rc) :: (a10, soW y rc) :: (a4, .inr (0, [.ref a11, .int u.2.1, .int u.2.2])) :: (a11, .inl (y 3, 14, .inr (.inr (.inr (.inr (gRf g1 hq)))))) :: (a5, .inr (1, [.ref a12, .ref a13])) :: (a12, .inl (y 3, 2, .inr (.inr (.inr (.inr (gRf g2 lq)))))) :: (a13, .inl (y 2, 2, .inl lfl)) :: gTail y g1 g2 hq lq)) (va_A ((a0, .inr (4, [.ref a1, .ref a2, .ref a3, .ref a4, .ref a5])) :: (a1, .inr (3, [.ref a6, .int tn])) :: (a6, .inl (y 1, 120, .inl tf)) :: (a2, soF a7 a8 r) :: (a7, soV y r) :: (a8, soW y r) :: (a3, soF a9 a10 rc) :: (a9, soV y rc) :: (a10, soW y rc) :: (a4, .inr (0, [.ref a11, .int qz, .int qn])) :: (a11, .inl (y 3, 14, .inr (.inr (.inr (.inr (gRf ga hq)))))) :: (a5, .inr (1, [.ref a12, .ref a13])) :: (a12, .inl (y 3, 2, .inr (.inr (.inr (.inr (gRf gb lq)))))) :: (a13, .inl (y 2, 2, .inl lfl)) :: gTail y ga gb hq lq) zh)) 2 12 (va_A ((a0, .inr (4, [.ref a1, .ref a2, .ref a3, .ref a4, .ref a5])) :: (a1, .inr (3, [.ref a6, .int tn])) :: (a6, .inl (y 1, 120, .inl tf)) :: (a2, soF a7 a8 r) :: (a7, soV y r) :: (a8, soW y r) :: (a3, soF a9 a10 rc) :: (a9, soV y rc) :: (a10, soW y rc) :: (a4, .inr (0, [.ref a11, .int qz, .int qn])) :: (a11, .inl (y 3, 14, .inr (.inr (.inr (.inr (gRf ga hq)))))) :: (a5, .inr (1, [.ref a12, .ref a13])) :: (a12, .inl (y 3, 2, .inr (.inr (.inr (.inr (gRf gb lq)))))) :: (a13, .inl (y 2, 2, .inl lfl)) :: gTail y ga gb hq lq) zh) := by
  refine xL_of (vx_ofWH (cc := cL_tryUndo) (maxL := 2) (ret := (some .int)) (hh := [(0, 4, 5, 24)]) (by decide) rfl ?_)
  intro p e s m args below meth c s₁ B hml hv
  obtain ⟨⟨⟨rfl, hsz, hP, hE, hD⟩, hXE, hXZ⟩, hLN⟩ := hv
  have hx := B.exec
  have hb := B.bytes
  have hr := B.returns
  have hts := atoms_spec (ws := wsL_tryUndo) B.pre
  have hown : s.vm.findClass RL = some m.cls := findClass_of_methodNamed B.named
  have hlocks := B.notSynchronized
  have htab := vx_table (x := yL_tryUndo) B (hts _ List.mem_cons_self)
  have w_0 := hts (.classLink RL 24 "java/lang/IllegalStateException") (List.mem_cons_of_mem _ (List.mem_append_left _ (List.mem_append_left _ (List.mem_append_left _ (List.mem_append_left _ (List.mem_append_left _ (List.mem_of_getElem? (i := 0) rfl)))))))
  have w_1 := hts (.constant RL 26 (-9999003)) (List.mem_cons_of_mem _ (List.mem_append_left _ (List.mem_append_left _ (List.mem_append_left _ (List.mem_append_left _ (List.mem_append_left _ (List.mem_of_getElem? (i := 1) rfl)))))))
  subst hsz
  have hD := hD.self (sz := s.heap.size)
  generalize hAe : va_A ((a0, .inr (4, [.ref a1, .ref a2, .ref a3, .ref a4, .ref a5])) :: (a1, .inr (3, [.ref a6, .int tn])) :: (a6, .inl (y 1, 120, .inl tf)) :: (a2, soF a7 a8 r) :: (a7, soV y r) :: (a8, soW y r) :: (a3, soF a9 a10 rc) :: (a9, soV y rc) :: (a10, soW y rc) :: (a4, .inr (0, [.ref a11, .int qz, .int qn])) :: (a11, .inl (y 3, 14, .inr (.inr (.inr (.inr (gRf ga hq)))))) :: (a5, .inr (1, [.ref a12, .ref a13])) :: (a12, .inl (y 3, 2, .inr (.inr (.inr (.inr (gRf gb lq)))))) :: (a13, .inl (y 2, 2, .inl lfl)) :: gTail y ga gb hq lq) s.heap.size = A at hD hXZ ⊢
  have hA : ∀ q : Nat, s.heap.size ≤ q → A q := fun q h => by rw [← hAe]; exact Or.inr h
  have hS : va_S A s.heap s.heap [] := va_S.rf
  have hl := lv_entry ([.ref a0]) (n := 2) (Nat.le_of_ble_eq_true rfl)
  rw [lg_entry_eq]
  generalize (lg_sl ([.ref a0]) ++ List.replicate (2 - (lg_sl ([.ref a0])).length) Slot.unset).toArray = ls at hl ⊢
  have hl : lv_has ls 2 [(0, .ref a0)] := hl
  have hF := f_L_tryUndo_s tn tf r rc qz qn hq lq lfl
  obtain ⟨T, hT⟩ : ∃ T : va_W, gTail y ga gb hq lq = T := ⟨_, rfl⟩
  rw [hT] at hP hD
  refine lv_aload_n hx hb dL_tryUndo_0 rfl (lv_at hl 0 rfl) ?_
  rw [← hT] at hP hD
  obtain ⟨q1, eq1⟩ : ∃ z : Nat × Int32 × gR × Int32 × Int32, f_X5_undo tn tf r rc qz qn hq lq lfl = z := ⟨_, rfl⟩
  have hF := hF.trans (gLet_e eq1)
  refine xq_callEi (ex := ([] : va_W)) (vx_runV (As := []) (rest := []) ⟨hx, hb, hml, hown, hts⟩ (c_X5_undo l hst D y a0 a1 a2 a3 a4 a5 a6 a7 a8 a9 a10 a11 a12 a13 ga gb s.heap.size tn tf r rc qz qn hq lq lfl hh hoq) (cwV 0 hts gL_tryUndo_X5_undo rfl rfl rfl hd_X5_undo ⟨Nat.le_of_ble_eq_true rfl, Nat.le_of_ble_eq_true rfl⟩) (xV (q := (RX5, TX5, 5)) hE hXE hXZ hS hA hP hD 0 rfl rfl) rfl rfl hl.1 rfl (lv_room (Nat.le_of_ble_eq_true rfl)) dL_tryUndo_1 ⟨Nat.le_of_ble_eq_true rfl, Nat.le_of_ble_eq_true rfl⟩) hP hD hS hA (fun E5 ce6 a97 u3 ga8 gb9 H locs h4 hP hD hS h4a h4b h4c => ?_) (fun v2 u3 ga8 gb9 H locs h4 hP hD hS => ?_)
  · have h4q : q1.1 = xc E5 := by rw [← eq1, h4.1]
    obtain rfl : q1.2.2 = u3 := by rw [← eq1, h4.1]
    have hP : va_P D vwCl ((a0, .inr (4, [.ref a1, .ref a2, .ref a3, .ref a4, .ref a5])) :: (a1, .inr (3, [.ref a6, .int tn])) :: (a6, .inl (y 1, 120, .inl tf)) :: (a2, soF a7 a8 q1.2.2.1) :: (a7, soV y q1.2.2.1) :: (a8, soW y q1.2.2.1) :: (a3, soF a9 a10 rc) :: (a9, soV y rc) :: (a10, soW y rc) :: (a4, .inr (0, [.ref a11, .int q1.2.2.2.1, .int q1.2.2.2.2])) :: (a11, .inl (y 3, 14, .inr (.inr (.inr (.inr (gRf ga8 hq)))))) :: (a5, .inr (1, [.ref a12, .ref a13])) :: (a12, .inl (y 3, 2, .inr (.inr (.inr (.inr (gRf gb9 lq)))))) :: (a13, .inl (y 2, 2, .inl lfl)) :: gTail y ga8 gb9 hq lq) H := hP
    have hD : va_D A ((a0, .inr (4, [.ref a1, .ref a2, .ref a3, .ref a4, .ref a5])) :: (a1, .inr (3, [.ref a6, .int tn])) :: (a6, .inl (y 1, 120, .inl tf)) :: (a2, soF a7 a8 q1.2.2.1) :: (a7, soV y q1.2.2.1) :: (a8, soW y q1.2.2.1) :: (a3, soF a9 a10 rc) :: (a9, soV y rc) :: (a10, soW y rc) :: (a4, .inr (0, [.ref a11, .int q1.2.2.2.1, .int q1.2.2.2.2])) :: (a11, .inl (y 3, 14, .inr (.inr (.inr (.inr (gRf ga8 hq)))))) :: (a5, .inr (1, [.ref a12, .ref a13])) :: (a12, .inl (y 3, 2, .inr (.inr (.inr (.inr (gRf gb9 lq)))))) :: (a13, .inl (y 2, 2, .inl lfl)) :: gTail y ga8 gb9 hq lq) := hD
    obtain ⟨T10, hT10⟩ : ∃ T : va_W, gTail y ga8 gb9 hq lq = T := ⟨_, rfl⟩
    rw [hT10] at hP hD
    rcases xc_E h4.2 with rfl | rfl | rfl
    · rw [xc_IA] at h4q
      have hc := cd_X5_undo tn tf r rc qz qn hq lq lfl
      rw [eq1, h4q] at hc
      exact absurd hc (by decide)
    · rw [xc_IS] at h4q
      have hF := hF.trans (if_neg (show ¬ q1.1 = 0 by rw [h4q]; decide))
      refine vx_catch hown (tableOf []) ⟨0, 4, 5, 24⟩ (tableOf []) (htab.trans rfl) (fun z hz => nomatch hz) (by decide) (by decide) w_0 (hXE.1.1.2.1.use rfl) h4a h4b h4c ?_
      refine W.eq (g2 := F0 m 5 ls [.ref a97]) rfl ?_
      refine lv_astore_n (lv' := [(1, .ref a97), (0, .ref a0)]) hx hb dL_tryUndo_5 rfl hl (by decide) rfl (fun ls hl => ?_)
      refine lv_ldc (v := (-9999003)) hx hb hown w_1 dL_tryUndo_6 ?_
      refine W.widen (k := 2) (n := 12) (Nat.le_of_ble_eq_true rfl) (Nat.le_of_ble_eq_true rfl) ?_
      refine vx_ret ?_
      rw [← hT10] at hP hD
      exact W.iret (v := (-9999003)) hx hb hr (fun t ht hW => ⟨⟨(-9999003), ⟨q1.2.2.1, q1.2.2.2.1, q1.2.2.2.2⟩, rfl, hF, ⟨ga8, gb9, by rw [ht]; exact hP, hD⟩⟩, hS.F ht⟩) hS.2.2 dL_tryUndo_8
    · rw [xc_IO] at h4q
      have hc := cd_X5_undo tn tf r rc qz qn hq lq lfl
      rw [eq1, h4q] at hc
      exact absurd hc (by decide)
  · have h4q : q1.1 = 0 := by rw [← eq1, h4]
    obtain ⟨rfl, rfl⟩ : q1.2.1 = v2 ∧ q1.2.2 = u3 := ⟨by rw [← eq1, h4], by rw [← eq1, h4]⟩
    have hP : va_P D vwCl ((a0, .inr (4, [.ref a1, .ref a2, .ref a3, .ref a4, .ref a5])) :: (a1, .inr (3, [.ref a6, .int tn])) :: (a6, .inl (y 1, 120, .inl tf)) :: (a2, soF a7 a8 q1.2.2.1) :: (a7, soV y q1.2.2.1) :: (a8, soW y q1.2.2.1) :: (a3, soF a9 a10 rc) :: (a9, soV y rc) :: (a10, soW y rc) :: (a4, .inr (0, [.ref a11, .int q1.2.2.2.1, .int q1.2.2.2.2])) :: (a11, .inl (y 3, 14, .inr (.inr (.inr (.inr (gRf ga8 hq)))))) :: (a5, .inr (1, [.ref a12, .ref a13])) :: (a12, .inl (y 3, 2, .inr (.inr (.inr (.inr (gRf gb9 lq)))))) :: (a13, .inl (y 2, 2, .inl lfl)) :: gTail y ga8 gb9 hq lq) H := hP
    have hD : va_D A ((a0, .inr (4, [.ref a1, .ref a2, .ref a3, .ref a4, .ref a5])) :: (a1, .inr (3, [.ref a6, .int tn])) :: (a6, .inl (y 1, 120, .inl tf)) :: (a2, soF a7 a8 q1.2.2.1) :: (a7, soV y q1.2.2.1) :: (a8, soW y q1.2.2.1) :: (a3, soF a9 a10 rc) :: (a9, soV y rc) :: (a10, soW y rc) :: (a4, .inr (0, [.ref a11, .int q1.2.2.2.1, .int q1.2.2.2.2])) :: (a11, .inl (y 3, 14, .inr (.inr (.inr (.inr (gRf ga8 hq)))))) :: (a5, .inr (1, [.ref a12, .ref a13])) :: (a12, .inl (y 3, 2, .inr (.inr (.inr (.inr (gRf gb9 lq)))))) :: (a13, .inl (y 2, 2, .inl lfl)) :: gTail y ga8 gb9 hq lq) := hD
    obtain ⟨T11, hT11⟩ : ∃ T : va_W, gTail y ga8 gb9 hq lq = T := ⟨_, rfl⟩
    rw [hT11] at hP hD
    have hF := hF.trans (if_pos h4q)
    refine W.widen (k := 2) (n := 12) (Nat.le_of_ble_eq_true rfl) (Nat.le_of_ble_eq_true rfl) ?_
    refine vx_ret ?_
    rw [← hT11] at hP hD
    exact W.iret (v := q1.2.1) hx hb hr (fun t ht hW => ⟨⟨q1.2.1, ⟨q1.2.2.1, q1.2.2.2.1, q1.2.2.2.2⟩, rfl, hF, ⟨ga8, gb9, by rw [ht]; exact hP, hD⟩⟩, hS.F ht⟩) hS.2.2 dL_tryUndo_4
